section
-- ===== PART A: goes FIRST, ahead of the names: the tables' words, and 'selects' of the private methods out of them =====
/-- a private method of a class that the tables say can be made, by its rows of tables_1 -/
def lw_okq (q : MethodName × Nat) : Prop := (q.1.cls ≠ "java/lang/invoke/MethodHandle" ∧ q.1.cls ≠ "java/lang/invoke/VarHandle") ∧ Cond.instantiable q.1.cls q.2 ∈ tables_1 ∧ Cond.privateMethod q.1 ∈ tables_1 ∧ Cond.instanceMethod q.1 ∈ tables_1
theorem lw_p0 : lw_okq (⟨"java/util/ArrayList", "add", "(Ljava/lang/Object;[Ljava/lang/Object;I)V"⟩, 3) := ⟨⟨by decide +kernel, by decide +kernel⟩, List.mem_of_getElem? (i := 122) (by decide +kernel), List.mem_of_getElem? (i := 283) (by decide +kernel), List.mem_of_getElem? (i := 284) (by decide +kernel)⟩
theorem lw_p1 : lw_okq (⟨"java/util/ArrayList", "grow", "()[Ljava/lang/Object;"⟩, 3) := ⟨⟨by decide +kernel, by decide +kernel⟩, List.mem_of_getElem? (i := 122) (by decide +kernel), List.mem_of_getElem? (i := 287) (by decide +kernel), List.mem_of_getElem? (i := 288) (by decide +kernel)⟩
theorem lw_p2 : lw_okq (⟨"java/util/ArrayList", "grow", "(I)[Ljava/lang/Object;"⟩, 3) := ⟨⟨by decide +kernel, by decide +kernel⟩, List.mem_of_getElem? (i := 122) (by decide +kernel), List.mem_of_getElem? (i := 291) (by decide +kernel), List.mem_of_getElem? (i := 292) (by decide +kernel)⟩
theorem lw_p3 : lw_okq (⟨"KnotCaller", "isStepAsTold", "(III)Z"⟩, 5) := ⟨⟨by decide +kernel, by decide +kernel⟩, List.mem_of_getElem? (i := 27) (by decide +kernel), List.mem_of_getElem? (i := 343) (by decide +kernel), List.mem_of_getElem? (i := 344) (by decide +kernel)⟩
theorem lw_p4 : lw_okq (⟨"KnotCaller$Caller", "measure", "(IIII)I"⟩, 9) := ⟨⟨by decide +kernel, by decide +kernel⟩, List.mem_of_getElem? (i := 116) (by decide +kernel), List.mem_of_getElem? (i := 413) (by decide +kernel), List.mem_of_getElem? (i := 414) (by decide +kernel)⟩
theorem lw_p5 : lw_okq (⟨"KnotCaller$Caller", "added", "(LKnotCaller$Step;IIII)I"⟩, 9) := ⟨⟨by decide +kernel, by decide +kernel⟩, List.mem_of_getElem? (i := 116) (by decide +kernel), List.mem_of_getElem? (i := 418) (by decide +kernel), List.mem_of_getElem? (i := 419) (by decide +kernel)⟩
theorem lw_p6 : lw_okq (⟨"KnotCaller$Caller", "write", "(III)V"⟩, 9) := ⟨⟨by decide +kernel, by decide +kernel⟩, List.mem_of_getElem? (i := 116) (by decide +kernel), List.mem_of_getElem? (i := 432) (by decide +kernel), List.mem_of_getElem? (i := 433) (by decide +kernel)⟩
theorem lw_p7 : lw_okq (⟨"KnotCaller$Caller", "writeStep", "(LKnotCaller$Step;III)V"⟩, 9) := ⟨⟨by decide +kernel, by decide +kernel⟩, List.mem_of_getElem? (i := 116) (by decide +kernel), List.mem_of_getElem? (i := 436) (by decide +kernel), List.mem_of_getElem? (i := 437) (by decide +kernel)⟩
theorem lw_p8 : lw_okq (⟨"KnotCaller$Caller", "writeColour", "(II)V"⟩, 9) := ⟨⟨by decide +kernel, by decide +kernel⟩, List.mem_of_getElem? (i := 116) (by decide +kernel), List.mem_of_getElem? (i := 440) (by decide +kernel), List.mem_of_getElem? (i := 441) (by decide +kernel)⟩
theorem lw_p9 : lw_okq (⟨"KnotCaller$Caller", "writeKnot", "(I)V"⟩, 9) := ⟨⟨by decide +kernel, by decide +kernel⟩, List.mem_of_getElem? (i := 116) (by decide +kernel), List.mem_of_getElem? (i := 444) (by decide +kernel), List.mem_of_getElem? (i := 445) (by decide +kernel)⟩
theorem lw_p10 : lw_okq (⟨"KnotCaller$Caller", "writeBackward", "(II)V"⟩, 9) := ⟨⟨by decide +kernel, by decide +kernel⟩, List.mem_of_getElem? (i := 116) (by decide +kernel), List.mem_of_getElem? (i := 448) (by decide +kernel), List.mem_of_getElem? (i := 449) (by decide +kernel)⟩
theorem lw_p11 : lw_okq (⟨"KnotCaller$Caller", "writeAgain", "(II)V"⟩, 9) := ⟨⟨by decide +kernel, by decide +kernel⟩, List.mem_of_getElem? (i := 116) (by decide +kernel), List.mem_of_getElem? (i := 456) (by decide +kernel), List.mem_of_getElem? (i := 457) (by decide +kernel)⟩
theorem lw_p12 : lw_okq (⟨"KnotCaller$Caller", "writeLike", "(III)V"⟩, 9) := ⟨⟨by decide +kernel, by decide +kernel⟩, List.mem_of_getElem? (i := 116) (by decide +kernel), List.mem_of_getElem? (i := 460) (by decide +kernel), List.mem_of_getElem? (i := 461) (by decide +kernel)⟩
theorem lw_p13 : lw_okq (⟨"KnotCaller$Caller", "isMendedBy", "(III)Z"⟩, 9) := ⟨⟨by decide +kernel, by decide +kernel⟩, List.mem_of_getElem? (i := 116) (by decide +kernel), List.mem_of_getElem? (i := 489) (by decide +kernel), List.mem_of_getElem? (i := 490) (by decide +kernel)⟩
theorem lw_p14 : lw_okq (⟨"KnotCaller$Carpet", "knotsHeard", "(LKnotCaller$Caller;I)I"⟩, 6) := ⟨⟨by decide +kernel, by decide +kernel⟩, List.mem_of_getElem? (i := 38) (by decide +kernel), List.mem_of_getElem? (i := 555) (by decide +kernel), List.mem_of_getElem? (i := 556) (by decide +kernel)⟩
theorem lw_p15 : lw_okq (⟨"KnotCaller$Carpet", "layColour", "(LKnotCaller$Caller;I)V"⟩, 6) := ⟨⟨by decide +kernel, by decide +kernel⟩, List.mem_of_getElem? (i := 38) (by decide +kernel), List.mem_of_getElem? (i := 564) (by decide +kernel), List.mem_of_getElem? (i := 565) (by decide +kernel)⟩
def lw_privs_1 : List (MethodName × Nat) := [(⟨"java/util/ArrayList", "add", "(Ljava/lang/Object;[Ljava/lang/Object;I)V"⟩, 3), (⟨"java/util/ArrayList", "grow", "()[Ljava/lang/Object;"⟩, 3), (⟨"java/util/ArrayList", "grow", "(I)[Ljava/lang/Object;"⟩, 3), (⟨"KnotCaller", "isStepAsTold", "(III)Z"⟩, 5), (⟨"KnotCaller$Caller", "measure", "(IIII)I"⟩, 9), (⟨"KnotCaller$Caller", "added", "(LKnotCaller$Step;IIII)I"⟩, 9), (⟨"KnotCaller$Caller", "write", "(III)V"⟩, 9), (⟨"KnotCaller$Caller", "writeStep", "(LKnotCaller$Step;III)V"⟩, 9), (⟨"KnotCaller$Caller", "writeColour", "(II)V"⟩, 9), (⟨"KnotCaller$Caller", "writeKnot", "(I)V"⟩, 9), (⟨"KnotCaller$Caller", "writeBackward", "(II)V"⟩, 9), (⟨"KnotCaller$Caller", "writeAgain", "(II)V"⟩, 9), (⟨"KnotCaller$Caller", "writeLike", "(III)V"⟩, 9), (⟨"KnotCaller$Caller", "isMendedBy", "(III)Z"⟩, 9), (⟨"KnotCaller$Carpet", "knotsHeard", "(LKnotCaller$Caller;I)I"⟩, 6), (⟨"KnotCaller$Carpet", "layColour", "(LKnotCaller$Caller;I)V"⟩, 6)]
theorem lw_r1 : ∀ q ∈ lw_privs_1, lw_okq q := List.forall_mem_cons.mpr ⟨lw_p0, List.forall_mem_cons.mpr ⟨lw_p1, List.forall_mem_cons.mpr ⟨lw_p2, List.forall_mem_cons.mpr ⟨lw_p3, List.forall_mem_cons.mpr ⟨lw_p4, List.forall_mem_cons.mpr ⟨lw_p5, List.forall_mem_cons.mpr ⟨lw_p6, List.forall_mem_cons.mpr ⟨lw_p7, List.forall_mem_cons.mpr ⟨lw_p8, List.forall_mem_cons.mpr ⟨lw_p9, List.forall_mem_cons.mpr ⟨lw_p10, List.forall_mem_cons.mpr ⟨lw_p11, List.forall_mem_cons.mpr ⟨lw_p12, List.forall_mem_cons.mpr ⟨lw_p13, List.forall_mem_cons.mpr ⟨lw_p14, List.forall_mem_cons.mpr ⟨lw_p15, fun _ h => absurd h List.not_mem_nil⟩⟩⟩⟩⟩⟩⟩⟩⟩⟩⟩⟩⟩⟩⟩⟩
theorem lw_p16 : lw_okq (⟨"KnotCaller$Carpet", "minutesFor", "(LKnotCaller$Row;)I"⟩, 6) := ⟨⟨by decide +kernel, by decide +kernel⟩, List.mem_of_getElem? (i := 38) (by decide +kernel), List.mem_of_getElem? (i := 580) (by decide +kernel), List.mem_of_getElem? (i := 581) (by decide +kernel)⟩
theorem lw_p17 : lw_okq (⟨"KnotCaller$Carpet", "shiftsOf", "(IZ)I"⟩, 6) := ⟨⟨by decide +kernel, by decide +kernel⟩, List.mem_of_getElem? (i := 38) (by decide +kernel), List.mem_of_getElem? (i := 627) (by decide +kernel), List.mem_of_getElem? (i := 628) (by decide +kernel)⟩
theorem lw_p18 : lw_okq (⟨"KnotCaller$Carpet", "faultsAt", "(I)I"⟩, 6) := ⟨⟨by decide +kernel, by decide +kernel⟩, List.mem_of_getElem? (i := 38) (by decide +kernel), List.mem_of_getElem? (i := 648) (by decide +kernel), List.mem_of_getElem? (i := 649) (by decide +kernel)⟩
theorem lw_p19 : lw_okq (⟨"KnotCaller$Villages", "growTree", "()V"⟩, 8) := ⟨⟨by decide +kernel, by decide +kernel⟩, List.mem_of_getElem? (i := 178) (by decide +kernel), List.mem_of_getElem? (i := 705) (by decide +kernel), List.mem_of_getElem? (i := 706) (by decide +kernel)⟩
theorem lw_p20 : lw_okq (⟨"KnotCaller$Villages", "apart", "(II)I"⟩, 8) := ⟨⟨by decide +kernel, by decide +kernel⟩, List.mem_of_getElem? (i := 178) (by decide +kernel), List.mem_of_getElem? (i := 709) (by decide +kernel), List.mem_of_getElem? (i := 710) (by decide +kernel)⟩
theorem lw_p21 : lw_okq (⟨"KnotCaller$Villages", "join", "(II)V"⟩, 8) := ⟨⟨by decide +kernel, by decide +kernel⟩, List.mem_of_getElem? (i := 178) (by decide +kernel), List.mem_of_getElem? (i := 719) (by decide +kernel), List.mem_of_getElem? (i := 720) (by decide +kernel)⟩
theorem lw_p22 : lw_okq (⟨"KnotCaller$Villages", "splitSet", "(II)V"⟩, 8) := ⟨⟨by decide +kernel, by decide +kernel⟩, List.mem_of_getElem? (i := 178) (by decide +kernel), List.mem_of_getElem? (i := 743) (by decide +kernel), List.mem_of_getElem? (i := 744) (by decide +kernel)⟩
theorem lw_p23 : lw_okq (⟨"KnotCaller$Villages", "linkBranch", "(III)V"⟩, 8) := ⟨⟨by decide +kernel, by decide +kernel⟩, List.mem_of_getElem? (i := 178) (by decide +kernel), List.mem_of_getElem? (i := 747) (by decide +kernel), List.mem_of_getElem? (i := 748) (by decide +kernel)⟩
theorem lw_p24 : lw_okq (⟨"KnotCaller$Villages", "addTrees", "(III)V"⟩, 8) := ⟨⟨by decide +kernel, by decide +kernel⟩, List.mem_of_getElem? (i := 178) (by decide +kernel), List.mem_of_getElem? (i := 751) (by decide +kernel), List.mem_of_getElem? (i := 752) (by decide +kernel)⟩
theorem lw_p25 : lw_okq (⟨"KnotCaller", "keepStep", "(LKnotCaller$Shelf;II)I"⟩, 5) := ⟨⟨by decide +kernel, by decide +kernel⟩, List.mem_of_getElem? (i := 27) (by decide +kernel), List.mem_of_getElem? (i := 778) (by decide +kernel), List.mem_of_getElem? (i := 779) (by decide +kernel)⟩
theorem lw_p26 : lw_okq (⟨"KnotCaller", "keepColours", "(LKnotCaller$Shelf;I)I"⟩, 5) := ⟨⟨by decide +kernel, by decide +kernel⟩, List.mem_of_getElem? (i := 27) (by decide +kernel), List.mem_of_getElem? (i := 788) (by decide +kernel), List.mem_of_getElem? (i := 789) (by decide +kernel)⟩
theorem lw_p27 : lw_okq (⟨"KnotCaller", "keepMinutes", "(LKnotCaller$Shelf;)I"⟩, 5) := ⟨⟨by decide +kernel, by decide +kernel⟩, List.mem_of_getElem? (i := 27) (by decide +kernel), List.mem_of_getElem? (i := 798) (by decide +kernel), List.mem_of_getElem? (i := 799) (by decide +kernel)⟩
theorem lw_p28 : lw_okq (⟨"KnotCaller", "stepOn", "(I)LKnotCaller$Step;"⟩, 5) := ⟨⟨by decide +kernel, by decide +kernel⟩, List.mem_of_getElem? (i := 27) (by decide +kernel), List.mem_of_getElem? (i := 823) (by decide +kernel), List.mem_of_getElem? (i := 824) (by decide +kernel)⟩
theorem lw_p29 : lw_okq (⟨"KnotCaller", "whyNoStepOn", "(I)I"⟩, 5) := ⟨⟨by decide +kernel, by decide +kernel⟩, List.mem_of_getElem? (i := 27) (by decide +kernel), List.mem_of_getElem? (i := 827) (by decide +kernel), List.mem_of_getElem? (i := 828) (by decide +kernel)⟩
theorem lw_p30 : lw_okq (⟨"java/lang/Throwable", "fillInStackTrace", "(I)Ljava/lang/Throwable;"⟩, 6) := ⟨⟨by decide +kernel, by decide +kernel⟩, List.mem_of_getElem? (i := 883) (by decide +kernel), List.mem_of_getElem? (i := 881) (by decide +kernel), List.mem_of_getElem? (i := 882) (by decide +kernel)⟩
theorem lw_p31 : lw_okq (⟨"KnotCallerModel", "in", "(III)Z"⟩, 42) := ⟨⟨by decide +kernel, by decide +kernel⟩, List.mem_of_getElem? (i := 946) (by decide +kernel), List.mem_of_getElem? (i := 1087) (by decide +kernel), List.mem_of_getElem? (i := 1088) (by decide +kernel)⟩
def lw_privs_2 : List (MethodName × Nat) := [(⟨"KnotCaller$Carpet", "minutesFor", "(LKnotCaller$Row;)I"⟩, 6), (⟨"KnotCaller$Carpet", "shiftsOf", "(IZ)I"⟩, 6), (⟨"KnotCaller$Carpet", "faultsAt", "(I)I"⟩, 6), (⟨"KnotCaller$Villages", "growTree", "()V"⟩, 8), (⟨"KnotCaller$Villages", "apart", "(II)I"⟩, 8), (⟨"KnotCaller$Villages", "join", "(II)V"⟩, 8), (⟨"KnotCaller$Villages", "splitSet", "(II)V"⟩, 8), (⟨"KnotCaller$Villages", "linkBranch", "(III)V"⟩, 8), (⟨"KnotCaller$Villages", "addTrees", "(III)V"⟩, 8), (⟨"KnotCaller", "keepStep", "(LKnotCaller$Shelf;II)I"⟩, 5), (⟨"KnotCaller", "keepColours", "(LKnotCaller$Shelf;I)I"⟩, 5), (⟨"KnotCaller", "keepMinutes", "(LKnotCaller$Shelf;)I"⟩, 5), (⟨"KnotCaller", "stepOn", "(I)LKnotCaller$Step;"⟩, 5), (⟨"KnotCaller", "whyNoStepOn", "(I)I"⟩, 5), (⟨"java/lang/Throwable", "fillInStackTrace", "(I)Ljava/lang/Throwable;"⟩, 6), (⟨"KnotCallerModel", "in", "(III)Z"⟩, 42)]
theorem lw_r2 : ∀ q ∈ lw_privs_2, lw_okq q := List.forall_mem_cons.mpr ⟨lw_p16, List.forall_mem_cons.mpr ⟨lw_p17, List.forall_mem_cons.mpr ⟨lw_p18, List.forall_mem_cons.mpr ⟨lw_p19, List.forall_mem_cons.mpr ⟨lw_p20, List.forall_mem_cons.mpr ⟨lw_p21, List.forall_mem_cons.mpr ⟨lw_p22, List.forall_mem_cons.mpr ⟨lw_p23, List.forall_mem_cons.mpr ⟨lw_p24, List.forall_mem_cons.mpr ⟨lw_p25, List.forall_mem_cons.mpr ⟨lw_p26, List.forall_mem_cons.mpr ⟨lw_p27, List.forall_mem_cons.mpr ⟨lw_p28, List.forall_mem_cons.mpr ⟨lw_p29, List.forall_mem_cons.mpr ⟨lw_p30, List.forall_mem_cons.mpr ⟨lw_p31, fun _ h => absurd h List.not_mem_nil⟩⟩⟩⟩⟩⟩⟩⟩⟩⟩⟩⟩⟩⟩⟩⟩
theorem lw_p32 : lw_okq (⟨"KnotCallerModel", "hasColour", "(I)Z"⟩, 42) := ⟨⟨by decide +kernel, by decide +kernel⟩, List.mem_of_getElem? (i := 946) (by decide +kernel), List.mem_of_getElem? (i := 1091) (by decide +kernel), List.mem_of_getElem? (i := 1092) (by decide +kernel)⟩
theorem lw_p33 : lw_okq (⟨"KnotCallerModel", "isColour", "(I)Z"⟩, 42) := ⟨⟨by decide +kernel, by decide +kernel⟩, List.mem_of_getElem? (i := 946) (by decide +kernel), List.mem_of_getElem? (i := 1095) (by decide +kernel), List.mem_of_getElem? (i := 1096) (by decide +kernel)⟩
theorem lw_p34 : lw_okq (⟨"KnotCallerModel", "hasNumber", "(I)Z"⟩, 42) := ⟨⟨by decide +kernel, by decide +kernel⟩, List.mem_of_getElem? (i := 946) (by decide +kernel), List.mem_of_getElem? (i := 1099) (by decide +kernel), List.mem_of_getElem? (i := 1100) (by decide +kernel)⟩
theorem lw_p35 : lw_okq (⟨"KnotCallerModel", "isChant", "(I)Z"⟩, 42) := ⟨⟨by decide +kernel, by decide +kernel⟩, List.mem_of_getElem? (i := 946) (by decide +kernel), List.mem_of_getElem? (i := 1107) (by decide +kernel), List.mem_of_getElem? (i := 1108) (by decide +kernel)⟩
theorem lw_p36 : lw_okq (⟨"KnotCallerModel", "call", "(I)I"⟩, 42) := ⟨⟨by decide +kernel, by decide +kernel⟩, List.mem_of_getElem? (i := 946) (by decide +kernel), List.mem_of_getElem? (i := 1111) (by decide +kernel), List.mem_of_getElem? (i := 1112) (by decide +kernel)⟩
theorem lw_p37 : lw_okq (⟨"KnotCallerModel", "stepOf", "(III)Z"⟩, 42) := ⟨⟨by decide +kernel, by decide +kernel⟩, List.mem_of_getElem? (i := 946) (by decide +kernel), List.mem_of_getElem? (i := 1115) (by decide +kernel), List.mem_of_getElem? (i := 1116) (by decide +kernel)⟩
theorem lw_p38 : lw_okq (⟨"KnotCallerModel", "add", "(I)Z"⟩, 42) := ⟨⟨by decide +kernel, by decide +kernel⟩, List.mem_of_getElem? (i := 946) (by decide +kernel), List.mem_of_getElem? (i := 1119) (by decide +kernel), List.mem_of_getElem? (i := 1120) (by decide +kernel)⟩
theorem lw_p39 : lw_okq (⟨"KnotCallerModel", "addAll", "(IIZ)Z"⟩, 42) := ⟨⟨by decide +kernel, by decide +kernel⟩, List.mem_of_getElem? (i := 946) (by decide +kernel), List.mem_of_getElem? (i := 1123) (by decide +kernel), List.mem_of_getElem? (i := 1124) (by decide +kernel)⟩
theorem lw_p40 : lw_okq (⟨"KnotCallerModel", "below", "(II)I"⟩, 42) := ⟨⟨by decide +kernel, by decide +kernel⟩, List.mem_of_getElem? (i := 946) (by decide +kernel), List.mem_of_getElem? (i := 1127) (by decide +kernel), List.mem_of_getElem? (i := 1128) (by decide +kernel)⟩
theorem lw_p41 : lw_okq (⟨"KnotCallerModel", "findMend", "(I)I"⟩, 42) := ⟨⟨by decide +kernel, by decide +kernel⟩, List.mem_of_getElem? (i := 946) (by decide +kernel), List.mem_of_getElem? (i := 1143) (by decide +kernel), List.mem_of_getElem? (i := 1144) (by decide +kernel)⟩
theorem lw_p42 : lw_okq (⟨"KnotCallerModel", "isEnough", "()Z"⟩, 42) := ⟨⟨by decide +kernel, by decide +kernel⟩, List.mem_of_getElem? (i := 946) (by decide +kernel), List.mem_of_getElem? (i := 1167) (by decide +kernel), List.mem_of_getElem? (i := 1168) (by decide +kernel)⟩
theorem lw_p43 : lw_okq (⟨"KnotCallerModel", "leftOf", "(I)I"⟩, 42) := ⟨⟨by decide +kernel, by decide +kernel⟩, List.mem_of_getElem? (i := 946) (by decide +kernel), List.mem_of_getElem? (i := 1171) (by decide +kernel), List.mem_of_getElem? (i := 1172) (by decide +kernel)⟩
theorem lw_p44 : lw_okq (⟨"KnotCallerModel", "minutesOf", "(I)I"⟩, 42) := ⟨⟨by decide +kernel, by decide +kernel⟩, List.mem_of_getElem? (i := 946) (by decide +kernel), List.mem_of_getElem? (i := 1175) (by decide +kernel), List.mem_of_getElem? (i := 1176) (by decide +kernel)⟩
theorem lw_p45 : lw_okq (⟨"KnotCallerModel", "handAt", "(I)I"⟩, 42) := ⟨⟨by decide +kernel, by decide +kernel⟩, List.mem_of_getElem? (i := 946) (by decide +kernel), List.mem_of_getElem? (i := 1179) (by decide +kernel), List.mem_of_getElem? (i := 1180) (by decide +kernel)⟩
theorem lw_p46 : lw_okq (⟨"KnotCallerModel", "takeWool", "(I)I"⟩, 42) := ⟨⟨by decide +kernel, by decide +kernel⟩, List.mem_of_getElem? (i := 946) (by decide +kernel), List.mem_of_getElem? (i := 1183) (by decide +kernel), List.mem_of_getElem? (i := 1184) (by decide +kernel)⟩
theorem lw_p47 : lw_okq (⟨"KnotCallerModel", "isKnot", "(II)Z"⟩, 42) := ⟨⟨by decide +kernel, by decide +kernel⟩, List.mem_of_getElem? (i := 946) (by decide +kernel), List.mem_of_getElem? (i := 1191) (by decide +kernel), List.mem_of_getElem? (i := 1192) (by decide +kernel)⟩
def lw_privs_3 : List (MethodName × Nat) := [(⟨"KnotCallerModel", "hasColour", "(I)Z"⟩, 42), (⟨"KnotCallerModel", "isColour", "(I)Z"⟩, 42), (⟨"KnotCallerModel", "hasNumber", "(I)Z"⟩, 42), (⟨"KnotCallerModel", "isChant", "(I)Z"⟩, 42), (⟨"KnotCallerModel", "call", "(I)I"⟩, 42), (⟨"KnotCallerModel", "stepOf", "(III)Z"⟩, 42), (⟨"KnotCallerModel", "add", "(I)Z"⟩, 42), (⟨"KnotCallerModel", "addAll", "(IIZ)Z"⟩, 42), (⟨"KnotCallerModel", "below", "(II)I"⟩, 42), (⟨"KnotCallerModel", "findMend", "(I)I"⟩, 42), (⟨"KnotCallerModel", "isEnough", "()Z"⟩, 42), (⟨"KnotCallerModel", "leftOf", "(I)I"⟩, 42), (⟨"KnotCallerModel", "minutesOf", "(I)I"⟩, 42), (⟨"KnotCallerModel", "handAt", "(I)I"⟩, 42), (⟨"KnotCallerModel", "takeWool", "(I)I"⟩, 42), (⟨"KnotCallerModel", "isKnot", "(II)Z"⟩, 42)]
theorem lw_r3 : ∀ q ∈ lw_privs_3, lw_okq q := List.forall_mem_cons.mpr ⟨lw_p32, List.forall_mem_cons.mpr ⟨lw_p33, List.forall_mem_cons.mpr ⟨lw_p34, List.forall_mem_cons.mpr ⟨lw_p35, List.forall_mem_cons.mpr ⟨lw_p36, List.forall_mem_cons.mpr ⟨lw_p37, List.forall_mem_cons.mpr ⟨lw_p38, List.forall_mem_cons.mpr ⟨lw_p39, List.forall_mem_cons.mpr ⟨lw_p40, List.forall_mem_cons.mpr ⟨lw_p41, List.forall_mem_cons.mpr ⟨lw_p42, List.forall_mem_cons.mpr ⟨lw_p43, List.forall_mem_cons.mpr ⟨lw_p44, List.forall_mem_cons.mpr ⟨lw_p45, List.forall_mem_cons.mpr ⟨lw_p46, List.forall_mem_cons.mpr ⟨lw_p47, fun _ h => absurd h List.not_mem_nil⟩⟩⟩⟩⟩⟩⟩⟩⟩⟩⟩⟩⟩⟩⟩⟩
theorem lw_p48 : lw_okq (⟨"KnotCallerModel", "areUnits", "(II)Z"⟩, 42) := ⟨⟨by decide +kernel, by decide +kernel⟩, List.mem_of_getElem? (i := 946) (by decide +kernel), List.mem_of_getElem? (i := 1231) (by decide +kernel), List.mem_of_getElem? (i := 1232) (by decide +kernel)⟩
theorem lw_p49 : lw_okq (⟨"KnotCallerModel", "wayOf", "(III)I"⟩, 42) := ⟨⟨by decide +kernel, by decide +kernel⟩, List.mem_of_getElem? (i := 946) (by decide +kernel), List.mem_of_getElem? (i := 1235) (by decide +kernel), List.mem_of_getElem? (i := 1236) (by decide +kernel)⟩
theorem lw_p50 : lw_okq (⟨"KnotCallerModel", "meets", "(II)Z"⟩, 42) := ⟨⟨by decide +kernel, by decide +kernel⟩, List.mem_of_getElem? (i := 946) (by decide +kernel), List.mem_of_getElem? (i := 1243) (by decide +kernel), List.mem_of_getElem? (i := 1244) (by decide +kernel)⟩
theorem lw_p51 : lw_okq (⟨"KnotCallerModel", "makeTree", "()V"⟩, 42) := ⟨⟨by decide +kernel, by decide +kernel⟩, List.mem_of_getElem? (i := 946) (by decide +kernel), List.mem_of_getElem? (i := 1259) (by decide +kernel), List.mem_of_getElem? (i := 1260) (by decide +kernel)⟩
theorem lw_p52 : lw_okq (⟨"KnotCallerModel", "apart", "(II)I"⟩, 42) := ⟨⟨by decide +kernel, by decide +kernel⟩, List.mem_of_getElem? (i := 946) (by decide +kernel), List.mem_of_getElem? (i := 1263) (by decide +kernel), List.mem_of_getElem? (i := 1264) (by decide +kernel)⟩
theorem lw_p53 : lw_okq (⟨"KnotCallerModel", "join", "(II)V"⟩, 42) := ⟨⟨by decide +kernel, by decide +kernel⟩, List.mem_of_getElem? (i := 946) (by decide +kernel), List.mem_of_getElem? (i := 1267) (by decide +kernel), List.mem_of_getElem? (i := 1268) (by decide +kernel)⟩
theorem lw_p54 : lw_okq (⟨"KnotCallerModel", "isTree", "(III)Z"⟩, 42) := ⟨⟨by decide +kernel, by decide +kernel⟩, List.mem_of_getElem? (i := 946) (by decide +kernel), List.mem_of_getElem? (i := 1279) (by decide +kernel), List.mem_of_getElem? (i := 1280) (by decide +kernel)⟩
theorem lw_p55 : lw_okq (⟨"KnotCallerModel", "faults", "()I"⟩, 42) := ⟨⟨by decide +kernel, by decide +kernel⟩, List.mem_of_getElem? (i := 946) (by decide +kernel), List.mem_of_getElem? (i := 1287) (by decide +kernel), List.mem_of_getElem? (i := 1288) (by decide +kernel)⟩
theorem lw_p56 : lw_okq (⟨"KnotCallerModel", "isShelf", "(I)Z"⟩, 42) := ⟨⟨by decide +kernel, by decide +kernel⟩, List.mem_of_getElem? (i := 946) (by decide +kernel), List.mem_of_getElem? (i := 1295) (by decide +kernel), List.mem_of_getElem? (i := 1296) (by decide +kernel)⟩
theorem lw_p57 : lw_okq (⟨"KnotCallerModel", "wipe", "(I)V"⟩, 42) := ⟨⟨by decide +kernel, by decide +kernel⟩, List.mem_of_getElem? (i := 946) (by decide +kernel), List.mem_of_getElem? (i := 1299) (by decide +kernel), List.mem_of_getElem? (i := 1300) (by decide +kernel)⟩
theorem lw_p58 : lw_okq (⟨"KnotCallerModel", "lacksStep", "(I)I"⟩, 42) := ⟨⟨by decide +kernel, by decide +kernel⟩, List.mem_of_getElem? (i := 946) (by decide +kernel), List.mem_of_getElem? (i := 1319) (by decide +kernel), List.mem_of_getElem? (i := 1320) (by decide +kernel)⟩
def lw_privs_4 : List (MethodName × Nat) := [(⟨"KnotCallerModel", "areUnits", "(II)Z"⟩, 42), (⟨"KnotCallerModel", "wayOf", "(III)I"⟩, 42), (⟨"KnotCallerModel", "meets", "(II)Z"⟩, 42), (⟨"KnotCallerModel", "makeTree", "()V"⟩, 42), (⟨"KnotCallerModel", "apart", "(II)I"⟩, 42), (⟨"KnotCallerModel", "join", "(II)V"⟩, 42), (⟨"KnotCallerModel", "isTree", "(III)Z"⟩, 42), (⟨"KnotCallerModel", "faults", "()I"⟩, 42), (⟨"KnotCallerModel", "isShelf", "(I)Z"⟩, 42), (⟨"KnotCallerModel", "wipe", "(I)V"⟩, 42), (⟨"KnotCallerModel", "lacksStep", "(I)I"⟩, 42)]
theorem lw_r4 : ∀ q ∈ lw_privs_4, lw_okq q := List.forall_mem_cons.mpr ⟨lw_p48, List.forall_mem_cons.mpr ⟨lw_p49, List.forall_mem_cons.mpr ⟨lw_p50, List.forall_mem_cons.mpr ⟨lw_p51, List.forall_mem_cons.mpr ⟨lw_p52, List.forall_mem_cons.mpr ⟨lw_p53, List.forall_mem_cons.mpr ⟨lw_p54, List.forall_mem_cons.mpr ⟨lw_p55, List.forall_mem_cons.mpr ⟨lw_p56, List.forall_mem_cons.mpr ⟨lw_p57, List.forall_mem_cons.mpr ⟨lw_p58, fun _ h => absurd h List.not_mem_nil⟩⟩⟩⟩⟩⟩⟩⟩⟩⟩⟩
def lw_privs : List (MethodName × Nat) := lw_privs_1 ++ (lw_privs_2 ++ (lw_privs_3 ++ (lw_privs_4)))
def lw_tbl : List Cond := k2_sels lw_privs ++ tables_1
theorem lw_privs_ok : ∀ q ∈ lw_privs, lw_okq q := by
  show ∀ q ∈ lw_privs_1 ++ (lw_privs_2 ++ (lw_privs_3 ++ (lw_privs_4))), lw_okq q
  exact List.forall_mem_append.mpr ⟨lw_r1, List.forall_mem_append.mpr ⟨lw_r2, List.forall_mem_append.mpr ⟨lw_r3, lw_r4⟩⟩⟩
end
section
def RX0 : String := "KnotCaller$Caller"
def TX0 : u_T := fun k => match k with
  | 0 => ("KnotCaller$Caller", "width", "I", true)
  | 1 => ("KnotCaller$Caller", "carpet", "LKnotCaller$Carpet;", true)
  | 2 => ("KnotCaller$Caller", "chants", "Ljava/util/ArrayList;", true)
  | 3 => ("KnotCaller$Caller", "knots", "[B", true)
  | 4 => ("KnotCaller$Caller", "ends", "[I", true)
  | 5 => ("KnotCaller$Caller", "filled", "I", false)
  | 6 => ("KnotCaller$Caller", "begun", "I", false)
  | 7 => ("KnotCaller$Caller", "mendStep", "I", false)
  | _ => ("KnotCaller$Caller", "mendN", "I", false)
def tyX0 : Nat → FieldType := fun k => match k with
  | 0 => .int
  | 1 => .object "KnotCaller$Carpet"
  | 2 => .object "java/util/ArrayList"
  | 3 => .array .byte
  | 4 => .array .int
  | 5 => .int
  | 6 => .int
  | 7 => .int
  | _ => .int
abbrev wsX00 : List Cond := u_ws RX0 TX0 9
theorem nmX0 : ∀ a, a < 9 → ∀ b, b < 9 → a ≠ b → (TX0 a).2.1 ≠ (TX0 b).2.1 := by decide +kernel
theorem tyX0_ok : ∀ k, k < 9 → parseFieldDescriptor (TX0 k).2.2.1 = some (tyX0 k) := by decide +kernel
abbrev cX0_init : ByteArray := prog_2_method_1_code
def yX0_init : MethodName := ⟨RX0, "<init>", "(ILKnotCaller$Carpet;)V"⟩
abbrev cX0_chants : ByteArray := prog_2_method_2_code
def yX0_chants : MethodName := ⟨RX0, "chants", "()I"⟩
abbrev cX0_hasChant : ByteArray := prog_2_method_3_code
def yX0_hasChant : MethodName := ⟨RX0, "hasChant", "(I)Z"⟩
abbrev cX0_hasStep : ByteArray := prog_2_method_4_code
def yX0_hasStep : MethodName := ⟨RX0, "hasStep", "(II)Z"⟩
abbrev cX0_stepOf : ByteArray := prog_2_method_5_code
def yX0_stepOf : MethodName := ⟨RX0, "stepOf", "(II)LKnotCaller$Step;"⟩
abbrev cX0_addChant : ByteArray := prog_2_method_6_code
def yX0_addChant : MethodName := ⟨RX0, "addChant", "()I"⟩
abbrev cX0_addStep : ByteArray := prog_2_method_7_code
def yX0_addStep : MethodName := ⟨RX0, "addStep", "(III)I"⟩
abbrev cX0_measured : ByteArray := prog_2_method_8_code
def yX0_measured : MethodName := ⟨RX0, "measured", "(I)I"⟩
abbrev cX0_measure : ByteArray := prog_2_method_9_code
def yX0_measure : MethodName := ⟨RX0, "measure", "(IIII)I"⟩
abbrev cX0_added : ByteArray := prog_2_method_10_code
def yX0_added : MethodName := ⟨RX0, "added", "(LKnotCaller$Step;IIII)I"⟩
abbrev cX0_endOf : ByteArray := prog_2_method_11_code
def yX0_endOf : MethodName := ⟨RX0, "endOf", "(I)I"⟩
abbrev cX0_stepThatCalled : ByteArray := prog_2_method_12_code
def yX0_stepThatCalled : MethodName := ⟨RX0, "stepThatCalled", "(I)I"⟩
abbrev cX0_sung : ByteArray := prog_2_method_13_code
def yX0_sung : MethodName := ⟨RX0, "sung", "(I)I"⟩
abbrev cX0_heard : ByteArray := prog_2_method_14_code
def yX0_heard : MethodName := ⟨RX0, "heard", "(I)I"⟩
abbrev cX0_write : ByteArray := prog_2_method_15_code
def yX0_write : MethodName := ⟨RX0, "write", "(III)V"⟩
abbrev cX0_writeStep : ByteArray := prog_2_method_16_code
def yX0_writeStep : MethodName := ⟨RX0, "writeStep", "(LKnotCaller$Step;III)V"⟩
abbrev cX0_writeKnot : ByteArray := prog_2_method_17_code
def yX0_writeKnot : MethodName := ⟨RX0, "writeKnot", "(I)V"⟩
abbrev cX0_writeColour : ByteArray := prog_2_method_18_code
def yX0_writeColour : MethodName := ⟨RX0, "writeColour", "(II)V"⟩
abbrev cX0_writeBackward : ByteArray := prog_2_method_19_code
def yX0_writeBackward : MethodName := ⟨RX0, "writeBackward", "(II)V"⟩
abbrev cX0_writeAgain : ByteArray := prog_2_method_20_code
def yX0_writeAgain : MethodName := ⟨RX0, "writeAgain", "(II)V"⟩
abbrev cX0_writeLike : ByteArray := prog_2_method_21_code
def yX0_writeLike : MethodName := ⟨RX0, "writeLike", "(III)V"⟩
abbrev cX0_findMend : ByteArray := prog_2_method_22_code
def yX0_findMend : MethodName := ⟨RX0, "findMend", "(I)I"⟩
abbrev cX0_isMendedBy : ByteArray := prog_2_method_23_code
def yX0_isMendedBy : MethodName := ⟨RX0, "isMendedBy", "(III)Z"⟩
abbrev cX0_mendAsFound : ByteArray := prog_2_method_24_code
def yX0_mendAsFound : MethodName := ⟨RX0, "mendAsFound", "(I)V"⟩
def RX1 : String := "KnotCaller$Carpet"
def TX1 : u_T := fun k => match k with
  | 0 => ("KnotCaller$Carpet", "width", "I", true)
  | 1 => ("KnotCaller$Carpet", "strips", "[I", true)
  | 2 => ("KnotCaller$Carpet", "paces", "[I", true)
  | 3 => ("KnotCaller$Carpet", "wools", "[LKnotCaller$Wool;", true)
  | 4 => ("KnotCaller$Carpet", "rows", "[LKnotCaller$Row;", true)
  | _ => ("KnotCaller$Carpet", "tied", "I", false)
def tyX1 : Nat → FieldType := fun k => match k with
  | 0 => .int
  | 1 => .array .int
  | 2 => .array .int
  | 3 => .array (.object "KnotCaller$Wool")
  | 4 => .array (.object "KnotCaller$Row")
  | _ => .int
abbrev wsX10 : List Cond := u_ws RX1 TX1 6
theorem nmX1 : ∀ a, a < 6 → ∀ b, b < 6 → a ≠ b → (TX1 a).2.1 ≠ (TX1 b).2.1 := by decide +kernel
theorem tyX1_ok : ∀ k, k < 6 → parseFieldDescriptor (TX1 k).2.2.1 = some (tyX1 k) := by decide +kernel
abbrev cX1_init : ByteArray := prog_3_method_1_code
def yX1_init : MethodName := ⟨RX1, "<init>", "(I)V"⟩
abbrev cX1_hasRow : ByteArray := prog_3_method_2_code
def yX1_hasRow : MethodName := ⟨RX1, "hasRow", "(I)Z"⟩
abbrev cX1_hasKnot : ByteArray := prog_3_method_3_code
def yX1_hasKnot : MethodName := ⟨RX1, "hasKnot", "(II)Z"⟩
abbrev cX1_setHand : ByteArray := prog_3_method_4_code
def yX1_setHand : MethodName := ⟨RX1, "setHand", "(III)Z"⟩
abbrev cX1_handAt : ByteArray := prog_3_method_5_code
def yX1_handAt : MethodName := ⟨RX1, "handAt", "(I)I"⟩
abbrev cX1_colourBelow : ByteArray := prog_3_method_6_code
def yX1_colourBelow : MethodName := ⟨RX1, "colourBelow", "(II)I"⟩
abbrev cX1_tieRow : ByteArray := prog_3_method_7_code
def yX1_tieRow : MethodName := ⟨RX1, "tieRow", "(LKnotCaller$Caller;)I"⟩
abbrev cX1_knotsHeard : ByteArray := prog_3_method_8_code
def yX1_knotsHeard : MethodName := ⟨RX1, "knotsHeard", "(LKnotCaller$Caller;I)I"⟩
abbrev cX1_layColour : ByteArray := prog_3_method_9_code
def yX1_layColour : MethodName := ⟨RX1, "layColour", "(LKnotCaller$Caller;I)V"⟩
abbrev cX1_minutesFor : ByteArray := prog_3_method_10_code
def yX1_minutesFor : MethodName := ⟨RX1, "minutesFor", "(LKnotCaller$Row;)I"⟩
abbrev cX1_roundedUp : ByteArray := prog_3_method_11_code
def yX1_roundedUp : MethodName := ⟨RX1, "roundedUp", "(II)I"⟩
abbrev cX1_minutesInAll : ByteArray := prog_3_method_12_code
def yX1_minutesInAll : MethodName := ⟨RX1, "minutesInAll", "()I"⟩
abbrev cX1_shiftsInAll : ByteArray := prog_3_method_13_code
def yX1_shiftsInAll : MethodName := ⟨RX1, "shiftsInAll", "(Z)I"⟩
abbrev cX1_shiftsOf : ByteArray := prog_3_method_14_code
def yX1_shiftsOf : MethodName := ⟨RX1, "shiftsOf", "(IZ)I"⟩
abbrev cX1_knotsBy : ByteArray := prog_3_method_15_code
def yX1_knotsBy : MethodName := ⟨RX1, "knotsBy", "(I)I"⟩
abbrev cX1_faultsBy : ByteArray := prog_3_method_16_code
def yX1_faultsBy : MethodName := ⟨RX1, "faultsBy", "(I)I"⟩
abbrev cX1_faultsInAll : ByteArray := prog_3_method_17_code
def yX1_faultsInAll : MethodName := ⟨RX1, "faultsInAll", "()I"⟩
abbrev cX1_faultsAt : ByteArray := prog_3_method_18_code
def yX1_faultsAt : MethodName := ⟨RX1, "faultsAt", "(I)I"⟩
abbrev cX1_wagesOf : ByteArray := prog_3_method_19_code
def yX1_wagesOf : MethodName := ⟨RX1, "wagesOf", "(I)I"⟩
abbrev cX1_unlikeRows : ByteArray := prog_3_method_20_code
def yX1_unlikeRows : MethodName := ⟨RX1, "unlikeRows", "(II)I"⟩
abbrev cX1_unlikeMirrored : ByteArray := prog_3_method_21_code
def yX1_unlikeMirrored : MethodName := ⟨RX1, "unlikeMirrored", "(I)I"⟩
def RX2 : String := "KnotCaller$Chant"
def TX2 : u_T := fun k => match k with
  | _ => ("KnotCaller$Chant", "steps", "Ljava/util/ArrayList;", true)
def tyX2 : Nat → FieldType := fun k => match k with
  | _ => .object "java/util/ArrayList"
abbrev wsX20 : List Cond := u_ws RX2 TX2 1
theorem nmX2 : ∀ a, a < 1 → ∀ b, b < 1 → a ≠ b → (TX2 a).2.1 ≠ (TX2 b).2.1 := by decide +kernel
theorem tyX2_ok : ∀ k, k < 1 → parseFieldDescriptor (TX2 k).2.2.1 = some (tyX2 k) := by decide +kernel
abbrev cX2_init : ByteArray := prog_4_method_1_code
def yX2_init : MethodName := ⟨RX2, "<init>", "()V"⟩
def RX3 : String := "KnotCaller$Row"
def TX3 : u_T := fun k => match k with
  | 0 => ("KnotCaller$Row", "called", "[B", true)
  | 1 => ("KnotCaller$Row", "now", "[B", true)
  | 2 => ("KnotCaller$Row", "shades", "[B", true)
  | 3 => ("KnotCaller$Row", "steps", "[B", true)
  | _ => ("KnotCaller$Row", "minutes", "I", false)
def tyX3 : Nat → FieldType := fun k => match k with
  | 0 => .array .byte
  | 1 => .array .byte
  | 2 => .array .byte
  | 3 => .array .byte
  | _ => .int
abbrev wsX30 : List Cond := u_ws RX3 TX3 5
theorem nmX3 : ∀ a, a < 5 → ∀ b, b < 5 → a ≠ b → (TX3 a).2.1 ≠ (TX3 b).2.1 := by decide +kernel
theorem tyX3_ok : ∀ k, k < 5 → parseFieldDescriptor (TX3 k).2.2.1 = some (tyX3 k) := by decide +kernel
abbrev cX3_init : ByteArray := prog_5_method_1_code
def yX3_init : MethodName := ⟨RX3, "<init>", "(I)V"⟩
abbrev cX3_lay : ByteArray := prog_5_method_2_code
def yX3_lay : MethodName := ⟨RX3, "lay", "(IIII)V"⟩
abbrev cX3_isFault : ByteArray := prog_5_method_3_code
def yX3_isFault : MethodName := ⟨RX3, "isFault", "(I)Z"⟩
def RX4 : String := "KnotCaller$Shelf"
def TX4 : u_T := fun k => match k with
  | 0 => ("KnotCaller$Shelf", "elements", "[S", true)
  | 1 => ("KnotCaller$Shelf", "kind", "I", false)
  | 2 => ("KnotCaller$Shelf", "size", "I", false)
  | _ => ("KnotCaller$Shelf", "step", "LKnotCaller$Step;", false)
def tyX4 : Nat → FieldType := fun k => match k with
  | 0 => .array .short
  | 1 => .int
  | 2 => .int
  | _ => .object "KnotCaller$Step"
abbrev wsX40 : List Cond := u_ws RX4 TX4 4
theorem nmX4 : ∀ a, a < 4 → ∀ b, b < 4 → a ≠ b → (TX4 a).2.1 ≠ (TX4 b).2.1 := by decide +kernel
theorem tyX4_ok : ∀ k, k < 4 → parseFieldDescriptor (TX4 k).2.2.1 = some (tyX4 k) := by decide +kernel
abbrev cX4_init : ByteArray := prog_6_method_1_code
def yX4_init : MethodName := ⟨RX4, "<init>", "()V"⟩
abbrev cX4_holdNothing : ByteArray := prog_6_method_2_code
def yX4_holdNothing : MethodName := ⟨RX4, "holdNothing", "()V"⟩
abbrev cX4_holdStep : ByteArray := prog_6_method_3_code
def yX4_holdStep : MethodName := ⟨RX4, "holdStep", "(LKnotCaller$Step;)V"⟩
abbrev cX4_holdZeros : ByteArray := prog_6_method_4_code
def yX4_holdZeros : MethodName := ⟨RX4, "holdZeros", "(II)V"⟩
abbrev cX4_holdsRow : ByteArray := prog_6_method_5_code
def yX4_holdsRow : MethodName := ⟨RX4, "holdsRow", "()Z"⟩
abbrev cX4_hasPlaces : ByteArray := prog_6_method_6_code
def yX4_hasPlaces : MethodName := ⟨RX4, "hasPlaces", "(II)Z"⟩
def RX5 : String := "KnotCaller$Step"
def TX5 : u_T := fun k => match k with
  | 0 => ("KnotCaller$Step", "kind", "I", true)
  | 1 => ("KnotCaller$Step", "colour", "I", true)
  | _ => ("KnotCaller$Step", "n", "I", false)
def tyX5 : Nat → FieldType := fun k => match k with
  | 0 => .int
  | 1 => .int
  | _ => .int
abbrev wsX50 : List Cond := u_ws RX5 TX5 3
theorem nmX5 : ∀ a, a < 3 → ∀ b, b < 3 → a ≠ b → (TX5 a).2.1 ≠ (TX5 b).2.1 := by decide +kernel
theorem tyX5_ok : ∀ k, k < 3 → parseFieldDescriptor (TX5 k).2.2.1 = some (tyX5 k) := by decide +kernel
abbrev cX5_init : ByteArray := prog_7_method_1_code
def yX5_init : MethodName := ⟨RX5, "<init>", "(III)V"⟩
abbrev cX5_hasN : ByteArray := prog_7_method_2_code
def yX5_hasN : MethodName := ⟨RX5, "hasN", "()Z"⟩
abbrev cX5_hasColour : ByteArray := prog_7_method_3_code
def yX5_hasColour : MethodName := ⟨RX5, "hasColour", "()Z"⟩
abbrev cX5_heft : ByteArray := prog_7_method_4_code
def yX5_heft : MethodName := ⟨RX5, "heft", "()I"⟩
abbrev cX5_fail : ByteArray := prog_7_method_5_code
def yX5_fail : MethodName := ⟨RX5, "fail", "()V"⟩
def RX6 : String := "KnotCaller$Villages"
def TX6 : u_T := fun k => match k with
  | 0 => ("KnotCaller$Villages", "ways", "[I", true)
  | 1 => ("KnotCaller$Villages", "group", "[I", true)
  | 2 => ("KnotCaller$Villages", "leastSum", "[I", true)
  | 3 => ("KnotCaller$Villages", "leastTrees", "[I", true)
  | 4 => ("KnotCaller$Villages", "links", "[I", true)
  | 5 => ("KnotCaller$Villages", "number", "I", false)
  | 6 => ("KnotCaller$Villages", "linked", "I", false)
  | _ => ("KnotCaller$Villages", "sum", "I", false)
def tyX6 : Nat → FieldType := fun k => match k with
  | 0 => .array .int
  | 1 => .array .int
  | 2 => .array .int
  | 3 => .array .int
  | 4 => .array .int
  | 5 => .int
  | 6 => .int
  | _ => .int
abbrev wsX60 : List Cond := u_ws RX6 TX6 8
theorem nmX6 : ∀ a, a < 8 → ∀ b, b < 8 → a ≠ b → (TX6 a).2.1 ≠ (TX6 b).2.1 := by decide +kernel
theorem tyX6_ok : ∀ k, k < 8 → parseFieldDescriptor (TX6 k).2.2.1 = some (tyX6 k) := by decide +kernel
abbrev cX6_init : ByteArray := prog_8_method_1_code
def yX6_init : MethodName := ⟨RX6, "<init>", "()V"⟩
abbrev cX6_add : ByteArray := prog_8_method_2_code
def yX6_add : MethodName := ⟨RX6, "add", "(I)I"⟩
abbrev cX6_apart : ByteArray := prog_8_method_3_code
def yX6_apart : MethodName := ⟨RX6, "apart", "(II)I"⟩
abbrev cX6_growTree : ByteArray := prog_8_method_4_code
def yX6_growTree : MethodName := ⟨RX6, "growTree", "()V"⟩
abbrev cX6_join : ByteArray := prog_8_method_5_code
def yX6_join : MethodName := ⟨RX6, "join", "(II)V"⟩
abbrev cX6_rivalTrees : ByteArray := prog_8_method_6_code
def yX6_rivalTrees : MethodName := ⟨RX6, "rivalTrees", "()I"⟩
abbrev cX6_firstOf : ByteArray := prog_8_method_7_code
def yX6_firstOf : MethodName := ⟨RX6, "firstOf", "(I)I"⟩
abbrev cX6_splitSet : ByteArray := prog_8_method_8_code
def yX6_splitSet : MethodName := ⟨RX6, "splitSet", "(II)V"⟩
abbrev cX6_linkBranch : ByteArray := prog_8_method_9_code
def yX6_linkBranch : MethodName := ⟨RX6, "linkBranch", "(III)V"⟩
abbrev cX6_addTrees : ByteArray := prog_8_method_10_code
def yX6_addTrees : MethodName := ⟨RX6, "addTrees", "(III)V"⟩
def RX7 : String := "KnotCaller$Wool"
def TX7 : u_T := fun k => match k with
  | 0 => ("KnotCaller$Wool", "shades", "[I", true)
  | 1 => ("KnotCaller$Wool", "left", "[I", true)
  | _ => ("KnotCaller$Wool", "lots", "I", false)
def tyX7 : Nat → FieldType := fun k => match k with
  | 0 => .array .int
  | 1 => .array .int
  | _ => .int
abbrev wsX70 : List Cond := u_ws RX7 TX7 3
theorem nmX7 : ∀ a, a < 3 → ∀ b, b < 3 → a ≠ b → (TX7 a).2.1 ≠ (TX7 b).2.1 := by decide +kernel
theorem tyX7_ok : ∀ k, k < 3 → parseFieldDescriptor (TX7 k).2.2.1 = some (tyX7 k) := by decide +kernel
abbrev cX7_init : ByteArray := prog_9_method_1_code
def yX7_init : MethodName := ⟨RX7, "<init>", "()V"⟩
abbrev cX7_addLot : ByteArray := prog_9_method_2_code
def yX7_addLot : MethodName := ⟨RX7, "addLot", "(II)I"⟩
abbrev cX7_leftInAll : ByteArray := prog_9_method_3_code
def yX7_leftInAll : MethodName := ⟨RX7, "leftInAll", "()I"⟩
abbrev cX7_take : ByteArray := prog_9_method_4_code
def yX7_take : MethodName := ⟨RX7, "take", "()I"⟩
def RX8 : String := "KnotCaller"
def TX8 : u_T := fun k => match k with
  | 0 => ("KnotCaller", "width", "I", true)
  | 1 => ("KnotCaller", "carpet", "LKnotCaller$Carpet;", true)
  | 2 => ("KnotCaller", "caller", "LKnotCaller$Caller;", true)
  | 3 => ("KnotCaller", "villages", "LKnotCaller$Villages;", true)
  | _ => ("KnotCaller", "shelves", "[LKnotCaller$Shelf;", true)
def tyX8 : Nat → FieldType := fun k => match k with
  | 0 => .int
  | 1 => .object "KnotCaller$Carpet"
  | 2 => .object "KnotCaller$Caller"
  | 3 => .object "KnotCaller$Villages"
  | _ => .array (.object "KnotCaller$Shelf")
abbrev wsX80 : List Cond := u_ws RX8 TX8 5
theorem nmX8 : ∀ a, a < 5 → ∀ b, b < 5 → a ≠ b → (TX8 a).2.1 ≠ (TX8 b).2.1 := by decide +kernel
theorem tyX8_ok : ∀ k, k < 5 → parseFieldDescriptor (TX8 k).2.2.1 = some (tyX8 k) := by decide +kernel
abbrev cX8_init : ByteArray := prog_1_method_1_code
def yX8_init : MethodName := ⟨RX8, "<init>", "(I)V"⟩
abbrev cX8_chant : ByteArray := prog_1_method_2_code
def yX8_chant : MethodName := ⟨RX8, "chant", "()I"⟩
abbrev cX8_step : ByteArray := prog_1_method_3_code
def yX8_step : MethodName := ⟨RX8, "step", "(III)I"⟩
abbrev cX8_length : ByteArray := prog_1_method_4_code
def yX8_length : MethodName := ⟨RX8, "length", "(I)I"⟩
abbrev cX8_colour : ByteArray := prog_1_method_5_code
def yX8_colour : MethodName := ⟨RX8, "colour", "(II)I"⟩
abbrev cX8_closes : ByteArray := prog_1_method_6_code
def yX8_closes : MethodName := ⟨RX8, "closes", "(I)I"⟩
abbrev cX8_mend : ByteArray := prog_1_method_7_code
def yX8_mend : MethodName := ⟨RX8, "mend", "(II)I"⟩
abbrev cX8_mended : ByteArray := prog_1_method_8_code
def yX8_mended : MethodName := ⟨RX8, "mended", "(I)I"⟩
abbrev cX8_told : ByteArray := prog_1_method_9_code
def yX8_told : MethodName := ⟨RX8, "told", "(III)I"⟩
abbrev cX8_isStepAsTold : ByteArray := prog_1_method_10_code
def yX8_isStepAsTold : MethodName := ⟨RX8, "isStepAsTold", "(III)Z"⟩
abbrev cX8_hand : ByteArray := prog_1_method_11_code
def yX8_hand : MethodName := ⟨RX8, "hand", "(III)I"⟩
abbrev cX8_dye : ByteArray := prog_1_method_12_code
def yX8_dye : MethodName := ⟨RX8, "dye", "(III)I"⟩
abbrev cX8_tie : ByteArray := prog_1_method_13_code
def yX8_tie : MethodName := ⟨RX8, "tie", "(I)I"⟩
abbrev cX8_knot : ByteArray := prog_1_method_14_code
def yX8_knot : MethodName := ⟨RX8, "knot", "(II)I"⟩
abbrev cX8_look : ByteArray := prog_1_method_15_code
def yX8_look : MethodName := ⟨RX8, "look", "(III)I"⟩
abbrev cX8_found : ByteArray := prog_1_method_16_code
def yX8_found : MethodName := ⟨RX8, "found", "(III)I"⟩
abbrev cX8_cut : ByteArray := prog_1_method_17_code
def yX8_cut : MethodName := ⟨RX8, "cut", "()I"⟩
abbrev cX8_minutes : ByteArray := prog_1_method_18_code
def yX8_minutes : MethodName := ⟨RX8, "minutes", "(I)I"⟩
abbrev cX8_shifts : ByteArray := prog_1_method_19_code
def yX8_shifts : MethodName := ⟨RX8, "shifts", "(I)I"⟩
abbrev cX8_wool : ByteArray := prog_1_method_20_code
def yX8_wool : MethodName := ⟨RX8, "wool", "(I)I"⟩
abbrev cX8_hands : ByteArray := prog_1_method_21_code
def yX8_hands : MethodName := ⟨RX8, "hands", "(II)I"⟩
abbrev cX8_unlike : ByteArray := prog_1_method_22_code
def yX8_unlike : MethodName := ⟨RX8, "unlike", "(II)I"⟩
abbrev cX8_side : ByteArray := prog_1_method_23_code
def yX8_side : MethodName := ⟨RX8, "side", "(III)I"⟩
abbrev cX8_corner : ByteArray := prog_1_method_24_code
def yX8_corner : MethodName := ⟨RX8, "corner", "(IIII)I"⟩
abbrev cX8_fits : ByteArray := prog_1_method_25_code
def yX8_fits : MethodName := ⟨RX8, "fits", "(III)I"⟩
abbrev cX8_village : ByteArray := prog_1_method_26_code
def yX8_village : MethodName := ⟨RX8, "village", "(I)I"⟩
abbrev cX8_tree : ByteArray := prog_1_method_27_code
def yX8_tree : MethodName := ⟨RX8, "tree", "()I"⟩
abbrev cX8_link : ByteArray := prog_1_method_28_code
def yX8_link : MethodName := ⟨RX8, "link", "(I)I"⟩
abbrev cX8_rivals : ByteArray := prog_1_method_29_code
def yX8_rivals : MethodName := ⟨RX8, "rivals", "()I"⟩
abbrev cX8_count : ByteArray := prog_1_method_30_code
def yX8_count : MethodName := ⟨RX8, "count", "(I)I"⟩
abbrev cX8_keep : ByteArray := prog_1_method_31_code
def yX8_keep : MethodName := ⟨RX8, "keep", "(IIII)I"⟩
abbrev cX8_make : ByteArray := prog_1_method_32_code
def yX8_make : MethodName := ⟨RX8, "make", "(III)I"⟩
abbrev cX8_element : ByteArray := prog_1_method_33_code
def yX8_element : MethodName := ⟨RX8, "element", "(II)J"⟩
abbrev cX8_copy : ByteArray := prog_1_method_34_code
def yX8_copy : MethodName := ⟨RX8, "copy", "(IIIII)I"⟩
abbrev cX8_weight : ByteArray := prog_1_method_35_code
def yX8_weight : MethodName := ⟨RX8, "weight", "(I)I"⟩
abbrev cX8_toss : ByteArray := prog_1_method_36_code
def yX8_toss : MethodName := ⟨RX8, "toss", "(I)I"⟩
abbrev cX8_isWithin : ByteArray := prog_1_method_37_code
def yX8_isWithin : MethodName := ⟨RX8, "isWithin", "(III)Z"⟩
abbrev cX8_isColour : ByteArray := prog_1_method_38_code
def yX8_isColour : MethodName := ⟨RX8, "isColour", "(I)Z"⟩
abbrev cX8_isHand : ByteArray := prog_1_method_39_code
def yX8_isHand : MethodName := ⟨RX8, "isHand", "(I)Z"⟩
abbrev cX8_isShelf : ByteArray := prog_1_method_40_code
def yX8_isShelf : MethodName := ⟨RX8, "isShelf", "(I)Z"⟩
abbrev cX8_isSide : ByteArray := prog_1_method_41_code
def yX8_isSide : MethodName := ⟨RX8, "isSide", "(I)Z"⟩
abbrev cX8_areUnits : ByteArray := prog_1_method_42_code
def yX8_areUnits : MethodName := ⟨RX8, "areUnits", "(II)Z"⟩
abbrev cX8_wayOf : ByteArray := prog_1_method_43_code
def yX8_wayOf : MethodName := ⟨RX8, "wayOf", "(III)I"⟩
abbrev cX8_meet : ByteArray := prog_1_method_44_code
def yX8_meet : MethodName := ⟨RX8, "meet", "(II)Z"⟩
abbrev cX8_keepStep : ByteArray := prog_1_method_45_code
def yX8_keepStep : MethodName := ⟨RX8, "keepStep", "(LKnotCaller$Shelf;II)I"⟩
abbrev cX8_keepColours : ByteArray := prog_1_method_46_code
def yX8_keepColours : MethodName := ⟨RX8, "keepColours", "(LKnotCaller$Shelf;I)I"⟩
abbrev cX8_keepMinutes : ByteArray := prog_1_method_47_code
def yX8_keepMinutes : MethodName := ⟨RX8, "keepMinutes", "(LKnotCaller$Shelf;)I"⟩
abbrev cX8_stepOn : ByteArray := prog_1_method_48_code
def yX8_stepOn : MethodName := ⟨RX8, "stepOn", "(I)LKnotCaller$Step;"⟩
abbrev cX8_whyNoStepOn : ByteArray := prog_1_method_49_code
def yX8_whyNoStepOn : MethodName := ⟨RX8, "whyNoStepOn", "(I)I"⟩
def RX9 : String := "KnotCallerModel"
def TX9 : u_T := fun k => match k with
  | 0 => ("KnotCallerModel", "thrown", "I", false)
  | 1 => ("KnotCallerModel", "w", "I", true)
  | 2 => ("KnotCallerModel", "chants", "I", false)
  | 3 => ("KnotCallerModel", "steps", "[I", true)
  | 4 => ("KnotCallerModel", "kind", "[I", true)
  | 5 => ("KnotCallerModel", "number", "[I", true)
  | 6 => ("KnotCallerModel", "colour", "[I", true)
  | 7 => ("KnotCallerModel", "knots", "[I", true)
  | 8 => ("KnotCallerModel", "endAt", "[I", true)
  | 9 => ("KnotCallerModel", "singer", "[I", true)
  | 10 => ("KnotCallerModel", "atStep", "[I", true)
  | 11 => ("KnotCallerModel", "began", "[I", true)
  | 12 => ("KnotCallerModel", "width", "[I", true)
  | 13 => ("KnotCallerModel", "called", "I", false)
  | 14 => ("KnotCallerModel", "mendStep", "I", false)
  | 15 => ("KnotCallerModel", "mendNumber", "I", false)
  | 16 => ("KnotCallerModel", "strip", "[I", true)
  | 17 => ("KnotCallerModel", "pace", "[I", true)
  | 18 => ("KnotCallerModel", "lots", "[I", true)
  | 19 => ("KnotCallerModel", "shade", "[I", true)
  | 20 => ("KnotCallerModel", "left", "[I", true)
  | 21 => ("KnotCallerModel", "rows", "I", false)
  | 22 => ("KnotCallerModel", "wasCalled", "[I", true)
  | 23 => ("KnotCallerModel", "isNow", "[I", true)
  | 24 => ("KnotCallerModel", "shadeOf", "[I", true)
  | 25 => ("KnotCallerModel", "stepBy", "[I", true)
  | 26 => ("KnotCallerModel", "took", "[I", true)
  | 27 => ("KnotCallerModel", "villages", "I", false)
  | 28 => ("KnotCallerModel", "links", "I", false)
  | 29 => ("KnotCallerModel", "treeSum", "I", false)
  | 30 => ("KnotCallerModel", "ways", "[I", true)
  | 31 => ("KnotCallerModel", "group", "[I", true)
  | 32 => ("KnotCallerModel", "linkOf", "[I", true)
  | 33 => ("KnotCallerModel", "pairA", "[I", true)
  | 34 => ("KnotCallerModel", "pairB", "[I", true)
  | 35 => ("KnotCallerModel", "held", "[I", true)
  | 36 => ("KnotCallerModel", "heldKind", "[I", true)
  | 37 => ("KnotCallerModel", "heldNumber", "[I", true)
  | 38 => ("KnotCallerModel", "heldColour", "[I", true)
  | 39 => ("KnotCallerModel", "size", "[I", true)
  | 40 => ("KnotCallerModel", "item", "[I", true)
  | _ => ("KnotCallerModel", "aside", "[I", true)
def tyX9 : Nat → FieldType := fun k => match k with
  | 0 => .int
  | 1 => .int
  | 2 => .int
  | 3 => .array .int
  | 4 => .array .int
  | 5 => .array .int
  | 6 => .array .int
  | 7 => .array .int
  | 8 => .array .int
  | 9 => .array .int
  | 10 => .array .int
  | 11 => .array .int
  | 12 => .array .int
  | 13 => .int
  | 14 => .int
  | 15 => .int
  | 16 => .array .int
  | 17 => .array .int
  | 18 => .array .int
  | 19 => .array .int
  | 20 => .array .int
  | 21 => .int
  | 22 => .array .int
  | 23 => .array .int
  | 24 => .array .int
  | 25 => .array .int
  | 26 => .array .int
  | 27 => .int
  | 28 => .int
  | 29 => .int
  | 30 => .array .int
  | 31 => .array .int
  | 32 => .array .int
  | 33 => .array .int
  | 34 => .array .int
  | 35 => .array .int
  | 36 => .array .int
  | 37 => .array .int
  | 38 => .array .int
  | 39 => .array .int
  | 40 => .array .int
  | _ => .array .int
abbrev wsX90 : List Cond := u_ws RX9 TX9 42
theorem nmX9 : ∀ a, a < 42 → ∀ b, b < 42 → a ≠ b → (TX9 a).2.1 ≠ (TX9 b).2.1 := by decide +kernel
theorem tyX9_ok : ∀ k, k < 42 → parseFieldDescriptor (TX9 k).2.2.1 = some (tyX9 k) := by decide +kernel
abbrev cX9_thrown : ByteArray := prog_11_method_1_code
def yX9_thrown : MethodName := ⟨RX9, "thrown", "()I"⟩
abbrev cX9_in : ByteArray := prog_11_method_2_code
def yX9_in : MethodName := ⟨RX9, "in", "(III)Z"⟩
abbrev cX9_init : ByteArray := prog_11_method_3_code
def yX9_init : MethodName := ⟨RX9, "<init>", "(I)V"⟩
abbrev cX9_isChant : ByteArray := prog_11_method_4_code
def yX9_isChant : MethodName := ⟨RX9, "isChant", "(I)Z"⟩
abbrev cX9_isColour : ByteArray := prog_11_method_5_code
def yX9_isColour : MethodName := ⟨RX9, "isColour", "(I)Z"⟩
abbrev cX9_hasNumber : ByteArray := prog_11_method_6_code
def yX9_hasNumber : MethodName := ⟨RX9, "hasNumber", "(I)Z"⟩
abbrev cX9_hasColour : ByteArray := prog_11_method_7_code
def yX9_hasColour : MethodName := ⟨RX9, "hasColour", "(I)Z"⟩
abbrev cX9_chant : ByteArray := prog_11_method_8_code
def yX9_chant : MethodName := ⟨RX9, "chant", "()I"⟩
abbrev cX9_step : ByteArray := prog_11_method_9_code
def yX9_step : MethodName := ⟨RX9, "step", "(III)I"⟩
abbrev cX9_add : ByteArray := prog_11_method_10_code
def yX9_add : MethodName := ⟨RX9, "add", "(I)Z"⟩
abbrev cX9_addAll : ByteArray := prog_11_method_11_code
def yX9_addAll : MethodName := ⟨RX9, "addAll", "(IIZ)Z"⟩
abbrev cX9_stepOf : ByteArray := prog_11_method_12_code
def yX9_stepOf : MethodName := ⟨RX9, "stepOf", "(III)Z"⟩
abbrev cX9_below : ByteArray := prog_11_method_13_code
def yX9_below : MethodName := ⟨RX9, "below", "(II)I"⟩
abbrev cX9_call : ByteArray := prog_11_method_14_code
def yX9_call : MethodName := ⟨RX9, "call", "(I)I"⟩
abbrev cX9_length : ByteArray := prog_11_method_15_code
def yX9_length : MethodName := ⟨RX9, "length", "(I)I"⟩
abbrev cX9_colour : ByteArray := prog_11_method_16_code
def yX9_colour : MethodName := ⟨RX9, "colour", "(II)I"⟩
abbrev cX9_closes : ByteArray := prog_11_method_17_code
def yX9_closes : MethodName := ⟨RX9, "closes", "(I)I"⟩
abbrev cX9_findMend : ByteArray := prog_11_method_18_code
def yX9_findMend : MethodName := ⟨RX9, "findMend", "(I)I"⟩
abbrev cX9_mend : ByteArray := prog_11_method_19_code
def yX9_mend : MethodName := ⟨RX9, "mend", "(II)I"⟩
abbrev cX9_mended : ByteArray := prog_11_method_20_code
def yX9_mended : MethodName := ⟨RX9, "mended", "(I)I"⟩
abbrev cX9_told : ByteArray := prog_11_method_21_code
def yX9_told : MethodName := ⟨RX9, "told", "(III)I"⟩
abbrev cX9_hand : ByteArray := prog_11_method_22_code
def yX9_hand : MethodName := ⟨RX9, "hand", "(III)I"⟩
abbrev cX9_dye : ByteArray := prog_11_method_23_code
def yX9_dye : MethodName := ⟨RX9, "dye", "(III)I"⟩
abbrev cX9_handAt : ByteArray := prog_11_method_24_code
def yX9_handAt : MethodName := ⟨RX9, "handAt", "(I)I"⟩
abbrev cX9_leftOf : ByteArray := prog_11_method_25_code
def yX9_leftOf : MethodName := ⟨RX9, "leftOf", "(I)I"⟩
abbrev cX9_isEnough : ByteArray := prog_11_method_26_code
def yX9_isEnough : MethodName := ⟨RX9, "isEnough", "()Z"⟩
abbrev cX9_takeWool : ByteArray := prog_11_method_27_code
def yX9_takeWool : MethodName := ⟨RX9, "takeWool", "(I)I"⟩
abbrev cX9_minutesOf : ByteArray := prog_11_method_28_code
def yX9_minutesOf : MethodName := ⟨RX9, "minutesOf", "(I)I"⟩
abbrev cX9_tie : ByteArray := prog_11_method_29_code
def yX9_tie : MethodName := ⟨RX9, "tie", "(I)I"⟩
abbrev cX9_isKnot : ByteArray := prog_11_method_30_code
def yX9_isKnot : MethodName := ⟨RX9, "isKnot", "(II)Z"⟩
abbrev cX9_knot : ByteArray := prog_11_method_31_code
def yX9_knot : MethodName := ⟨RX9, "knot", "(II)I"⟩
abbrev cX9_look : ByteArray := prog_11_method_32_code
def yX9_look : MethodName := ⟨RX9, "look", "(III)I"⟩
abbrev cX9_found : ByteArray := prog_11_method_33_code
def yX9_found : MethodName := ⟨RX9, "found", "(III)I"⟩
abbrev cX9_cut : ByteArray := prog_11_method_34_code
def yX9_cut : MethodName := ⟨RX9, "cut", "()I"⟩
abbrev cX9_minutes : ByteArray := prog_11_method_35_code
def yX9_minutes : MethodName := ⟨RX9, "minutes", "(I)I"⟩
abbrev cX9_shifts : ByteArray := prog_11_method_36_code
def yX9_shifts : MethodName := ⟨RX9, "shifts", "(I)I"⟩
abbrev cX9_wool : ByteArray := prog_11_method_37_code
def yX9_wool : MethodName := ⟨RX9, "wool", "(I)I"⟩
abbrev cX9_hands : ByteArray := prog_11_method_38_code
def yX9_hands : MethodName := ⟨RX9, "hands", "(II)I"⟩
abbrev cX9_unlike : ByteArray := prog_11_method_39_code
def yX9_unlike : MethodName := ⟨RX9, "unlike", "(II)I"⟩
abbrev cX9_areUnits : ByteArray := prog_11_method_40_code
def yX9_areUnits : MethodName := ⟨RX9, "areUnits", "(II)Z"⟩
abbrev cX9_wayOf : ByteArray := prog_11_method_41_code
def yX9_wayOf : MethodName := ⟨RX9, "wayOf", "(III)I"⟩
abbrev cX9_side : ByteArray := prog_11_method_42_code
def yX9_side : MethodName := ⟨RX9, "side", "(III)I"⟩
abbrev cX9_meets : ByteArray := prog_11_method_43_code
def yX9_meets : MethodName := ⟨RX9, "meets", "(II)Z"⟩
abbrev cX9_corner : ByteArray := prog_11_method_44_code
def yX9_corner : MethodName := ⟨RX9, "corner", "(IIII)I"⟩
abbrev cX9_fits : ByteArray := prog_11_method_45_code
def yX9_fits : MethodName := ⟨RX9, "fits", "(III)I"⟩
abbrev cX9_village : ByteArray := prog_11_method_46_code
def yX9_village : MethodName := ⟨RX9, "village", "(I)I"⟩
abbrev cX9_apart : ByteArray := prog_11_method_47_code
def yX9_apart : MethodName := ⟨RX9, "apart", "(II)I"⟩
abbrev cX9_join : ByteArray := prog_11_method_48_code
def yX9_join : MethodName := ⟨RX9, "join", "(II)V"⟩
abbrev cX9_makeTree : ByteArray := prog_11_method_49_code
def yX9_makeTree : MethodName := ⟨RX9, "makeTree", "()V"⟩
abbrev cX9_tree : ByteArray := prog_11_method_50_code
def yX9_tree : MethodName := ⟨RX9, "tree", "()I"⟩
abbrev cX9_link : ByteArray := prog_11_method_51_code
def yX9_link : MethodName := ⟨RX9, "link", "(I)I"⟩
abbrev cX9_isTree : ByteArray := prog_11_method_52_code
def yX9_isTree : MethodName := ⟨RX9, "isTree", "(III)Z"⟩
abbrev cX9_rivals : ByteArray := prog_11_method_53_code
def yX9_rivals : MethodName := ⟨RX9, "rivals", "()I"⟩
abbrev cX9_faults : ByteArray := prog_11_method_54_code
def yX9_faults : MethodName := ⟨RX9, "faults", "()I"⟩
abbrev cX9_count : ByteArray := prog_11_method_55_code
def yX9_count : MethodName := ⟨RX9, "count", "(I)I"⟩
abbrev cX9_isShelf : ByteArray := prog_11_method_56_code
def yX9_isShelf : MethodName := ⟨RX9, "isShelf", "(I)Z"⟩
abbrev cX9_wipe : ByteArray := prog_11_method_57_code
def yX9_wipe : MethodName := ⟨RX9, "wipe", "(I)V"⟩
abbrev cX9_keep : ByteArray := prog_11_method_58_code
def yX9_keep : MethodName := ⟨RX9, "keep", "(IIII)I"⟩
abbrev cX9_make : ByteArray := prog_11_method_59_code
def yX9_make : MethodName := ⟨RX9, "make", "(III)I"⟩
abbrev cX9_element : ByteArray := prog_11_method_60_code
def yX9_element : MethodName := ⟨RX9, "element", "(II)J"⟩
abbrev cX9_copy : ByteArray := prog_11_method_61_code
def yX9_copy : MethodName := ⟨RX9, "copy", "(IIIII)I"⟩
abbrev cX9_lacksStep : ByteArray := prog_11_method_62_code
def yX9_lacksStep : MethodName := ⟨RX9, "lacksStep", "(I)I"⟩
abbrev cX9_weight : ByteArray := prog_11_method_63_code
def yX9_weight : MethodName := ⟨RX9, "weight", "(I)I"⟩
abbrev cX9_toss : ByteArray := prog_11_method_64_code
def yX9_toss : MethodName := ⟨RX9, "toss", "(I)I"⟩
def RJx145de : String := "java/io/Serializable"
def TJx145de : u_T := fun k => match k with
  | _ => ("", "", "", false)
def tyJx145de : Nat → FieldType := fun k => match k with
  | _ => .int
abbrev wsJx145de0 : List Cond := u_ws RJx145de TJx145de 0
theorem nmJx145de : ∀ a, a < 0 → ∀ b, b < 0 → a ≠ b → (TJx145de a).2.1 ≠ (TJx145de b).2.1 := by decide +kernel
theorem tyJx145de_ok : ∀ k, k < 0 → parseFieldDescriptor (TJx145de k).2.2.1 = some (tyJx145de k) := by decide +kernel
def RJx8e188 : String := "java/lang/Cloneable"
def TJx8e188 : u_T := fun k => match k with
  | _ => ("", "", "", false)
def tyJx8e188 : Nat → FieldType := fun k => match k with
  | _ => .int
abbrev wsJx8e1880 : List Cond := u_ws RJx8e188 TJx8e188 0
theorem nmJx8e188 : ∀ a, a < 0 → ∀ b, b < 0 → a ≠ b → (TJx8e188 a).2.1 ≠ (TJx8e188 b).2.1 := by decide +kernel
theorem tyJx8e188_ok : ∀ k, k < 0 → parseFieldDescriptor (TJx8e188 k).2.2.1 = some (tyJx8e188 k) := by decide +kernel
def RJ6 : String := "java/lang/Integer"
def TJ6 : u_T := fun k => match k with
  | _ => ("", "", "", false)
def tyJ6 : Nat → FieldType := fun k => match k with
  | _ => .int
abbrev wsJ60 : List Cond := u_ws RJ6 TJ6 0
theorem nmJ6 : ∀ a, a < 0 → ∀ b, b < 0 → a ≠ b → (TJ6 a).2.1 ≠ (TJ6 b).2.1 := by decide +kernel
theorem tyJ6_ok : ∀ k, k < 0 → parseFieldDescriptor (TJ6 k).2.2.1 = some (tyJ6 k) := by decide +kernel
abbrev cJ6_bitCount_0f7a4 : ByteArray := prog_17_method_49_code
def yJ6_bitCount_0f7a4 : MethodName := ⟨RJ6, "bitCount", "(I)I"⟩
def RJxab1ab : String := "java/lang/Iterable"
def TJxab1ab : u_T := fun k => match k with
  | _ => ("", "", "", false)
def tyJxab1ab : Nat → FieldType := fun k => match k with
  | _ => .int
abbrev wsJxab1ab0 : List Cond := u_ws RJxab1ab TJxab1ab 0
theorem nmJxab1ab : ∀ a, a < 0 → ∀ b, b < 0 → a ≠ b → (TJxab1ab a).2.1 ≠ (TJxab1ab b).2.1 := by decide +kernel
theorem tyJxab1ab_ok : ∀ k, k < 0 → parseFieldDescriptor (TJxab1ab k).2.2.1 = some (tyJxab1ab k) := by decide +kernel
def RJ9 : String := "java/lang/Math"
def TJ9 : u_T := fun k => match k with
  | _ => ("", "", "", false)
def tyJ9 : Nat → FieldType := fun k => match k with
  | _ => .int
abbrev wsJ90 : List Cond := u_ws RJ9 TJ9 0
theorem nmJ9 : ∀ a, a < 0 → ∀ b, b < 0 → a ≠ b → (TJ9 a).2.1 ≠ (TJ9 b).2.1 := by decide +kernel
theorem tyJ9_ok : ∀ k, k < 0 → parseFieldDescriptor (TJ9 k).2.2.1 = some (tyJ9 k) := by decide +kernel
abbrev cJ9_floorMod_7cf53 : ByteArray := prog_19_method_50_code
def yJ9_floorMod_7cf53 : MethodName := ⟨RJ9, "floorMod", "(II)I"⟩
abbrev cJ9_max_7cf53 : ByteArray := prog_19_method_65_code
def yJ9_max_7cf53 : MethodName := ⟨RJ9, "max", "(II)I"⟩
abbrev cJ9_min_7cf53 : ByteArray := prog_19_method_69_code
def yJ9_min_7cf53 : MethodName := ⟨RJ9, "min", "(II)I"⟩
def RJ0 : String := "java/lang/String"
def TJ0 : u_T := fun k => match k with
  | _ => ("", "", "", false)
def tyJ0 : Nat → FieldType := fun k => match k with
  | _ => .int
abbrev wsJ00 : List Cond := u_ws RJ0 TJ0 0
theorem nmJ0 : ∀ a, a < 0 → ∀ b, b < 0 → a ≠ b → (TJ0 a).2.1 ≠ (TJ0 b).2.1 := by decide +kernel
theorem tyJ0_ok : ∀ k, k < 0 → parseFieldDescriptor (TJ0 k).2.2.1 = some (tyJ0 k) := by decide +kernel
def RJ10 : String := "java/lang/System"
def TJ10 : u_T := fun k => match k with
  | _ => ("", "", "", false)
def tyJ10 : Nat → FieldType := fun k => match k with
  | _ => .int
abbrev wsJ100 : List Cond := u_ws RJ10 TJ10 0
theorem nmJ10 : ∀ a, a < 0 → ∀ b, b < 0 → a ≠ b → (TJ10 a).2.1 ≠ (TJ10 b).2.1 := by decide +kernel
theorem tyJ10_ok : ∀ k, k < 0 → parseFieldDescriptor (TJ10 k).2.2.1 = some (tyJ10 k) := by decide +kernel
def RJxa1e45 : String := "java/util/AbstractCollection"
def TJxa1e45 : u_T := fun k => match k with
  | _ => ("", "", "", false)
def tyJxa1e45 : Nat → FieldType := fun k => match k with
  | _ => .int
abbrev wsJxa1e450 : List Cond := u_ws RJxa1e45 TJxa1e45 0
theorem nmJxa1e45 : ∀ a, a < 0 → ∀ b, b < 0 → a ≠ b → (TJxa1e45 a).2.1 ≠ (TJxa1e45 b).2.1 := by decide +kernel
theorem tyJxa1e45_ok : ∀ k, k < 0 → parseFieldDescriptor (TJxa1e45 k).2.2.1 = some (tyJxa1e45 k) := by decide +kernel
abbrev cJxa1e45_init_da8c8 : ByteArray := prog_24_method_1_code
def yJxa1e45_init_da8c8 : MethodName := ⟨RJxa1e45, "<init>", "()V"⟩
def RJxc12de : String := "java/util/AbstractList"
def TJxc12de : u_T := fun k => match k with
  | _ => ("", "", "", false)
def tyJxc12de : Nat → FieldType := fun k => match k with
  | _ => .int
abbrev wsJxc12de0 : List Cond := u_ws RJxc12de TJxc12de 0
theorem nmJxc12de : ∀ a, a < 0 → ∀ b, b < 0 → a ≠ b → (TJxc12de a).2.1 ≠ (TJxc12de b).2.1 := by decide +kernel
theorem tyJxc12de_ok : ∀ k, k < 0 → parseFieldDescriptor (TJxc12de k).2.2.1 = some (tyJxc12de k) := by decide +kernel
abbrev cJxc12de_init_da8c8 : ByteArray := prog_25_method_1_code
def yJxc12de_init_da8c8 : MethodName := ⟨RJxc12de, "<init>", "()V"⟩
def RJx4a65c : String := "java/util/ArrayList"
def TJx4a65c : u_T := fun k => match k with
  | 0 => ("java/util/AbstractList", "modCount", "I", false)
  | 1 => ("java/util/ArrayList", "elementData", "[Ljava/lang/Object;", false)
  | _ => ("java/util/ArrayList", "size", "I", false)
def tyJx4a65c : Nat → FieldType := fun k => match k with
  | 0 => .int
  | 1 => .array (.object "java/lang/Object")
  | _ => .int
abbrev wsJx4a65c0 : List Cond := u_ws RJx4a65c TJx4a65c 3
theorem nmJx4a65c : ∀ a, a < 3 → ∀ b, b < 3 → a ≠ b → (TJx4a65c a).2.1 ≠ (TJx4a65c b).2.1 := by decide +kernel
theorem tyJx4a65c_ok : ∀ k, k < 3 → parseFieldDescriptor (TJx4a65c k).2.2.1 = some (tyJx4a65c k) := by decide +kernel
abbrev cJx4a65c_init_da8c8 : ByteArray := prog_26_method_2_code
def yJx4a65c_init_da8c8 : MethodName := ⟨RJx4a65c, "<init>", "()V"⟩
abbrev cJx4a65c_grow_92f84 : ByteArray := prog_26_method_6_code
def yJx4a65c_grow_92f84 : MethodName := ⟨RJx4a65c, "grow", "(I)[Ljava/lang/Object;"⟩
abbrev cJx4a65c_grow_d5877 : ByteArray := prog_26_method_7_code
def yJx4a65c_grow_d5877 : MethodName := ⟨RJx4a65c, "grow", "()[Ljava/lang/Object;"⟩
abbrev cJx4a65c_size_8abf5 : ByteArray := prog_26_method_8_code
def yJx4a65c_size_8abf5 : MethodName := ⟨RJx4a65c, "size", "()I"⟩
abbrev cJx4a65c_isEmpty_aae02 : ByteArray := prog_26_method_9_code
def yJx4a65c_isEmpty_aae02 : MethodName := ⟨RJx4a65c, "isEmpty", "()Z"⟩
abbrev cJx4a65c_elementData_915e3 : ByteArray := prog_26_method_18_code
def yJx4a65c_elementData_915e3 : MethodName := ⟨RJx4a65c, "elementData", "(I)Ljava/lang/Object;"⟩
abbrev cJx4a65c_get_915e3 : ByteArray := prog_26_method_20_code
def yJx4a65c_get_915e3 : MethodName := ⟨RJx4a65c, "get", "(I)Ljava/lang/Object;"⟩
abbrev cJx4a65c_add_72be8 : ByteArray := prog_26_method_24_code
def yJx4a65c_add_72be8 : MethodName := ⟨RJx4a65c, "add", "(Ljava/lang/Object;[Ljava/lang/Object;I)V"⟩
abbrev cJx4a65c_add_9ea2d : ByteArray := prog_26_method_25_code
def yJx4a65c_add_9ea2d : MethodName := ⟨RJx4a65c, "add", "(Ljava/lang/Object;)Z"⟩
def RJ7 : String := "java/util/Arrays"
def TJ7 : u_T := fun k => match k with
  | _ => ("", "", "", false)
def tyJ7 : Nat → FieldType := fun k => match k with
  | _ => .int
abbrev wsJ70 : List Cond := u_ws RJ7 TJ7 0
theorem nmJ7 : ∀ a, a < 0 → ∀ b, b < 0 → a ≠ b → (TJ7 a).2.1 ≠ (TJ7 b).2.1 := by decide +kernel
theorem tyJ7_ok : ∀ k, k < 0 → parseFieldDescriptor (TJ7 k).2.2.1 = some (tyJ7 k) := by decide +kernel
abbrev cJ7_copyOf_1904c : ByteArray := prog_27_method_119_code
def yJ7_copyOf_1904c : MethodName := ⟨RJ7, "copyOf", "([Ljava/lang/Object;I)[Ljava/lang/Object;"⟩
abbrev cJ7_copyOf_6403c : ByteArray := prog_27_method_120_code
def yJ7_copyOf_6403c : MethodName := ⟨RJ7, "copyOf", "([Ljava/lang/Object;ILjava/lang/Class;)[Ljava/lang/Object;"⟩
def RJx5ef63 : String := "java/util/Collection"
def TJx5ef63 : u_T := fun k => match k with
  | _ => ("", "", "", false)
def tyJx5ef63 : Nat → FieldType := fun k => match k with
  | _ => .int
abbrev wsJx5ef630 : List Cond := u_ws RJx5ef63 TJx5ef63 0
theorem nmJx5ef63 : ∀ a, a < 0 → ∀ b, b < 0 → a ≠ b → (TJx5ef63 a).2.1 ≠ (TJx5ef63 b).2.1 := by decide +kernel
theorem tyJx5ef63_ok : ∀ k, k < 0 → parseFieldDescriptor (TJx5ef63 k).2.2.1 = some (tyJx5ef63 k) := by decide +kernel
def RJxbd725 : String := "java/util/List"
def TJxbd725 : u_T := fun k => match k with
  | _ => ("", "", "", false)
def tyJxbd725 : Nat → FieldType := fun k => match k with
  | _ => .int
abbrev wsJxbd7250 : List Cond := u_ws RJxbd725 TJxbd725 0
theorem nmJxbd725 : ∀ a, a < 0 → ∀ b, b < 0 → a ≠ b → (TJxbd725 a).2.1 ≠ (TJxbd725 b).2.1 := by decide +kernel
theorem tyJxbd725_ok : ∀ k, k < 0 → parseFieldDescriptor (TJxbd725 k).2.2.1 = some (tyJxbd725 k) := by decide +kernel
def RJ15 : String := "java/util/Objects"
def TJ15 : u_T := fun k => match k with
  | _ => ("", "", "", false)
def tyJ15 : Nat → FieldType := fun k => match k with
  | _ => .int
abbrev wsJ150 : List Cond := u_ws RJ15 TJ15 0
theorem nmJ15 : ∀ a, a < 0 → ∀ b, b < 0 → a ≠ b → (TJ15 a).2.1 ≠ (TJ15 b).2.1 := by decide +kernel
theorem tyJ15_ok : ∀ k, k < 0 → parseFieldDescriptor (TJ15 k).2.2.1 = some (tyJ15 k) := by decide +kernel
abbrev cJ15_checkIndex_7cf53 : ByteArray := prog_30_method_17_code
def yJ15_checkIndex_7cf53 : MethodName := ⟨RJ15, "checkIndex", "(II)I"⟩
def RJxf0a74 : String := "java/util/RandomAccess"
def TJxf0a74 : u_T := fun k => match k with
  | _ => ("", "", "", false)
def tyJxf0a74 : Nat → FieldType := fun k => match k with
  | _ => .int
abbrev wsJxf0a740 : List Cond := u_ws RJxf0a74 TJxf0a74 0
theorem nmJxf0a74 : ∀ a, a < 0 → ∀ b, b < 0 → a ≠ b → (TJxf0a74 a).2.1 ≠ (TJxf0a74 b).2.1 := by decide +kernel
theorem tyJxf0a74_ok : ∀ k, k < 0 → parseFieldDescriptor (TJxf0a74 k).2.2.1 = some (tyJxf0a74 k) := by decide +kernel
def RJxa66e6 : String := "java/util/SequencedCollection"
def TJxa66e6 : u_T := fun k => match k with
  | _ => ("", "", "", false)
def tyJxa66e6 : Nat → FieldType := fun k => match k with
  | _ => .int
abbrev wsJxa66e60 : List Cond := u_ws RJxa66e6 TJxa66e6 0
theorem nmJxa66e6 : ∀ a, a < 0 → ∀ b, b < 0 → a ≠ b → (TJxa66e6 a).2.1 ≠ (TJxa66e6 b).2.1 := by decide +kernel
theorem tyJxa66e6_ok : ∀ k, k < 0 → parseFieldDescriptor (TJxa66e6 k).2.2.1 = some (tyJxa66e6 k) := by decide +kernel
def RJ8 : String := "jdk/internal/util/ArraysSupport"
def TJ8 : u_T := fun k => match k with
  | _ => ("", "", "", false)
def tyJ8 : Nat → FieldType := fun k => match k with
  | _ => .int
abbrev wsJ80 : List Cond := u_ws RJ8 TJ8 0
theorem nmJ8 : ∀ a, a < 0 → ∀ b, b < 0 → a ≠ b → (TJ8 a).2.1 ≠ (TJ8 b).2.1 := by decide +kernel
theorem tyJ8_ok : ∀ k, k < 0 → parseFieldDescriptor (TJ8 k).2.2.1 = some (tyJ8 k) := by decide +kernel
abbrev cJ8_newLength_cabcc : ByteArray := prog_33_method_27_code
def yJ8_newLength_cabcc : MethodName := ⟨RJ8, "newLength", "(III)I"⟩
abbrev cJ8_hugeLength_7cf53 : ByteArray := prog_33_method_28_code
def yJ8_hugeLength_7cf53 : MethodName := ⟨RJ8, "hugeLength", "(II)I"⟩
def RJ3 : String := "jdk/internal/util/Preconditions"
def TJ3 : u_T := fun k => match k with
  | _ => ("", "", "", false)
def tyJ3 : Nat → FieldType := fun k => match k with
  | _ => .int
abbrev wsJ30 : List Cond := u_ws RJ3 TJ3 0
theorem nmJ3 : ∀ a, a < 0 → ∀ b, b < 0 → a ≠ b → (TJ3 a).2.1 ≠ (TJ3 b).2.1 := by decide +kernel
theorem tyJ3_ok : ∀ k, k < 0 → parseFieldDescriptor (TJ3 k).2.2.1 = some (tyJ3 k) := by decide +kernel
abbrev cJ3_checkIndex_8e157 : ByteArray := prog_34_method_11_code
def yJ3_checkIndex_8e157 : MethodName := ⟨RJ3, "checkIndex", "(IILjava/util/function/BiFunction;)I"⟩
def RL : String := "KnotCallerLaw"
abbrev cL_cell : ByteArray := method_2_code
def yL_cell : MethodName := ⟨RL, "cell", "([II)I"⟩
abbrev cL_element : ByteArray := method_3_code
def yL_element : MethodName := ⟨RL, "element", "(LKnotCaller;II[J)I"⟩
abbrev cL_law : ByteArray := code
def yL_law : MethodName := ⟨RL, "law", "([I)Z"⟩
abbrev mX8_init : MethodName × ByteArray × Nat × Option FieldType := (yX8_init, cX8_init, 3, none)
abbrev mJ9_floorMod_7cf53 : MethodName × ByteArray × Nat × Option FieldType := (yJ9_floorMod_7cf53, cJ9_floorMod_7cf53, 3, some .int)
abbrev mX1_init : MethodName × ByteArray × Nat × Option FieldType := (yX1_init, cX1_init, 3, none)
abbrev mX7_init : MethodName × ByteArray × Nat × Option FieldType := (yX7_init, cX7_init, 1, none)
abbrev mX3_init : MethodName × ByteArray × Nat × Option FieldType := (yX3_init, cX3_init, 2, none)
abbrev mX0_init : MethodName × ByteArray × Nat × Option FieldType := (yX0_init, cX0_init, 3, none)
abbrev mJx4a65c_init_da8c8 : MethodName × ByteArray × Nat × Option FieldType := (yJx4a65c_init_da8c8, cJx4a65c_init_da8c8, 1, none)
abbrev mJxc12de_init_da8c8 : MethodName × ByteArray × Nat × Option FieldType := (yJxc12de_init_da8c8, cJxc12de_init_da8c8, 1, none)
abbrev mJxa1e45_init_da8c8 : MethodName × ByteArray × Nat × Option FieldType := (yJxa1e45_init_da8c8, cJxa1e45_init_da8c8, 1, none)
abbrev mX6_init : MethodName × ByteArray × Nat × Option FieldType := (yX6_init, cX6_init, 1, none)
abbrev mX4_init : MethodName × ByteArray × Nat × Option FieldType := (yX4_init, cX4_init, 1, none)
abbrev mX8_chant : MethodName × ByteArray × Nat × Option FieldType := (yX8_chant, cX8_chant, 1, some .int)
abbrev mX0_addChant : MethodName × ByteArray × Nat × Option FieldType := (yX0_addChant, cX0_addChant, 1, some .int)
abbrev mJx4a65c_size_8abf5 : MethodName × ByteArray × Nat × Option FieldType := (yJx4a65c_size_8abf5, cJx4a65c_size_8abf5, 1, some .int)
abbrev mX2_init : MethodName × ByteArray × Nat × Option FieldType := (yX2_init, cX2_init, 1, none)
abbrev mJx4a65c_add_9ea2d : MethodName × ByteArray × Nat × Option FieldType := (yJx4a65c_add_9ea2d, cJx4a65c_add_9ea2d, 2, some .boolean)
abbrev mJx4a65c_add_72be8 : MethodName × ByteArray × Nat × Option FieldType := (yJx4a65c_add_72be8, cJx4a65c_add_72be8, 4, none)
abbrev mJx4a65c_grow_d5877 : MethodName × ByteArray × Nat × Option FieldType := (yJx4a65c_grow_d5877, cJx4a65c_grow_d5877, 1, some (.array (.object "java/lang/Object")))
abbrev mJx4a65c_grow_92f84 : MethodName × ByteArray × Nat × Option FieldType := (yJx4a65c_grow_92f84, cJx4a65c_grow_92f84, 4, some (.array (.object "java/lang/Object")))
abbrev mJ8_newLength_cabcc : MethodName × ByteArray × Nat × Option FieldType := (yJ8_newLength_cabcc, cJ8_newLength_cabcc, 4, some .int)
abbrev mJ9_max_7cf53 : MethodName × ByteArray × Nat × Option FieldType := (yJ9_max_7cf53, cJ9_max_7cf53, 2, some .int)
abbrev mJ8_hugeLength_7cf53 : MethodName × ByteArray × Nat × Option FieldType := (yJ8_hugeLength_7cf53, cJ8_hugeLength_7cf53, 3, some .int)
abbrev mJ7_copyOf_1904c : MethodName × ByteArray × Nat × Option FieldType := (yJ7_copyOf_1904c, cJ7_copyOf_1904c, 2, some (.array (.object "java/lang/Object")))
abbrev mJ7_copyOf_6403c : MethodName × ByteArray × Nat × Option FieldType := (yJ7_copyOf_6403c, cJ7_copyOf_6403c, 4, some (.array (.object "java/lang/Object")))
abbrev mJ9_min_7cf53 : MethodName × ByteArray × Nat × Option FieldType := (yJ9_min_7cf53, cJ9_min_7cf53, 2, some .int)
abbrev mX8_step : MethodName × ByteArray × Nat × Option FieldType := (yX8_step, cX8_step, 4, some .int)
abbrev mX8_isStepAsTold : MethodName × ByteArray × Nat × Option FieldType := (yX8_isStepAsTold, cX8_isStepAsTold, 4, some .boolean)
abbrev mX8_isWithin : MethodName × ByteArray × Nat × Option FieldType := (yX8_isWithin, cX8_isWithin, 3, some .boolean)
abbrev mX8_isColour : MethodName × ByteArray × Nat × Option FieldType := (yX8_isColour, cX8_isColour, 1, some .boolean)
abbrev mX0_chants : MethodName × ByteArray × Nat × Option FieldType := (yX0_chants, cX0_chants, 1, some .int)
abbrev mX0_addStep : MethodName × ByteArray × Nat × Option FieldType := (yX0_addStep, cX0_addStep, 5, some .int)
abbrev mJx4a65c_isEmpty_aae02 : MethodName × ByteArray × Nat × Option FieldType := (yJx4a65c_isEmpty_aae02, cJx4a65c_isEmpty_aae02, 1, some .boolean)
abbrev mJx4a65c_get_915e3 : MethodName × ByteArray × Nat × Option FieldType := (yJx4a65c_get_915e3, cJx4a65c_get_915e3, 2, some (.object "java/lang/Object"))
abbrev mJ15_checkIndex_7cf53 : MethodName × ByteArray × Nat × Option FieldType := (yJ15_checkIndex_7cf53, cJ15_checkIndex_7cf53, 2, some .int)
abbrev mJ3_checkIndex_8e157 : MethodName × ByteArray × Nat × Option FieldType := (yJ3_checkIndex_8e157, cJ3_checkIndex_8e157, 3, some .int)
abbrev mJx4a65c_elementData_915e3 : MethodName × ByteArray × Nat × Option FieldType := (yJx4a65c_elementData_915e3, cJx4a65c_elementData_915e3, 2, some (.object "java/lang/Object"))
abbrev mX5_init : MethodName × ByteArray × Nat × Option FieldType := (yX5_init, cX5_init, 4, none)
abbrev mX8_length : MethodName × ByteArray × Nat × Option FieldType := (yX8_length, cX8_length, 2, some .int)
abbrev mX0_hasChant : MethodName × ByteArray × Nat × Option FieldType := (yX0_hasChant, cX0_hasChant, 2, some .boolean)
abbrev mX0_measured : MethodName × ByteArray × Nat × Option FieldType := (yX0_measured, cX0_measured, 2, some .int)
abbrev mX0_measure : MethodName × ByteArray × Nat × Option FieldType := (yX0_measure, cX0_measure, 9, some .int)
abbrev mX0_added : MethodName × ByteArray × Nat × Option FieldType := (yX0_added, cX0_added, 6, some .int)
abbrev mX8_colour : MethodName × ByteArray × Nat × Option FieldType := (yX8_colour, cX8_colour, 4, some .int)
abbrev mX0_sung : MethodName × ByteArray × Nat × Option FieldType := (yX0_sung, cX0_sung, 3, some .int)
abbrev mX0_write : MethodName × ByteArray × Nat × Option FieldType := (yX0_write, cX0_write, 7, none)
abbrev mX0_writeStep : MethodName × ByteArray × Nat × Option FieldType := (yX0_writeStep, cX0_writeStep, 6, none)
abbrev mX0_writeColour : MethodName × ByteArray × Nat × Option FieldType := (yX0_writeColour, cX0_writeColour, 4, none)
abbrev mX0_writeKnot : MethodName × ByteArray × Nat × Option FieldType := (yX0_writeKnot, cX0_writeKnot, 2, none)
abbrev mX0_writeBackward : MethodName × ByteArray × Nat × Option FieldType := (yX0_writeBackward, cX0_writeBackward, 4, none)
abbrev mX0_heard : MethodName × ByteArray × Nat × Option FieldType := (yX0_heard, cX0_heard, 2, some .int)
abbrev mX0_writeAgain : MethodName × ByteArray × Nat × Option FieldType := (yX0_writeAgain, cX0_writeAgain, 4, none)
abbrev mX0_writeLike : MethodName × ByteArray × Nat × Option FieldType := (yX0_writeLike, cX0_writeLike, 5, none)
abbrev mX1_colourBelow : MethodName × ByteArray × Nat × Option FieldType := (yX1_colourBelow, cX1_colourBelow, 3, some .int)
abbrev mX1_hasKnot : MethodName × ByteArray × Nat × Option FieldType := (yX1_hasKnot, cX1_hasKnot, 3, some .boolean)
abbrev mX1_hasRow : MethodName × ByteArray × Nat × Option FieldType := (yX1_hasRow, cX1_hasRow, 2, some .boolean)
abbrev mX8_closes : MethodName × ByteArray × Nat × Option FieldType := (yX8_closes, cX8_closes, 3, some .int)
abbrev mX8_mend : MethodName × ByteArray × Nat × Option FieldType := (yX8_mend, cX8_mend, 4, some .int)
abbrev mX0_findMend : MethodName × ByteArray × Nat × Option FieldType := (yX0_findMend, cX0_findMend, 6, some .int)
abbrev mX0_isMendedBy : MethodName × ByteArray × Nat × Option FieldType := (yX0_isMendedBy, cX0_isMendedBy, 8, some .boolean)
abbrev mX0_stepOf : MethodName × ByteArray × Nat × Option FieldType := (yX0_stepOf, cX0_stepOf, 3, some (.object "KnotCaller$Step"))
abbrev mX8_mended : MethodName × ByteArray × Nat × Option FieldType := (yX8_mended, cX8_mended, 3, some .int)
abbrev mX0_mendAsFound : MethodName × ByteArray × Nat × Option FieldType := (yX0_mendAsFound, cX0_mendAsFound, 2, none)
abbrev mX0_hasStep : MethodName × ByteArray × Nat × Option FieldType := (yX0_hasStep, cX0_hasStep, 3, some .boolean)
abbrev mX8_told : MethodName × ByteArray × Nat × Option FieldType := (yX8_told, cX8_told, 5, some .int)
abbrev mX5_hasN : MethodName × ByteArray × Nat × Option FieldType := (yX5_hasN, cX5_hasN, 1, some .boolean)
abbrev mX5_hasColour : MethodName × ByteArray × Nat × Option FieldType := (yX5_hasColour, cX5_hasColour, 1, some .boolean)
abbrev mX0_endOf : MethodName × ByteArray × Nat × Option FieldType := (yX0_endOf, cX0_endOf, 2, some .int)
abbrev mX8_hand : MethodName × ByteArray × Nat × Option FieldType := (yX8_hand, cX8_hand, 4, some .int)
abbrev mX8_isHand : MethodName × ByteArray × Nat × Option FieldType := (yX8_isHand, cX8_isHand, 1, some .boolean)
abbrev mX1_setHand : MethodName × ByteArray × Nat × Option FieldType := (yX1_setHand, cX1_setHand, 5, some .boolean)
abbrev mX8_dye : MethodName × ByteArray × Nat × Option FieldType := (yX8_dye, cX8_dye, 4, some .int)
abbrev mX7_addLot : MethodName × ByteArray × Nat × Option FieldType := (yX7_addLot, cX7_addLot, 3, some .int)
abbrev mX8_tie : MethodName × ByteArray × Nat × Option FieldType := (yX8_tie, cX8_tie, 3, some .int)
abbrev mX1_tieRow : MethodName × ByteArray × Nat × Option FieldType := (yX1_tieRow, cX1_tieRow, 3, some .int)
abbrev mX1_knotsHeard : MethodName × ByteArray × Nat × Option FieldType := (yX1_knotsHeard, cX1_knotsHeard, 5, some .int)
abbrev mX7_leftInAll : MethodName × ByteArray × Nat × Option FieldType := (yX7_leftInAll, cX7_leftInAll, 3, some .int)
abbrev mX1_layColour : MethodName × ByteArray × Nat × Option FieldType := (yX1_layColour, cX1_layColour, 5, none)
abbrev mX7_take : MethodName × ByteArray × Nat × Option FieldType := (yX7_take, cX7_take, 2, some .int)
abbrev mX0_stepThatCalled : MethodName × ByteArray × Nat × Option FieldType := (yX0_stepThatCalled, cX0_stepThatCalled, 3, some .int)
abbrev mX3_lay : MethodName × ByteArray × Nat × Option FieldType := (yX3_lay, cX3_lay, 5, none)
abbrev mX1_minutesFor : MethodName × ByteArray × Nat × Option FieldType := (yX1_minutesFor, cX1_minutesFor, 7, some .int)
abbrev mX1_handAt : MethodName × ByteArray × Nat × Option FieldType := (yX1_handAt, cX1_handAt, 4, some .int)
abbrev mX1_roundedUp : MethodName × ByteArray × Nat × Option FieldType := (yX1_roundedUp, cX1_roundedUp, 2, some .int)
abbrev mX8_knot : MethodName × ByteArray × Nat × Option FieldType := (yX8_knot, cX8_knot, 3, some .int)
abbrev mX8_look : MethodName × ByteArray × Nat × Option FieldType := (yX8_look, cX8_look, 5, some .int)
abbrev mX3_isFault : MethodName × ByteArray × Nat × Option FieldType := (yX3_isFault, cX3_isFault, 2, some .boolean)
abbrev mX8_found : MethodName × ByteArray × Nat × Option FieldType := (yX8_found, cX8_found, 5, some .int)
abbrev mX8_cut : MethodName × ByteArray × Nat × Option FieldType := (yX8_cut, cX8_cut, 1, some .int)
abbrev mX8_minutes : MethodName × ByteArray × Nat × Option FieldType := (yX8_minutes, cX8_minutes, 2, some .int)
abbrev mX8_shifts : MethodName × ByteArray × Nat × Option FieldType := (yX8_shifts, cX8_shifts, 2, some .int)
abbrev mX1_shiftsInAll : MethodName × ByteArray × Nat × Option FieldType := (yX1_shiftsInAll, cX1_shiftsInAll, 4, some .int)
abbrev mX1_shiftsOf : MethodName × ByteArray × Nat × Option FieldType := (yX1_shiftsOf, cX1_shiftsOf, 10, some .int)
abbrev mX8_wool : MethodName × ByteArray × Nat × Option FieldType := (yX8_wool, cX8_wool, 2, some .int)
abbrev mX8_hands : MethodName × ByteArray × Nat × Option FieldType := (yX8_hands, cX8_hands, 3, some .int)
abbrev mX1_knotsBy : MethodName × ByteArray × Nat × Option FieldType := (yX1_knotsBy, cX1_knotsBy, 4, some .int)
abbrev mX1_faultsBy : MethodName × ByteArray × Nat × Option FieldType := (yX1_faultsBy, cX1_faultsBy, 4, some .int)
abbrev mX1_faultsAt : MethodName × ByteArray × Nat × Option FieldType := (yX1_faultsAt, cX1_faultsAt, 4, some .int)
abbrev mX1_wagesOf : MethodName × ByteArray × Nat × Option FieldType := (yX1_wagesOf, cX1_wagesOf, 2, some .int)
abbrev mX8_unlike : MethodName × ByteArray × Nat × Option FieldType := (yX8_unlike, cX8_unlike, 3, some .int)
abbrev mX1_unlikeMirrored : MethodName × ByteArray × Nat × Option FieldType := (yX1_unlikeMirrored, cX1_unlikeMirrored, 5, some .int)
abbrev mX1_unlikeRows : MethodName × ByteArray × Nat × Option FieldType := (yX1_unlikeRows, cX1_unlikeRows, 5, some .int)
abbrev mX8_side : MethodName × ByteArray × Nat × Option FieldType := (yX8_side, cX8_side, 4, some .int)
abbrev mX8_isSide : MethodName × ByteArray × Nat × Option FieldType := (yX8_isSide, cX8_isSide, 1, some .boolean)
abbrev mX8_areUnits : MethodName × ByteArray × Nat × Option FieldType := (yX8_areUnits, cX8_areUnits, 2, some .boolean)
abbrev mX8_wayOf : MethodName × ByteArray × Nat × Option FieldType := (yX8_wayOf, cX8_wayOf, 8, some .int)
abbrev mX8_corner : MethodName × ByteArray × Nat × Option FieldType := (yX8_corner, cX8_corner, 7, some .int)
abbrev mX8_meet : MethodName × ByteArray × Nat × Option FieldType := (yX8_meet, cX8_meet, 4, some .boolean)
abbrev mX8_fits : MethodName × ByteArray × Nat × Option FieldType := (yX8_fits, cX8_fits, 6, some .int)
abbrev mX8_village : MethodName × ByteArray × Nat × Option FieldType := (yX8_village, cX8_village, 2, some .int)
abbrev mX6_add : MethodName × ByteArray × Nat × Option FieldType := (yX6_add, cX6_add, 2, some .int)
abbrev mX6_growTree : MethodName × ByteArray × Nat × Option FieldType := (yX6_growTree, cX6_growTree, 4, none)
abbrev mX6_apart : MethodName × ByteArray × Nat × Option FieldType := (yX6_apart, cX6_apart, 3, some .int)
abbrev mJ6_bitCount_0f7a4 : MethodName × ByteArray × Nat × Option FieldType := (yJ6_bitCount_0f7a4, cJ6_bitCount_0f7a4, 1, some .int)
abbrev mX6_join : MethodName × ByteArray × Nat × Option FieldType := (yX6_join, cX6_join, 5, none)
abbrev mX8_tree : MethodName × ByteArray × Nat × Option FieldType := (yX8_tree, cX8_tree, 1, some .int)
abbrev mX8_link : MethodName × ByteArray × Nat × Option FieldType := (yX8_link, cX8_link, 2, some .int)
abbrev mX8_rivals : MethodName × ByteArray × Nat × Option FieldType := (yX8_rivals, cX8_rivals, 1, some .int)
abbrev mX6_rivalTrees : MethodName × ByteArray × Nat × Option FieldType := (yX6_rivalTrees, cX6_rivalTrees, 3, some .int)
abbrev mX6_firstOf : MethodName × ByteArray × Nat × Option FieldType := (yX6_firstOf, cX6_firstOf, 2, some .int)
abbrev mX6_splitSet : MethodName × ByteArray × Nat × Option FieldType := (yX6_splitSet, cX6_splitSet, 6, none)
abbrev mX6_linkBranch : MethodName × ByteArray × Nat × Option FieldType := (yX6_linkBranch, cX6_linkBranch, 7, none)
abbrev mX6_addTrees : MethodName × ByteArray × Nat × Option FieldType := (yX6_addTrees, cX6_addTrees, 4, none)
abbrev mX8_count : MethodName × ByteArray × Nat × Option FieldType := (yX8_count, cX8_count, 2, some .int)
abbrev mX1_faultsInAll : MethodName × ByteArray × Nat × Option FieldType := (yX1_faultsInAll, cX1_faultsInAll, 3, some .int)
abbrev mX1_minutesInAll : MethodName × ByteArray × Nat × Option FieldType := (yX1_minutesInAll, cX1_minutesInAll, 3, some .int)
abbrev mX8_keep : MethodName × ByteArray × Nat × Option FieldType := (yX8_keep, cX8_keep, 5, some .int)
abbrev mX8_isShelf : MethodName × ByteArray × Nat × Option FieldType := (yX8_isShelf, cX8_isShelf, 1, some .boolean)
abbrev mX4_holdNothing : MethodName × ByteArray × Nat × Option FieldType := (yX4_holdNothing, cX4_holdNothing, 1, none)
abbrev mX8_keepStep : MethodName × ByteArray × Nat × Option FieldType := (yX8_keepStep, cX8_keepStep, 5, some .int)
abbrev mX4_holdStep : MethodName × ByteArray × Nat × Option FieldType := (yX4_holdStep, cX4_holdStep, 2, none)
abbrev mX8_keepColours : MethodName × ByteArray × Nat × Option FieldType := (yX8_keepColours, cX8_keepColours, 4, some .int)
abbrev mX4_holdZeros : MethodName × ByteArray × Nat × Option FieldType := (yX4_holdZeros, cX4_holdZeros, 4, none)
abbrev mX8_keepMinutes : MethodName × ByteArray × Nat × Option FieldType := (yX8_keepMinutes, cX8_keepMinutes, 3, some .int)
abbrev mX8_make : MethodName × ByteArray × Nat × Option FieldType := (yX8_make, cX8_make, 4, some .int)
abbrev mX8_copy : MethodName × ByteArray × Nat × Option FieldType := (yX8_copy, cX8_copy, 8, some .int)
abbrev mX4_holdsRow : MethodName × ByteArray × Nat × Option FieldType := (yX4_holdsRow, cX4_holdsRow, 1, some .boolean)
abbrev mX4_hasPlaces : MethodName × ByteArray × Nat × Option FieldType := (yX4_hasPlaces, cX4_hasPlaces, 3, some .boolean)
abbrev mX8_weight : MethodName × ByteArray × Nat × Option FieldType := (yX8_weight, cX8_weight, 3, some .int)
abbrev mX8_stepOn : MethodName × ByteArray × Nat × Option FieldType := (yX8_stepOn, cX8_stepOn, 2, some (.object "KnotCaller$Step"))
abbrev mX8_whyNoStepOn : MethodName × ByteArray × Nat × Option FieldType := (yX8_whyNoStepOn, cX8_whyNoStepOn, 2, some .int)
abbrev mX5_heft : MethodName × ByteArray × Nat × Option FieldType := (yX5_heft, cX5_heft, 2, some .int)
abbrev mX5_fail : MethodName × ByteArray × Nat × Option FieldType := (yX5_fail, cX5_fail, 1, none)
abbrev mL_cell : MethodName × ByteArray × Nat × Option FieldType := (yL_cell, cL_cell, 2, some .int)
abbrev mX8_element : MethodName × ByteArray × Nat × Option FieldType := (yX8_element, cX8_element, 4, some .long)
abbrev mX9_thrown : MethodName × ByteArray × Nat × Option FieldType := (yX9_thrown, cX9_thrown, 1, some .int)
abbrev mX9_init : MethodName × ByteArray × Nat × Option FieldType := (yX9_init, cX9_init, 2, none)
abbrev mX9_chant : MethodName × ByteArray × Nat × Option FieldType := (yX9_chant, cX9_chant, 1, some .int)
abbrev mX9_step : MethodName × ByteArray × Nat × Option FieldType := (yX9_step, cX9_step, 6, some .int)
abbrev mX9_in : MethodName × ByteArray × Nat × Option FieldType := (yX9_in, cX9_in, 4, some .boolean)
abbrev mX9_hasColour : MethodName × ByteArray × Nat × Option FieldType := (yX9_hasColour, cX9_hasColour, 2, some .boolean)
abbrev mX9_isColour : MethodName × ByteArray × Nat × Option FieldType := (yX9_isColour, cX9_isColour, 2, some .boolean)
abbrev mX9_hasNumber : MethodName × ByteArray × Nat × Option FieldType := (yX9_hasNumber, cX9_hasNumber, 2, some .boolean)
abbrev mX9_length : MethodName × ByteArray × Nat × Option FieldType := (yX9_length, cX9_length, 2, some .int)
abbrev mX9_isChant : MethodName × ByteArray × Nat × Option FieldType := (yX9_isChant, cX9_isChant, 2, some .boolean)
abbrev mX9_call : MethodName × ByteArray × Nat × Option FieldType := (yX9_call, cX9_call, 6, some .int)
abbrev mX9_stepOf : MethodName × ByteArray × Nat × Option FieldType := (yX9_stepOf, cX9_stepOf, 7, some .boolean)
abbrev mX9_add : MethodName × ByteArray × Nat × Option FieldType := (yX9_add, cX9_add, 2, some .boolean)
abbrev mX9_addAll : MethodName × ByteArray × Nat × Option FieldType := (yX9_addAll, cX9_addAll, 6, some .boolean)
abbrev mX9_below : MethodName × ByteArray × Nat × Option FieldType := (yX9_below, cX9_below, 3, some .int)
abbrev mX9_colour : MethodName × ByteArray × Nat × Option FieldType := (yX9_colour, cX9_colour, 4, some .int)
abbrev mX9_closes : MethodName × ByteArray × Nat × Option FieldType := (yX9_closes, cX9_closes, 3, some .int)
abbrev mX9_mend : MethodName × ByteArray × Nat × Option FieldType := (yX9_mend, cX9_mend, 4, some .int)
abbrev mX9_findMend : MethodName × ByteArray × Nat × Option FieldType := (yX9_findMend, cX9_findMend, 9, some .int)
abbrev mX9_mended : MethodName × ByteArray × Nat × Option FieldType := (yX9_mended, cX9_mended, 3, some .int)
abbrev mX9_told : MethodName × ByteArray × Nat × Option FieldType := (yX9_told, cX9_told, 6, some .int)
abbrev mX9_hand : MethodName × ByteArray × Nat × Option FieldType := (yX9_hand, cX9_hand, 5, some .int)
abbrev mX9_dye : MethodName × ByteArray × Nat × Option FieldType := (yX9_dye, cX9_dye, 4, some .int)
abbrev mX9_tie : MethodName × ByteArray × Nat × Option FieldType := (yX9_tie, cX9_tie, 7, some .int)
abbrev mX9_isEnough : MethodName × ByteArray × Nat × Option FieldType := (yX9_isEnough, cX9_isEnough, 5, some .boolean)
abbrev mX9_leftOf : MethodName × ByteArray × Nat × Option FieldType := (yX9_leftOf, cX9_leftOf, 4, some .int)
abbrev mX9_minutesOf : MethodName × ByteArray × Nat × Option FieldType := (yX9_minutesOf, cX9_minutesOf, 6, some .int)
abbrev mX9_handAt : MethodName × ByteArray × Nat × Option FieldType := (yX9_handAt, cX9_handAt, 4, some .int)
abbrev mX9_takeWool : MethodName × ByteArray × Nat × Option FieldType := (yX9_takeWool, cX9_takeWool, 3, some .int)
abbrev mX9_knot : MethodName × ByteArray × Nat × Option FieldType := (yX9_knot, cX9_knot, 3, some .int)
abbrev mX9_isKnot : MethodName × ByteArray × Nat × Option FieldType := (yX9_isKnot, cX9_isKnot, 3, some .boolean)
abbrev mX9_look : MethodName × ByteArray × Nat × Option FieldType := (yX9_look, cX9_look, 5, some .int)
abbrev mX9_found : MethodName × ByteArray × Nat × Option FieldType := (yX9_found, cX9_found, 4, some .int)
abbrev mX9_cut : MethodName × ByteArray × Nat × Option FieldType := (yX9_cut, cX9_cut, 1, some .int)
abbrev mX9_minutes : MethodName × ByteArray × Nat × Option FieldType := (yX9_minutes, cX9_minutes, 2, some .int)
abbrev mX9_shifts : MethodName × ByteArray × Nat × Option FieldType := (yX9_shifts, cX9_shifts, 8, some .int)
abbrev mX9_wool : MethodName × ByteArray × Nat × Option FieldType := (yX9_wool, cX9_wool, 2, some .int)
abbrev mX9_hands : MethodName × ByteArray × Nat × Option FieldType := (yX9_hands, cX9_hands, 7, some .int)
abbrev mX9_unlike : MethodName × ByteArray × Nat × Option FieldType := (yX9_unlike, cX9_unlike, 5, some .int)
abbrev mX9_side : MethodName × ByteArray × Nat × Option FieldType := (yX9_side, cX9_side, 4, some .int)
abbrev mX9_areUnits : MethodName × ByteArray × Nat × Option FieldType := (yX9_areUnits, cX9_areUnits, 3, some .boolean)
abbrev mX9_wayOf : MethodName × ByteArray × Nat × Option FieldType := (yX9_wayOf, cX9_wayOf, 8, some .int)
abbrev mX9_corner : MethodName × ByteArray × Nat × Option FieldType := (yX9_corner, cX9_corner, 7, some .int)
abbrev mX9_meets : MethodName × ByteArray × Nat × Option FieldType := (yX9_meets, cX9_meets, 3, some .boolean)
abbrev mX9_fits : MethodName × ByteArray × Nat × Option FieldType := (yX9_fits, cX9_fits, 6, some .int)
abbrev mX9_village : MethodName × ByteArray × Nat × Option FieldType := (yX9_village, cX9_village, 2, some .int)
abbrev mX9_tree : MethodName × ByteArray × Nat × Option FieldType := (yX9_tree, cX9_tree, 1, some .int)
abbrev mX9_makeTree : MethodName × ByteArray × Nat × Option FieldType := (yX9_makeTree, cX9_makeTree, 4, none)
abbrev mX9_apart : MethodName × ByteArray × Nat × Option FieldType := (yX9_apart, cX9_apart, 5, some .int)
abbrev mX9_join : MethodName × ByteArray × Nat × Option FieldType := (yX9_join, cX9_join, 6, none)
abbrev mX9_link : MethodName × ByteArray × Nat × Option FieldType := (yX9_link, cX9_link, 2, some .int)
abbrev mX9_rivals : MethodName × ByteArray × Nat × Option FieldType := (yX9_rivals, cX9_rivals, 7, some .int)
abbrev mX9_isTree : MethodName × ByteArray × Nat × Option FieldType := (yX9_isTree, cX9_isTree, 6, some .boolean)
abbrev mX9_count : MethodName × ByteArray × Nat × Option FieldType := (yX9_count, cX9_count, 4, some .int)
abbrev mX9_faults : MethodName × ByteArray × Nat × Option FieldType := (yX9_faults, cX9_faults, 4, some .int)
abbrev mX9_keep : MethodName × ByteArray × Nat × Option FieldType := (yX9_keep, cX9_keep, 7, some .int)
abbrev mX9_isShelf : MethodName × ByteArray × Nat × Option FieldType := (yX9_isShelf, cX9_isShelf, 2, some .boolean)
abbrev mX9_wipe : MethodName × ByteArray × Nat × Option FieldType := (yX9_wipe, cX9_wipe, 3, none)
abbrev mX9_make : MethodName × ByteArray × Nat × Option FieldType := (yX9_make, cX9_make, 4, some .int)
abbrev mX9_element : MethodName × ByteArray × Nat × Option FieldType := (yX9_element, cX9_element, 3, some .long)
abbrev mX9_copy : MethodName × ByteArray × Nat × Option FieldType := (yX9_copy, cX9_copy, 7, some .int)
abbrev mX9_weight : MethodName × ByteArray × Nat × Option FieldType := (yX9_weight, cX9_weight, 4, some .int)
abbrev mX9_lacksStep : MethodName × ByteArray × Nat × Option FieldType := (yX9_lacksStep, cX9_lacksStep, 2, some .int)
abbrev mX9_toss : MethodName × ByteArray × Nat × Option FieldType := (yX9_toss, cX9_toss, 2, some .int)
end
section
theorem dJ6_bitCount_0f7a4_0 : decode cJ6_bitCount_0f7a4 0 = .ok (.iload_n 0, 1) := by decide +kernel
theorem dJ6_bitCount_0f7a4_1 : decode cJ6_bitCount_0f7a4 1 = .ok (.iload_n 0, 1) := by decide +kernel
theorem dJ6_bitCount_0f7a4_2 : decode cJ6_bitCount_0f7a4 2 = .ok (.iconst 1, 1) := by decide +kernel
theorem dJ6_bitCount_0f7a4_3 : decode cJ6_bitCount_0f7a4 3 = .ok (.iushr, 1) := by decide +kernel
theorem dJ6_bitCount_0f7a4_4 : decode cJ6_bitCount_0f7a4 4 = .ok (.ldc_w 265, 3) := by decide +kernel
theorem dJ6_bitCount_0f7a4_7 : decode cJ6_bitCount_0f7a4 7 = .ok (.iand, 1) := by decide +kernel
theorem dJ6_bitCount_0f7a4_8 : decode cJ6_bitCount_0f7a4 8 = .ok (.isub, 1) := by decide +kernel
theorem dJ6_bitCount_0f7a4_9 : decode cJ6_bitCount_0f7a4 9 = .ok (.istore_n 0, 1) := by decide +kernel
theorem dJ6_bitCount_0f7a4_10 : decode cJ6_bitCount_0f7a4 10 = .ok (.iload_n 0, 1) := by decide +kernel
theorem dJ6_bitCount_0f7a4_11 : decode cJ6_bitCount_0f7a4 11 = .ok (.ldc_w 266, 3) := by decide +kernel
theorem dJ6_bitCount_0f7a4_14 : decode cJ6_bitCount_0f7a4 14 = .ok (.iand, 1) := by decide +kernel
theorem dJ6_bitCount_0f7a4_15 : decode cJ6_bitCount_0f7a4 15 = .ok (.iload_n 0, 1) := by decide +kernel
theorem dJ6_bitCount_0f7a4_16 : decode cJ6_bitCount_0f7a4 16 = .ok (.iconst 2, 1) := by decide +kernel
theorem dJ6_bitCount_0f7a4_17 : decode cJ6_bitCount_0f7a4 17 = .ok (.iushr, 1) := by decide +kernel
theorem dJ6_bitCount_0f7a4_18 : decode cJ6_bitCount_0f7a4 18 = .ok (.ldc_w 266, 3) := by decide +kernel
theorem dJ6_bitCount_0f7a4_21 : decode cJ6_bitCount_0f7a4 21 = .ok (.iand, 1) := by decide +kernel
theorem dJ6_bitCount_0f7a4_22 : decode cJ6_bitCount_0f7a4 22 = .ok (.iadd, 1) := by decide +kernel
theorem dJ6_bitCount_0f7a4_23 : decode cJ6_bitCount_0f7a4 23 = .ok (.istore_n 0, 1) := by decide +kernel
theorem dJ6_bitCount_0f7a4_24 : decode cJ6_bitCount_0f7a4 24 = .ok (.iload_n 0, 1) := by decide +kernel
theorem dJ6_bitCount_0f7a4_25 : decode cJ6_bitCount_0f7a4 25 = .ok (.iload_n 0, 1) := by decide +kernel
theorem dJ6_bitCount_0f7a4_26 : decode cJ6_bitCount_0f7a4 26 = .ok (.iconst 4, 1) := by decide +kernel
theorem dJ6_bitCount_0f7a4_27 : decode cJ6_bitCount_0f7a4 27 = .ok (.iushr, 1) := by decide +kernel
theorem dJ6_bitCount_0f7a4_28 : decode cJ6_bitCount_0f7a4 28 = .ok (.iadd, 1) := by decide +kernel
theorem dJ6_bitCount_0f7a4_29 : decode cJ6_bitCount_0f7a4 29 = .ok (.ldc_w 267, 3) := by decide +kernel
theorem dJ6_bitCount_0f7a4_32 : decode cJ6_bitCount_0f7a4 32 = .ok (.iand, 1) := by decide +kernel
theorem dJ6_bitCount_0f7a4_33 : decode cJ6_bitCount_0f7a4 33 = .ok (.istore_n 0, 1) := by decide +kernel
theorem dJ6_bitCount_0f7a4_34 : decode cJ6_bitCount_0f7a4 34 = .ok (.iload_n 0, 1) := by decide +kernel
theorem dJ6_bitCount_0f7a4_35 : decode cJ6_bitCount_0f7a4 35 = .ok (.iload_n 0, 1) := by decide +kernel
theorem dJ6_bitCount_0f7a4_36 : decode cJ6_bitCount_0f7a4 36 = .ok (.bipush 8, 2) := by decide +kernel
theorem dJ6_bitCount_0f7a4_38 : decode cJ6_bitCount_0f7a4 38 = .ok (.iushr, 1) := by decide +kernel
theorem dJ6_bitCount_0f7a4_39 : decode cJ6_bitCount_0f7a4 39 = .ok (.iadd, 1) := by decide +kernel
theorem dJ6_bitCount_0f7a4_40 : decode cJ6_bitCount_0f7a4 40 = .ok (.istore_n 0, 1) := by decide +kernel
theorem dJ6_bitCount_0f7a4_41 : decode cJ6_bitCount_0f7a4 41 = .ok (.iload_n 0, 1) := by decide +kernel
theorem dJ6_bitCount_0f7a4_42 : decode cJ6_bitCount_0f7a4 42 = .ok (.iload_n 0, 1) := by decide +kernel
theorem dJ6_bitCount_0f7a4_43 : decode cJ6_bitCount_0f7a4 43 = .ok (.bipush 16, 2) := by decide +kernel
theorem dJ6_bitCount_0f7a4_45 : decode cJ6_bitCount_0f7a4 45 = .ok (.iushr, 1) := by decide +kernel
theorem dJ6_bitCount_0f7a4_46 : decode cJ6_bitCount_0f7a4 46 = .ok (.iadd, 1) := by decide +kernel
theorem dJ6_bitCount_0f7a4_47 : decode cJ6_bitCount_0f7a4 47 = .ok (.istore_n 0, 1) := by decide +kernel
theorem dJ6_bitCount_0f7a4_48 : decode cJ6_bitCount_0f7a4 48 = .ok (.iload_n 0, 1) := by decide +kernel
theorem dJ6_bitCount_0f7a4_49 : decode cJ6_bitCount_0f7a4 49 = .ok (.bipush 63, 2) := by decide +kernel
theorem dJ6_bitCount_0f7a4_51 : decode cJ6_bitCount_0f7a4 51 = .ok (.iand, 1) := by decide +kernel
theorem dJ6_bitCount_0f7a4_52 : decode cJ6_bitCount_0f7a4 52 = .ok (.ireturn, 1) := by decide +kernel
theorem dJ9_floorMod_7cf53_0 : decode cJ9_floorMod_7cf53 0 = .ok (.iload_n 0, 1) := by decide +kernel
theorem dJ9_floorMod_7cf53_1 : decode cJ9_floorMod_7cf53 1 = .ok (.iload_n 1, 1) := by decide +kernel
theorem dJ9_floorMod_7cf53_2 : decode cJ9_floorMod_7cf53 2 = .ok (.irem, 1) := by decide +kernel
theorem dJ9_floorMod_7cf53_3 : decode cJ9_floorMod_7cf53 3 = .ok (.istore_n 2, 1) := by decide +kernel
theorem dJ9_floorMod_7cf53_4 : decode cJ9_floorMod_7cf53 4 = .ok (.iload_n 0, 1) := by decide +kernel
theorem dJ9_floorMod_7cf53_5 : decode cJ9_floorMod_7cf53 5 = .ok (.iload_n 1, 1) := by decide +kernel
theorem dJ9_floorMod_7cf53_6 : decode cJ9_floorMod_7cf53 6 = .ok (.ixor, 1) := by decide +kernel
theorem dJ9_floorMod_7cf53_7 : decode cJ9_floorMod_7cf53 7 = .ok (.ifCond .ge 11, 3) := by decide +kernel
theorem dJ9_floorMod_7cf53_10 : decode cJ9_floorMod_7cf53 10 = .ok (.iload_n 2, 1) := by decide +kernel
theorem dJ9_floorMod_7cf53_11 : decode cJ9_floorMod_7cf53 11 = .ok (.ifCond .eq 7, 3) := by decide +kernel
theorem dJ9_floorMod_7cf53_14 : decode cJ9_floorMod_7cf53 14 = .ok (.iload_n 2, 1) := by decide +kernel
theorem dJ9_floorMod_7cf53_15 : decode cJ9_floorMod_7cf53 15 = .ok (.iload_n 1, 1) := by decide +kernel
theorem dJ9_floorMod_7cf53_16 : decode cJ9_floorMod_7cf53 16 = .ok (.iadd, 1) := by decide +kernel
theorem dJ9_floorMod_7cf53_17 : decode cJ9_floorMod_7cf53 17 = .ok (.ireturn, 1) := by decide +kernel
theorem dJ9_floorMod_7cf53_18 : decode cJ9_floorMod_7cf53 18 = .ok (.iload_n 2, 1) := by decide +kernel
theorem dJ9_floorMod_7cf53_19 : decode cJ9_floorMod_7cf53 19 = .ok (.ireturn, 1) := by decide +kernel
theorem dJ9_max_7cf53_0 : decode cJ9_max_7cf53 0 = .ok (.iload_n 0, 1) := by decide +kernel
theorem dJ9_max_7cf53_1 : decode cJ9_max_7cf53 1 = .ok (.iload_n 1, 1) := by decide +kernel
theorem dJ9_max_7cf53_2 : decode cJ9_max_7cf53 2 = .ok (.if_icmp .lt 7, 3) := by decide +kernel
theorem dJ9_max_7cf53_5 : decode cJ9_max_7cf53 5 = .ok (.iload_n 0, 1) := by decide +kernel
theorem dJ9_max_7cf53_6 : decode cJ9_max_7cf53 6 = .ok (.goto 4, 3) := by decide +kernel
theorem dJ9_max_7cf53_9 : decode cJ9_max_7cf53 9 = .ok (.iload_n 1, 1) := by decide +kernel
theorem dJ9_max_7cf53_10 : decode cJ9_max_7cf53 10 = .ok (.ireturn, 1) := by decide +kernel
theorem dJ9_min_7cf53_0 : decode cJ9_min_7cf53 0 = .ok (.iload_n 0, 1) := by decide +kernel
theorem dJ9_min_7cf53_1 : decode cJ9_min_7cf53 1 = .ok (.iload_n 1, 1) := by decide +kernel
theorem dJ9_min_7cf53_2 : decode cJ9_min_7cf53 2 = .ok (.if_icmp .gt 7, 3) := by decide +kernel
theorem dJ9_min_7cf53_5 : decode cJ9_min_7cf53 5 = .ok (.iload_n 0, 1) := by decide +kernel
theorem dJ9_min_7cf53_6 : decode cJ9_min_7cf53 6 = .ok (.goto 4, 3) := by decide +kernel
theorem dJ9_min_7cf53_9 : decode cJ9_min_7cf53 9 = .ok (.iload_n 1, 1) := by decide +kernel
theorem dJ9_min_7cf53_10 : decode cJ9_min_7cf53 10 = .ok (.ireturn, 1) := by decide +kernel
theorem dJxa1e45_init_da8c8_0 : decode cJxa1e45_init_da8c8 0 = .ok (.aload_n 0, 1) := by decide +kernel
theorem dJxa1e45_init_da8c8_1 : decode cJxa1e45_init_da8c8 1 = .ok (.invokespecial 1, 3) := by decide +kernel
theorem dJxa1e45_init_da8c8_4 : decode cJxa1e45_init_da8c8 4 = .ok (.return_, 1) := by decide +kernel
theorem dJxc12de_init_da8c8_0 : decode cJxc12de_init_da8c8 0 = .ok (.aload_n 0, 1) := by decide +kernel
theorem dJxc12de_init_da8c8_1 : decode cJxc12de_init_da8c8 1 = .ok (.invokespecial 1, 3) := by decide +kernel
theorem dJxc12de_init_da8c8_4 : decode cJxc12de_init_da8c8 4 = .ok (.aload_n 0, 1) := by decide +kernel
theorem dJxc12de_init_da8c8_5 : decode cJxc12de_init_da8c8 5 = .ok (.iconst 0, 1) := by decide +kernel
theorem dJxc12de_init_da8c8_6 : decode cJxc12de_init_da8c8 6 = .ok (.putfield 7, 3) := by decide +kernel
theorem dJxc12de_init_da8c8_9 : decode cJxc12de_init_da8c8 9 = .ok (.return_, 1) := by decide +kernel
theorem dJx4a65c_init_da8c8_0 : decode cJx4a65c_init_da8c8 0 = .ok (.aload_n 0, 1) := by decide +kernel
theorem dJx4a65c_init_da8c8_1 : decode cJx4a65c_init_da8c8 1 = .ok (.invokespecial 1, 3) := by decide +kernel
theorem dJx4a65c_init_da8c8_4 : decode cJx4a65c_init_da8c8 4 = .ok (.aload_n 0, 1) := by decide +kernel
theorem dJx4a65c_init_da8c8_5 : decode cJx4a65c_init_da8c8 5 = .ok (.getstatic 39, 3) := by decide +kernel
theorem dJx4a65c_init_da8c8_8 : decode cJx4a65c_init_da8c8 8 = .ok (.putfield 9, 3) := by decide +kernel
theorem dJx4a65c_init_da8c8_11 : decode cJx4a65c_init_da8c8 11 = .ok (.return_, 1) := by decide +kernel
theorem dJx4a65c_grow_92f84_0 : decode cJx4a65c_grow_92f84 0 = .ok (.aload_n 0, 1) := by decide +kernel
theorem dJx4a65c_grow_92f84_1 : decode cJx4a65c_grow_92f84 1 = .ok (.getfield 9, 3) := by decide +kernel
theorem dJx4a65c_grow_92f84_4 : decode cJx4a65c_grow_92f84 4 = .ok (.arraylength, 1) := by decide +kernel
theorem dJx4a65c_grow_92f84_5 : decode cJx4a65c_grow_92f84 5 = .ok (.istore_n 2, 1) := by decide +kernel
theorem dJx4a65c_grow_92f84_6 : decode cJx4a65c_grow_92f84 6 = .ok (.iload_n 2, 1) := by decide +kernel
theorem dJx4a65c_grow_92f84_7 : decode cJx4a65c_grow_92f84 7 = .ok (.ifCond .gt 13, 3) := by decide +kernel
theorem dJx4a65c_grow_92f84_10 : decode cJx4a65c_grow_92f84 10 = .ok (.aload_n 0, 1) := by decide +kernel
theorem dJx4a65c_grow_92f84_11 : decode cJx4a65c_grow_92f84 11 = .ok (.getfield 9, 3) := by decide +kernel
theorem dJx4a65c_grow_92f84_14 : decode cJx4a65c_grow_92f84 14 = .ok (.getstatic 39, 3) := by decide +kernel
theorem dJx4a65c_grow_92f84_17 : decode cJx4a65c_grow_92f84 17 = .ok (.if_acmp .eq 28, 3) := by decide +kernel
theorem dJx4a65c_grow_92f84_20 : decode cJx4a65c_grow_92f84 20 = .ok (.iload_n 2, 1) := by decide +kernel
theorem dJx4a65c_grow_92f84_21 : decode cJx4a65c_grow_92f84 21 = .ok (.iload_n 1, 1) := by decide +kernel
theorem dJx4a65c_grow_92f84_22 : decode cJx4a65c_grow_92f84 22 = .ok (.iload_n 2, 1) := by decide +kernel
theorem dJx4a65c_grow_92f84_23 : decode cJx4a65c_grow_92f84 23 = .ok (.isub, 1) := by decide +kernel
theorem dJx4a65c_grow_92f84_24 : decode cJx4a65c_grow_92f84 24 = .ok (.iload_n 2, 1) := by decide +kernel
theorem dJx4a65c_grow_92f84_25 : decode cJx4a65c_grow_92f84 25 = .ok (.iconst 1, 1) := by decide +kernel
theorem dJx4a65c_grow_92f84_26 : decode cJx4a65c_grow_92f84 26 = .ok (.ishr, 1) := by decide +kernel
theorem dJx4a65c_grow_92f84_27 : decode cJx4a65c_grow_92f84 27 = .ok (.invokestatic 73, 3) := by decide +kernel
theorem dJx4a65c_grow_92f84_30 : decode cJx4a65c_grow_92f84 30 = .ok (.istore_n 3, 1) := by decide +kernel
theorem dJx4a65c_grow_92f84_31 : decode cJx4a65c_grow_92f84 31 = .ok (.aload_n 0, 1) := by decide +kernel
theorem dJx4a65c_grow_92f84_32 : decode cJx4a65c_grow_92f84 32 = .ok (.aload_n 0, 1) := by decide +kernel
theorem dJx4a65c_grow_92f84_33 : decode cJx4a65c_grow_92f84 33 = .ok (.getfield 9, 3) := by decide +kernel
theorem dJx4a65c_grow_92f84_36 : decode cJx4a65c_grow_92f84 36 = .ok (.iload_n 3, 1) := by decide +kernel
theorem dJx4a65c_grow_92f84_37 : decode cJx4a65c_grow_92f84 37 = .ok (.invokestatic 66, 3) := by decide +kernel
theorem dJx4a65c_grow_92f84_40 : decode cJx4a65c_grow_92f84 40 = .ok (.dup_x1, 1) := by decide +kernel
theorem dJx4a65c_grow_92f84_41 : decode cJx4a65c_grow_92f84 41 = .ok (.putfield 9, 3) := by decide +kernel
theorem dJx4a65c_grow_92f84_44 : decode cJx4a65c_grow_92f84 44 = .ok (.areturn, 1) := by decide +kernel
theorem dJx4a65c_grow_92f84_45 : decode cJx4a65c_grow_92f84 45 = .ok (.aload_n 0, 1) := by decide +kernel
theorem dJx4a65c_grow_92f84_46 : decode cJx4a65c_grow_92f84 46 = .ok (.bipush 10, 2) := by decide +kernel
theorem dJx4a65c_grow_92f84_48 : decode cJx4a65c_grow_92f84 48 = .ok (.iload_n 1, 1) := by decide +kernel
theorem dJx4a65c_grow_92f84_49 : decode cJx4a65c_grow_92f84 49 = .ok (.invokestatic 79, 3) := by decide +kernel
theorem dJx4a65c_grow_92f84_52 : decode cJx4a65c_grow_92f84 52 = .ok (.anewarray 7, 3) := by decide +kernel
theorem dJx4a65c_grow_92f84_55 : decode cJx4a65c_grow_92f84 55 = .ok (.dup_x1, 1) := by decide +kernel
theorem dJx4a65c_grow_92f84_56 : decode cJx4a65c_grow_92f84 56 = .ok (.putfield 9, 3) := by decide +kernel
theorem dJx4a65c_grow_92f84_59 : decode cJx4a65c_grow_92f84 59 = .ok (.areturn, 1) := by decide +kernel
theorem dJx4a65c_grow_d5877_0 : decode cJx4a65c_grow_d5877 0 = .ok (.aload_n 0, 1) := by decide +kernel
theorem dJx4a65c_grow_d5877_1 : decode cJx4a65c_grow_d5877 1 = .ok (.aload_n 0, 1) := by decide +kernel
theorem dJx4a65c_grow_d5877_2 : decode cJx4a65c_grow_d5877 2 = .ok (.getfield 48, 3) := by decide +kernel
theorem dJx4a65c_grow_d5877_5 : decode cJx4a65c_grow_d5877 5 = .ok (.iconst 1, 1) := by decide +kernel
theorem dJx4a65c_grow_d5877_6 : decode cJx4a65c_grow_d5877 6 = .ok (.iadd, 1) := by decide +kernel
theorem dJx4a65c_grow_d5877_7 : decode cJx4a65c_grow_d5877 7 = .ok (.invokevirtual 69, 3) := by decide +kernel
theorem dJx4a65c_grow_d5877_10 : decode cJx4a65c_grow_d5877 10 = .ok (.areturn, 1) := by decide +kernel
theorem dJx4a65c_size_8abf5_0 : decode cJx4a65c_size_8abf5 0 = .ok (.aload_n 0, 1) := by decide +kernel
theorem dJx4a65c_size_8abf5_1 : decode cJx4a65c_size_8abf5 1 = .ok (.getfield 48, 3) := by decide +kernel
theorem dJx4a65c_size_8abf5_4 : decode cJx4a65c_size_8abf5 4 = .ok (.ireturn, 1) := by decide +kernel
theorem dJx4a65c_isEmpty_aae02_0 : decode cJx4a65c_isEmpty_aae02 0 = .ok (.aload_n 0, 1) := by decide +kernel
theorem dJx4a65c_isEmpty_aae02_1 : decode cJx4a65c_isEmpty_aae02 1 = .ok (.getfield 48, 3) := by decide +kernel
theorem dJx4a65c_isEmpty_aae02_4 : decode cJx4a65c_isEmpty_aae02 4 = .ok (.ifCond .ne 7, 3) := by decide +kernel
theorem dJx4a65c_isEmpty_aae02_7 : decode cJx4a65c_isEmpty_aae02 7 = .ok (.iconst 1, 1) := by decide +kernel
theorem dJx4a65c_isEmpty_aae02_8 : decode cJx4a65c_isEmpty_aae02 8 = .ok (.goto 4, 3) := by decide +kernel
theorem dJx4a65c_isEmpty_aae02_11 : decode cJx4a65c_isEmpty_aae02 11 = .ok (.iconst 0, 1) := by decide +kernel
theorem dJx4a65c_isEmpty_aae02_12 : decode cJx4a65c_isEmpty_aae02 12 = .ok (.ireturn, 1) := by decide +kernel
theorem dJx4a65c_elementData_915e3_0 : decode cJx4a65c_elementData_915e3 0 = .ok (.aload_n 0, 1) := by decide +kernel
theorem dJx4a65c_elementData_915e3_1 : decode cJx4a65c_elementData_915e3 1 = .ok (.getfield 9, 3) := by decide +kernel
theorem dJx4a65c_elementData_915e3_4 : decode cJx4a65c_elementData_915e3 4 = .ok (.iload_n 1, 1) := by decide +kernel
theorem dJx4a65c_elementData_915e3_5 : decode cJx4a65c_elementData_915e3 5 = .ok (.aaload, 1) := by decide +kernel
theorem dJx4a65c_elementData_915e3_6 : decode cJx4a65c_elementData_915e3 6 = .ok (.areturn, 1) := by decide +kernel
theorem dJx4a65c_get_915e3_0 : decode cJx4a65c_get_915e3 0 = .ok (.iload_n 1, 1) := by decide +kernel
theorem dJx4a65c_get_915e3_1 : decode cJx4a65c_get_915e3 1 = .ok (.aload_n 0, 1) := by decide +kernel
theorem dJx4a65c_get_915e3_2 : decode cJx4a65c_get_915e3 2 = .ok (.getfield 48, 3) := by decide +kernel
theorem dJx4a65c_get_915e3_5 : decode cJx4a65c_get_915e3 5 = .ok (.invokestatic 118, 3) := by decide +kernel
theorem dJx4a65c_get_915e3_8 : decode cJx4a65c_get_915e3 8 = .ok (.pop, 1) := by decide +kernel
theorem dJx4a65c_get_915e3_9 : decode cJx4a65c_get_915e3 9 = .ok (.aload_n 0, 1) := by decide +kernel
theorem dJx4a65c_get_915e3_10 : decode cJx4a65c_get_915e3 10 = .ok (.iload_n 1, 1) := by decide +kernel
theorem dJx4a65c_get_915e3_11 : decode cJx4a65c_get_915e3 11 = .ok (.invokevirtual 123, 3) := by decide +kernel
theorem dJx4a65c_get_915e3_14 : decode cJx4a65c_get_915e3 14 = .ok (.areturn, 1) := by decide +kernel
theorem dJx4a65c_add_72be8_0 : decode cJx4a65c_add_72be8 0 = .ok (.iload_n 3, 1) := by decide +kernel
theorem dJx4a65c_add_72be8_1 : decode cJx4a65c_add_72be8 1 = .ok (.aload_n 2, 1) := by decide +kernel
theorem dJx4a65c_add_72be8_2 : decode cJx4a65c_add_72be8 2 = .ok (.arraylength, 1) := by decide +kernel
theorem dJx4a65c_add_72be8_3 : decode cJx4a65c_add_72be8 3 = .ok (.if_icmp .ne 8, 3) := by decide +kernel
theorem dJx4a65c_add_72be8_6 : decode cJx4a65c_add_72be8 6 = .ok (.aload_n 0, 1) := by decide +kernel
theorem dJx4a65c_add_72be8_7 : decode cJx4a65c_add_72be8 7 = .ok (.invokevirtual 129, 3) := by decide +kernel
theorem dJx4a65c_add_72be8_10 : decode cJx4a65c_add_72be8 10 = .ok (.astore_n 2, 1) := by decide +kernel
theorem dJx4a65c_add_72be8_11 : decode cJx4a65c_add_72be8 11 = .ok (.aload_n 2, 1) := by decide +kernel
theorem dJx4a65c_add_72be8_12 : decode cJx4a65c_add_72be8 12 = .ok (.iload_n 3, 1) := by decide +kernel
theorem dJx4a65c_add_72be8_13 : decode cJx4a65c_add_72be8 13 = .ok (.aload_n 1, 1) := by decide +kernel
theorem dJx4a65c_add_72be8_14 : decode cJx4a65c_add_72be8 14 = .ok (.aastore, 1) := by decide +kernel
theorem dJx4a65c_add_72be8_15 : decode cJx4a65c_add_72be8 15 = .ok (.aload_n 0, 1) := by decide +kernel
theorem dJx4a65c_add_72be8_16 : decode cJx4a65c_add_72be8 16 = .ok (.iload_n 3, 1) := by decide +kernel
theorem dJx4a65c_add_72be8_17 : decode cJx4a65c_add_72be8 17 = .ok (.iconst 1, 1) := by decide +kernel
theorem dJx4a65c_add_72be8_18 : decode cJx4a65c_add_72be8 18 = .ok (.iadd, 1) := by decide +kernel
theorem dJx4a65c_add_72be8_19 : decode cJx4a65c_add_72be8 19 = .ok (.putfield 48, 3) := by decide +kernel
theorem dJx4a65c_add_72be8_22 : decode cJx4a65c_add_72be8 22 = .ok (.return_, 1) := by decide +kernel
theorem dJx4a65c_add_9ea2d_0 : decode cJx4a65c_add_9ea2d 0 = .ok (.aload_n 0, 1) := by decide +kernel
theorem dJx4a65c_add_9ea2d_1 : decode cJx4a65c_add_9ea2d 1 = .ok (.dup, 1) := by decide +kernel
theorem dJx4a65c_add_9ea2d_2 : decode cJx4a65c_add_9ea2d 2 = .ok (.getfield 63, 3) := by decide +kernel
theorem dJx4a65c_add_9ea2d_5 : decode cJx4a65c_add_9ea2d 5 = .ok (.iconst 1, 1) := by decide +kernel
theorem dJx4a65c_add_9ea2d_6 : decode cJx4a65c_add_9ea2d 6 = .ok (.iadd, 1) := by decide +kernel
theorem dJx4a65c_add_9ea2d_7 : decode cJx4a65c_add_9ea2d 7 = .ok (.putfield 63, 3) := by decide +kernel
theorem dJx4a65c_add_9ea2d_10 : decode cJx4a65c_add_9ea2d 10 = .ok (.aload_n 0, 1) := by decide +kernel
theorem dJx4a65c_add_9ea2d_11 : decode cJx4a65c_add_9ea2d 11 = .ok (.aload_n 1, 1) := by decide +kernel
theorem dJx4a65c_add_9ea2d_12 : decode cJx4a65c_add_9ea2d 12 = .ok (.aload_n 0, 1) := by decide +kernel
theorem dJx4a65c_add_9ea2d_13 : decode cJx4a65c_add_9ea2d 13 = .ok (.getfield 9, 3) := by decide +kernel
theorem dJx4a65c_add_9ea2d_16 : decode cJx4a65c_add_9ea2d 16 = .ok (.aload_n 0, 1) := by decide +kernel
theorem dJx4a65c_add_9ea2d_17 : decode cJx4a65c_add_9ea2d 17 = .ok (.getfield 48, 3) := by decide +kernel
theorem dJx4a65c_add_9ea2d_20 : decode cJx4a65c_add_9ea2d 20 = .ok (.invokevirtual 131, 3) := by decide +kernel
theorem dJx4a65c_add_9ea2d_23 : decode cJx4a65c_add_9ea2d 23 = .ok (.iconst 1, 1) := by decide +kernel
theorem dJx4a65c_add_9ea2d_24 : decode cJx4a65c_add_9ea2d 24 = .ok (.ireturn, 1) := by decide +kernel
theorem dJ7_copyOf_1904c_0 : decode cJ7_copyOf_1904c 0 = .ok (.aload_n 0, 1) := by decide +kernel
theorem dJ7_copyOf_1904c_1 : decode cJ7_copyOf_1904c 1 = .ok (.iload_n 1, 1) := by decide +kernel
theorem dJ7_copyOf_1904c_2 : decode cJ7_copyOf_1904c 2 = .ok (.aload_n 0, 1) := by decide +kernel
theorem dJ7_copyOf_1904c_3 : decode cJ7_copyOf_1904c 3 = .ok (.invokevirtual 86, 3) := by decide +kernel
theorem dJ7_copyOf_1904c_6 : decode cJ7_copyOf_1904c 6 = .ok (.invokestatic 300, 3) := by decide +kernel
theorem dJ7_copyOf_1904c_9 : decode cJ7_copyOf_1904c 9 = .ok (.areturn, 1) := by decide +kernel
theorem dJ7_copyOf_6403c_0 : decode cJ7_copyOf_6403c 0 = .ok (.aload_n 2, 1) := by decide +kernel
theorem dJ7_copyOf_6403c_1 : decode cJ7_copyOf_6403c 1 = .ok (.ldc 110, 2) := by decide +kernel
theorem dJ7_copyOf_6403c_3 : decode cJ7_copyOf_6403c 3 = .ok (.if_acmp .ne 10, 3) := by decide +kernel
theorem dJ7_copyOf_6403c_6 : decode cJ7_copyOf_6403c 6 = .ok (.iload_n 1, 1) := by decide +kernel
theorem dJ7_copyOf_6403c_7 : decode cJ7_copyOf_6403c 7 = .ok (.anewarray 2, 3) := by decide +kernel
theorem dJ7_copyOf_6403c_10 : decode cJ7_copyOf_6403c 10 = .ok (.goto 14, 3) := by decide +kernel
theorem dJ7_copyOf_6403c_13 : decode cJ7_copyOf_6403c 13 = .ok (.aload_n 2, 1) := by decide +kernel
theorem dJ7_copyOf_6403c_14 : decode cJ7_copyOf_6403c 14 = .ok (.invokevirtual 90, 3) := by decide +kernel
theorem dJ7_copyOf_6403c_17 : decode cJ7_copyOf_6403c 17 = .ok (.iload_n 1, 1) := by decide +kernel
theorem dJ7_copyOf_6403c_18 : decode cJ7_copyOf_6403c 18 = .ok (.invokestatic 95, 3) := by decide +kernel
theorem dJ7_copyOf_6403c_21 : decode cJ7_copyOf_6403c 21 = .ok (.checkcast 110, 3) := by decide +kernel
theorem dJ7_copyOf_6403c_24 : decode cJ7_copyOf_6403c 24 = .ok (.astore_n 3, 1) := by decide +kernel
theorem dJ7_copyOf_6403c_25 : decode cJ7_copyOf_6403c 25 = .ok (.aload_n 0, 1) := by decide +kernel
theorem dJ7_copyOf_6403c_26 : decode cJ7_copyOf_6403c 26 = .ok (.iconst 0, 1) := by decide +kernel
theorem dJ7_copyOf_6403c_27 : decode cJ7_copyOf_6403c 27 = .ok (.aload_n 3, 1) := by decide +kernel
theorem dJ7_copyOf_6403c_28 : decode cJ7_copyOf_6403c 28 = .ok (.iconst 0, 1) := by decide +kernel
theorem dJ7_copyOf_6403c_29 : decode cJ7_copyOf_6403c 29 = .ok (.aload_n 0, 1) := by decide +kernel
theorem dJ7_copyOf_6403c_30 : decode cJ7_copyOf_6403c 30 = .ok (.arraylength, 1) := by decide +kernel
theorem dJ7_copyOf_6403c_31 : decode cJ7_copyOf_6403c 31 = .ok (.iload_n 1, 1) := by decide +kernel
theorem dJ7_copyOf_6403c_32 : decode cJ7_copyOf_6403c 32 = .ok (.invokestatic 304, 3) := by decide +kernel
theorem dJ7_copyOf_6403c_35 : decode cJ7_copyOf_6403c 35 = .ok (.invokestatic 150, 3) := by decide +kernel
theorem dJ7_copyOf_6403c_38 : decode cJ7_copyOf_6403c 38 = .ok (.aload_n 3, 1) := by decide +kernel
theorem dJ7_copyOf_6403c_39 : decode cJ7_copyOf_6403c 39 = .ok (.areturn, 1) := by decide +kernel
theorem dJ15_checkIndex_7cf53_0 : decode cJ15_checkIndex_7cf53 0 = .ok (.iload_n 0, 1) := by decide +kernel
theorem dJ15_checkIndex_7cf53_1 : decode cJ15_checkIndex_7cf53 1 = .ok (.iload_n 1, 1) := by decide +kernel
theorem dJ15_checkIndex_7cf53_2 : decode cJ15_checkIndex_7cf53 2 = .ok (.aconst_null, 1) := by decide +kernel
theorem dJ15_checkIndex_7cf53_3 : decode cJ15_checkIndex_7cf53 3 = .ok (.invokestatic 105, 3) := by decide +kernel
theorem dJ15_checkIndex_7cf53_6 : decode cJ15_checkIndex_7cf53 6 = .ok (.ireturn, 1) := by decide +kernel
theorem dJ8_newLength_cabcc_0 : decode cJ8_newLength_cabcc 0 = .ok (.iload_n 0, 1) := by decide +kernel
theorem dJ8_newLength_cabcc_1 : decode cJ8_newLength_cabcc 1 = .ok (.iload_n 1, 1) := by decide +kernel
theorem dJ8_newLength_cabcc_2 : decode cJ8_newLength_cabcc 2 = .ok (.iload_n 2, 1) := by decide +kernel
theorem dJ8_newLength_cabcc_3 : decode cJ8_newLength_cabcc 3 = .ok (.invokestatic 194, 3) := by decide +kernel
theorem dJ8_newLength_cabcc_6 : decode cJ8_newLength_cabcc 6 = .ok (.iadd, 1) := by decide +kernel
theorem dJ8_newLength_cabcc_7 : decode cJ8_newLength_cabcc 7 = .ok (.istore_n 3, 1) := by decide +kernel
theorem dJ8_newLength_cabcc_8 : decode cJ8_newLength_cabcc 8 = .ok (.iconst 0, 1) := by decide +kernel
theorem dJ8_newLength_cabcc_9 : decode cJ8_newLength_cabcc 9 = .ok (.iload_n 3, 1) := by decide +kernel
theorem dJ8_newLength_cabcc_10 : decode cJ8_newLength_cabcc 10 = .ok (.if_icmp .ge 11, 3) := by decide +kernel
theorem dJ8_newLength_cabcc_13 : decode cJ8_newLength_cabcc 13 = .ok (.iload_n 3, 1) := by decide +kernel
theorem dJ8_newLength_cabcc_14 : decode cJ8_newLength_cabcc 14 = .ok (.ldc 200, 2) := by decide +kernel
theorem dJ8_newLength_cabcc_16 : decode cJ8_newLength_cabcc 16 = .ok (.if_icmp .gt 5, 3) := by decide +kernel
theorem dJ8_newLength_cabcc_19 : decode cJ8_newLength_cabcc 19 = .ok (.iload_n 3, 1) := by decide +kernel
theorem dJ8_newLength_cabcc_20 : decode cJ8_newLength_cabcc 20 = .ok (.ireturn, 1) := by decide +kernel
theorem dJ8_newLength_cabcc_21 : decode cJ8_newLength_cabcc 21 = .ok (.iload_n 0, 1) := by decide +kernel
theorem dJ8_newLength_cabcc_22 : decode cJ8_newLength_cabcc 22 = .ok (.iload_n 1, 1) := by decide +kernel
theorem dJ8_newLength_cabcc_23 : decode cJ8_newLength_cabcc 23 = .ok (.invokestatic 201, 3) := by decide +kernel
theorem dJ8_newLength_cabcc_26 : decode cJ8_newLength_cabcc 26 = .ok (.ireturn, 1) := by decide +kernel
theorem dJ8_hugeLength_7cf53_0 : decode cJ8_hugeLength_7cf53 0 = .ok (.iload_n 0, 1) := by decide +kernel
theorem dJ8_hugeLength_7cf53_1 : decode cJ8_hugeLength_7cf53 1 = .ok (.iload_n 1, 1) := by decide +kernel
theorem dJ8_hugeLength_7cf53_2 : decode cJ8_hugeLength_7cf53 2 = .ok (.iadd, 1) := by decide +kernel
theorem dJ8_hugeLength_7cf53_3 : decode cJ8_hugeLength_7cf53 3 = .ok (.istore_n 2, 1) := by decide +kernel
theorem dJ8_hugeLength_7cf53_4 : decode cJ8_hugeLength_7cf53 4 = .ok (.iload_n 2, 1) := by decide +kernel
theorem dJ8_hugeLength_7cf53_5 : decode cJ8_hugeLength_7cf53 5 = .ok (.ifCond .ge 44, 3) := by decide +kernel
theorem dJ8_hugeLength_7cf53_8 : decode cJ8_hugeLength_7cf53 8 = .ok (.new 204, 3) := by decide +kernel
theorem dJ8_hugeLength_7cf53_11 : decode cJ8_hugeLength_7cf53 11 = .ok (.dup, 1) := by decide +kernel
theorem dJ8_hugeLength_7cf53_12 : decode cJ8_hugeLength_7cf53 12 = .ok (.new 89, 3) := by decide +kernel
theorem dJ8_hugeLength_7cf53_15 : decode cJ8_hugeLength_7cf53 15 = .ok (.dup, 1) := by decide +kernel
theorem dJ8_hugeLength_7cf53_16 : decode cJ8_hugeLength_7cf53 16 = .ok (.invokespecial 91, 3) := by decide +kernel
theorem dJ8_hugeLength_7cf53_19 : decode cJ8_hugeLength_7cf53 19 = .ok (.ldc 206, 2) := by decide +kernel
theorem dJ8_hugeLength_7cf53_21 : decode cJ8_hugeLength_7cf53 21 = .ok (.invokevirtual 94, 3) := by decide +kernel
theorem dJ8_hugeLength_7cf53_24 : decode cJ8_hugeLength_7cf53 24 = .ok (.iload_n 0, 1) := by decide +kernel
theorem dJ8_hugeLength_7cf53_25 : decode cJ8_hugeLength_7cf53 25 = .ok (.invokevirtual 98, 3) := by decide +kernel
theorem dJ8_hugeLength_7cf53_28 : decode cJ8_hugeLength_7cf53 28 = .ok (.ldc 208, 2) := by decide +kernel
theorem dJ8_hugeLength_7cf53_30 : decode cJ8_hugeLength_7cf53 30 = .ok (.invokevirtual 94, 3) := by decide +kernel
theorem dJ8_hugeLength_7cf53_33 : decode cJ8_hugeLength_7cf53 33 = .ok (.iload_n 1, 1) := by decide +kernel
theorem dJ8_hugeLength_7cf53_34 : decode cJ8_hugeLength_7cf53 34 = .ok (.invokevirtual 98, 3) := by decide +kernel
theorem dJ8_hugeLength_7cf53_37 : decode cJ8_hugeLength_7cf53 37 = .ok (.ldc 210, 2) := by decide +kernel
theorem dJ8_hugeLength_7cf53_39 : decode cJ8_hugeLength_7cf53 39 = .ok (.invokevirtual 94, 3) := by decide +kernel
theorem dJ8_hugeLength_7cf53_42 : decode cJ8_hugeLength_7cf53 42 = .ok (.invokevirtual 101, 3) := by decide +kernel
theorem dJ8_hugeLength_7cf53_45 : decode cJ8_hugeLength_7cf53 45 = .ok (.invokespecial 212, 3) := by decide +kernel
theorem dJ8_hugeLength_7cf53_48 : decode cJ8_hugeLength_7cf53 48 = .ok (.athrow, 1) := by decide +kernel
theorem dJ8_hugeLength_7cf53_49 : decode cJ8_hugeLength_7cf53 49 = .ok (.iload_n 2, 1) := by decide +kernel
theorem dJ8_hugeLength_7cf53_50 : decode cJ8_hugeLength_7cf53 50 = .ok (.ldc 200, 2) := by decide +kernel
theorem dJ8_hugeLength_7cf53_52 : decode cJ8_hugeLength_7cf53 52 = .ok (.if_icmp .gt 6, 3) := by decide +kernel
theorem dJ8_hugeLength_7cf53_55 : decode cJ8_hugeLength_7cf53 55 = .ok (.ldc 200, 2) := by decide +kernel
theorem dJ8_hugeLength_7cf53_57 : decode cJ8_hugeLength_7cf53 57 = .ok (.ireturn, 1) := by decide +kernel
theorem dJ8_hugeLength_7cf53_58 : decode cJ8_hugeLength_7cf53 58 = .ok (.iload_n 2, 1) := by decide +kernel
theorem dJ8_hugeLength_7cf53_59 : decode cJ8_hugeLength_7cf53 59 = .ok (.ireturn, 1) := by decide +kernel
theorem dJ3_checkIndex_8e157_0 : decode cJ3_checkIndex_8e157 0 = .ok (.iload_n 0, 1) := by decide +kernel
theorem dJ3_checkIndex_8e157_1 : decode cJ3_checkIndex_8e157 1 = .ok (.ifCond .lt 8, 3) := by decide +kernel
theorem dJ3_checkIndex_8e157_4 : decode cJ3_checkIndex_8e157 4 = .ok (.iload_n 0, 1) := by decide +kernel
theorem dJ3_checkIndex_8e157_5 : decode cJ3_checkIndex_8e157 5 = .ok (.iload_n 1, 1) := by decide +kernel
theorem dJ3_checkIndex_8e157_6 : decode cJ3_checkIndex_8e157 6 = .ok (.if_icmp .lt 10, 3) := by decide +kernel
theorem dJ3_checkIndex_8e157_9 : decode cJ3_checkIndex_8e157 9 = .ok (.aload_n 2, 1) := by decide +kernel
theorem dJ3_checkIndex_8e157_10 : decode cJ3_checkIndex_8e157 10 = .ok (.iload_n 0, 1) := by decide +kernel
theorem dJ3_checkIndex_8e157_11 : decode cJ3_checkIndex_8e157 11 = .ok (.iload_n 1, 1) := by decide +kernel
theorem dJ3_checkIndex_8e157_12 : decode cJ3_checkIndex_8e157 12 = .ok (.invokestatic 95, 3) := by decide +kernel
theorem dJ3_checkIndex_8e157_15 : decode cJ3_checkIndex_8e157 15 = .ok (.athrow, 1) := by decide +kernel
theorem dJ3_checkIndex_8e157_16 : decode cJ3_checkIndex_8e157 16 = .ok (.iload_n 0, 1) := by decide +kernel
theorem dJ3_checkIndex_8e157_17 : decode cJ3_checkIndex_8e157 17 = .ok (.ireturn, 1) := by decide +kernel
end
section
theorem dL_cell_0 : decode cL_cell 0 = .ok (.iload_n 1, 1) := by decide +kernel
theorem dL_cell_1 : decode cL_cell 1 = .ok (.aload_n 0, 1) := by decide +kernel
theorem dL_cell_2 : decode cL_cell 2 = .ok (.arraylength, 1) := by decide +kernel
theorem dL_cell_3 : decode cL_cell 3 = .ok (.if_icmp .ge 9, 3) := by decide +kernel
theorem dL_cell_6 : decode cL_cell 6 = .ok (.aload_n 0, 1) := by decide +kernel
theorem dL_cell_7 : decode cL_cell 7 = .ok (.iload_n 1, 1) := by decide +kernel
theorem dL_cell_8 : decode cL_cell 8 = .ok (.iaload, 1) := by decide +kernel
theorem dL_cell_9 : decode cL_cell 9 = .ok (.goto 4, 3) := by decide +kernel
theorem dL_cell_12 : decode cL_cell 12 = .ok (.iconst 0, 1) := by decide +kernel
theorem dL_cell_13 : decode cL_cell 13 = .ok (.ireturn, 1) := by decide +kernel
theorem dL_element_0 : decode cL_element 0 = .ok (.aload_n 3, 1) := by decide +kernel
theorem dL_element_1 : decode cL_element 1 = .ok (.iconst 0, 1) := by decide +kernel
theorem dL_element_2 : decode cL_element 2 = .ok (.aload_n 0, 1) := by decide +kernel
theorem dL_element_3 : decode cL_element 3 = .ok (.iload_n 1, 1) := by decide +kernel
theorem dL_element_4 : decode cL_element 4 = .ok (.iload_n 2, 1) := by decide +kernel
theorem dL_element_5 : decode cL_element 5 = .ok (.invokevirtual 7, 3) := by decide +kernel
theorem dL_element_8 : decode cL_element 8 = .ok (.lastore, 1) := by decide +kernel
theorem dL_element_9 : decode cL_element 9 = .ok (.goto 11, 3) := by decide +kernel
theorem dL_element_12 : decode cL_element 12 = .ok (.astore 4, 2) := by decide +kernel
theorem dL_element_14 : decode cL_element 14 = .ok (.iconst 1, 1) := by decide +kernel
theorem dL_element_15 : decode cL_element 15 = .ok (.ireturn, 1) := by decide +kernel
theorem dL_element_16 : decode cL_element 16 = .ok (.astore 4, 2) := by decide +kernel
theorem dL_element_18 : decode cL_element 18 = .ok (.iconst 2, 1) := by decide +kernel
theorem dL_element_19 : decode cL_element 19 = .ok (.ireturn, 1) := by decide +kernel
theorem dL_element_20 : decode cL_element 20 = .ok (.iconst 0, 1) := by decide +kernel
theorem dL_element_21 : decode cL_element 21 = .ok (.ireturn, 1) := by decide +kernel
theorem dL_law_0 : decode cL_law 0 = .ok (.new 8, 3) := by decide +kernel
theorem dL_law_3 : decode cL_law 3 = .ok (.dup, 1) := by decide +kernel
theorem dL_law_4 : decode cL_law 4 = .ok (.aload_n 0, 1) := by decide +kernel
theorem dL_law_5 : decode cL_law 5 = .ok (.iconst 0, 1) := by decide +kernel
theorem dL_law_6 : decode cL_law 6 = .ok (.invokestatic 17, 3) := by decide +kernel
theorem dL_law_9 : decode cL_law 9 = .ok (.invokespecial 23, 3) := by decide +kernel
theorem dL_law_12 : decode cL_law 12 = .ok (.astore_n 1, 1) := by decide +kernel
theorem dL_law_13 : decode cL_law 13 = .ok (.new 26, 3) := by decide +kernel
theorem dL_law_16 : decode cL_law 16 = .ok (.dup, 1) := by decide +kernel
theorem dL_law_17 : decode cL_law 17 = .ok (.aload_n 0, 1) := by decide +kernel
theorem dL_law_18 : decode cL_law 18 = .ok (.iconst 0, 1) := by decide +kernel
theorem dL_law_19 : decode cL_law 19 = .ok (.invokestatic 17, 3) := by decide +kernel
theorem dL_law_22 : decode cL_law 22 = .ok (.invokespecial 28, 3) := by decide +kernel
theorem dL_law_25 : decode cL_law 25 = .ok (.astore_n 2, 1) := by decide +kernel
theorem dL_law_26 : decode cL_law 26 = .ok (.iconst 1, 1) := by decide +kernel
theorem dL_law_27 : decode cL_law 27 = .ok (.newarray .long, 2) := by decide +kernel
theorem dL_law_29 : decode cL_law 29 = .ok (.astore_n 3, 1) := by decide +kernel
theorem dL_law_30 : decode cL_law 30 = .ok (.iconst 1, 1) := by decide +kernel
theorem dL_law_31 : decode cL_law 31 = .ok (.istore 4, 2) := by decide +kernel
theorem dL_law_33 : decode cL_law 33 = .ok (.iload 4, 2) := by decide +kernel
theorem dL_law_35 : decode cL_law 35 = .ok (.aload_n 0, 1) := by decide +kernel
theorem dL_law_36 : decode cL_law 36 = .ok (.arraylength, 1) := by decide +kernel
theorem dL_law_37 : decode cL_law 37 = .ok (.bipush 6, 2) := by decide +kernel
theorem dL_law_39 : decode cL_law 39 = .ok (.isub, 1) := by decide +kernel
theorem dL_law_40 : decode cL_law 40 = .ok (.if_icmp .gt 1406, 3) := by decide +kernel
theorem dL_law_43 : decode cL_law 43 = .ok (.aload_n 0, 1) := by decide +kernel
theorem dL_law_44 : decode cL_law 44 = .ok (.iload 4, 2) := by decide +kernel
theorem dL_law_46 : decode cL_law 46 = .ok (.iaload, 1) := by decide +kernel
theorem dL_law_47 : decode cL_law 47 = .ok (.bipush 63, 2) := by decide +kernel
theorem dL_law_49 : decode cL_law 49 = .ok (.iand, 1) := by decide +kernel
theorem dL_law_50 : decode cL_law 50 = .ok (.tableswitch 1390 0 33 #[150, 163, 212, 237, 274, 299, 336, 361, 410, 459, 508, 533, 570, 619, 668, 681, 706, 731, 756, 793, 830, 879, 940, 989, 1014, 1027, 1052, 1065, 1090, 1151, 1200, 1267, 1340, 1365], 150) := by decide +kernel
theorem dL_law_200 : decode cL_law 200 = .ok (.aload_n 1, 1) := by decide +kernel
theorem dL_law_201 : decode cL_law 201 = .ok (.invokevirtual 29, 3) := by decide +kernel
theorem dL_law_204 : decode cL_law 204 = .ok (.aload_n 2, 1) := by decide +kernel
theorem dL_law_205 : decode cL_law 205 = .ok (.invokevirtual 33, 3) := by decide +kernel
theorem dL_law_208 : decode cL_law 208 = .ok (.if_icmp .eq 1232, 3) := by decide +kernel
theorem dL_law_211 : decode cL_law 211 = .ok (.iconst 0, 1) := by decide +kernel
theorem dL_law_212 : decode cL_law 212 = .ok (.ireturn, 1) := by decide +kernel
theorem dL_law_213 : decode cL_law 213 = .ok (.aload_n 1, 1) := by decide +kernel
theorem dL_law_214 : decode cL_law 214 = .ok (.aload_n 0, 1) := by decide +kernel
theorem dL_law_215 : decode cL_law 215 = .ok (.iload 4, 2) := by decide +kernel
theorem dL_law_217 : decode cL_law 217 = .ok (.iconst 1, 1) := by decide +kernel
theorem dL_law_218 : decode cL_law 218 = .ok (.iadd, 1) := by decide +kernel
theorem dL_law_219 : decode cL_law 219 = .ok (.iaload, 1) := by decide +kernel
theorem dL_law_220 : decode cL_law 220 = .ok (.aload_n 0, 1) := by decide +kernel
theorem dL_law_221 : decode cL_law 221 = .ok (.iload 4, 2) := by decide +kernel
theorem dL_law_223 : decode cL_law 223 = .ok (.iconst 2, 1) := by decide +kernel
theorem dL_law_224 : decode cL_law 224 = .ok (.iadd, 1) := by decide +kernel
theorem dL_law_225 : decode cL_law 225 = .ok (.iaload, 1) := by decide +kernel
theorem dL_law_226 : decode cL_law 226 = .ok (.aload_n 0, 1) := by decide +kernel
theorem dL_law_227 : decode cL_law 227 = .ok (.iload 4, 2) := by decide +kernel
theorem dL_law_229 : decode cL_law 229 = .ok (.iconst 3, 1) := by decide +kernel
theorem dL_law_230 : decode cL_law 230 = .ok (.iadd, 1) := by decide +kernel
theorem dL_law_231 : decode cL_law 231 = .ok (.iaload, 1) := by decide +kernel
theorem dL_law_232 : decode cL_law 232 = .ok (.invokevirtual 34, 3) := by decide +kernel
theorem dL_law_235 : decode cL_law 235 = .ok (.aload_n 2, 1) := by decide +kernel
theorem dL_law_236 : decode cL_law 236 = .ok (.aload_n 0, 1) := by decide +kernel
theorem dL_law_237 : decode cL_law 237 = .ok (.iload 4, 2) := by decide +kernel
theorem dL_law_239 : decode cL_law 239 = .ok (.iconst 1, 1) := by decide +kernel
theorem dL_law_240 : decode cL_law 240 = .ok (.iadd, 1) := by decide +kernel
theorem dL_law_241 : decode cL_law 241 = .ok (.iaload, 1) := by decide +kernel
theorem dL_law_242 : decode cL_law 242 = .ok (.aload_n 0, 1) := by decide +kernel
theorem dL_law_243 : decode cL_law 243 = .ok (.iload 4, 2) := by decide +kernel
theorem dL_law_245 : decode cL_law 245 = .ok (.iconst 2, 1) := by decide +kernel
theorem dL_law_246 : decode cL_law 246 = .ok (.iadd, 1) := by decide +kernel
theorem dL_law_247 : decode cL_law 247 = .ok (.iaload, 1) := by decide +kernel
theorem dL_law_248 : decode cL_law 248 = .ok (.aload_n 0, 1) := by decide +kernel
theorem dL_law_249 : decode cL_law 249 = .ok (.iload 4, 2) := by decide +kernel
theorem dL_law_251 : decode cL_law 251 = .ok (.iconst 3, 1) := by decide +kernel
theorem dL_law_252 : decode cL_law 252 = .ok (.iadd, 1) := by decide +kernel
theorem dL_law_253 : decode cL_law 253 = .ok (.iaload, 1) := by decide +kernel
theorem dL_law_254 : decode cL_law 254 = .ok (.invokevirtual 38, 3) := by decide +kernel
theorem dL_law_257 : decode cL_law 257 = .ok (.if_icmp .eq 1183, 3) := by decide +kernel
theorem dL_law_260 : decode cL_law 260 = .ok (.iconst 0, 1) := by decide +kernel
theorem dL_law_261 : decode cL_law 261 = .ok (.ireturn, 1) := by decide +kernel
theorem dL_law_262 : decode cL_law 262 = .ok (.aload_n 1, 1) := by decide +kernel
theorem dL_law_263 : decode cL_law 263 = .ok (.aload_n 0, 1) := by decide +kernel
theorem dL_law_264 : decode cL_law 264 = .ok (.iload 4, 2) := by decide +kernel
theorem dL_law_266 : decode cL_law 266 = .ok (.iconst 1, 1) := by decide +kernel
theorem dL_law_267 : decode cL_law 267 = .ok (.iadd, 1) := by decide +kernel
theorem dL_law_268 : decode cL_law 268 = .ok (.iaload, 1) := by decide +kernel
theorem dL_law_269 : decode cL_law 269 = .ok (.invokevirtual 39, 3) := by decide +kernel
theorem dL_law_272 : decode cL_law 272 = .ok (.aload_n 2, 1) := by decide +kernel
theorem dL_law_273 : decode cL_law 273 = .ok (.aload_n 0, 1) := by decide +kernel
theorem dL_law_274 : decode cL_law 274 = .ok (.iload 4, 2) := by decide +kernel
theorem dL_law_276 : decode cL_law 276 = .ok (.iconst 1, 1) := by decide +kernel
theorem dL_law_277 : decode cL_law 277 = .ok (.iadd, 1) := by decide +kernel
theorem dL_law_278 : decode cL_law 278 = .ok (.iaload, 1) := by decide +kernel
theorem dL_law_279 : decode cL_law 279 = .ok (.invokevirtual 43, 3) := by decide +kernel
theorem dL_law_282 : decode cL_law 282 = .ok (.if_icmp .eq 1158, 3) := by decide +kernel
theorem dL_law_285 : decode cL_law 285 = .ok (.iconst 0, 1) := by decide +kernel
theorem dL_law_286 : decode cL_law 286 = .ok (.ireturn, 1) := by decide +kernel
theorem dL_law_287 : decode cL_law 287 = .ok (.aload_n 1, 1) := by decide +kernel
theorem dL_law_288 : decode cL_law 288 = .ok (.aload_n 0, 1) := by decide +kernel
theorem dL_law_289 : decode cL_law 289 = .ok (.iload 4, 2) := by decide +kernel
theorem dL_law_291 : decode cL_law 291 = .ok (.iconst 1, 1) := by decide +kernel
theorem dL_law_292 : decode cL_law 292 = .ok (.iadd, 1) := by decide +kernel
theorem dL_law_293 : decode cL_law 293 = .ok (.iaload, 1) := by decide +kernel
theorem dL_law_294 : decode cL_law 294 = .ok (.aload_n 0, 1) := by decide +kernel
theorem dL_law_295 : decode cL_law 295 = .ok (.iload 4, 2) := by decide +kernel
theorem dL_law_297 : decode cL_law 297 = .ok (.iconst 2, 1) := by decide +kernel
theorem dL_law_298 : decode cL_law 298 = .ok (.iadd, 1) := by decide +kernel
theorem dL_law_299 : decode cL_law 299 = .ok (.iaload, 1) := by decide +kernel
theorem dL_law_300 : decode cL_law 300 = .ok (.invokevirtual 44, 3) := by decide +kernel
theorem dL_law_303 : decode cL_law 303 = .ok (.aload_n 2, 1) := by decide +kernel
theorem dL_law_304 : decode cL_law 304 = .ok (.aload_n 0, 1) := by decide +kernel
theorem dL_law_305 : decode cL_law 305 = .ok (.iload 4, 2) := by decide +kernel
theorem dL_law_307 : decode cL_law 307 = .ok (.iconst 1, 1) := by decide +kernel
theorem dL_law_308 : decode cL_law 308 = .ok (.iadd, 1) := by decide +kernel
theorem dL_law_309 : decode cL_law 309 = .ok (.iaload, 1) := by decide +kernel
theorem dL_law_310 : decode cL_law 310 = .ok (.aload_n 0, 1) := by decide +kernel
theorem dL_law_311 : decode cL_law 311 = .ok (.iload 4, 2) := by decide +kernel
theorem dL_law_313 : decode cL_law 313 = .ok (.iconst 2, 1) := by decide +kernel
theorem dL_law_314 : decode cL_law 314 = .ok (.iadd, 1) := by decide +kernel
theorem dL_law_315 : decode cL_law 315 = .ok (.iaload, 1) := by decide +kernel
theorem dL_law_316 : decode cL_law 316 = .ok (.invokevirtual 48, 3) := by decide +kernel
theorem dL_law_319 : decode cL_law 319 = .ok (.if_icmp .eq 1121, 3) := by decide +kernel
theorem dL_law_322 : decode cL_law 322 = .ok (.iconst 0, 1) := by decide +kernel
theorem dL_law_323 : decode cL_law 323 = .ok (.ireturn, 1) := by decide +kernel
theorem dL_law_324 : decode cL_law 324 = .ok (.aload_n 1, 1) := by decide +kernel
theorem dL_law_325 : decode cL_law 325 = .ok (.aload_n 0, 1) := by decide +kernel
theorem dL_law_326 : decode cL_law 326 = .ok (.iload 4, 2) := by decide +kernel
theorem dL_law_328 : decode cL_law 328 = .ok (.iconst 1, 1) := by decide +kernel
theorem dL_law_329 : decode cL_law 329 = .ok (.iadd, 1) := by decide +kernel
theorem dL_law_330 : decode cL_law 330 = .ok (.iaload, 1) := by decide +kernel
theorem dL_law_331 : decode cL_law 331 = .ok (.invokevirtual 49, 3) := by decide +kernel
theorem dL_law_334 : decode cL_law 334 = .ok (.aload_n 2, 1) := by decide +kernel
theorem dL_law_335 : decode cL_law 335 = .ok (.aload_n 0, 1) := by decide +kernel
theorem dL_law_336 : decode cL_law 336 = .ok (.iload 4, 2) := by decide +kernel
theorem dL_law_338 : decode cL_law 338 = .ok (.iconst 1, 1) := by decide +kernel
theorem dL_law_339 : decode cL_law 339 = .ok (.iadd, 1) := by decide +kernel
theorem dL_law_340 : decode cL_law 340 = .ok (.iaload, 1) := by decide +kernel
theorem dL_law_341 : decode cL_law 341 = .ok (.invokevirtual 52, 3) := by decide +kernel
theorem dL_law_344 : decode cL_law 344 = .ok (.if_icmp .eq 1096, 3) := by decide +kernel
theorem dL_law_347 : decode cL_law 347 = .ok (.iconst 0, 1) := by decide +kernel
theorem dL_law_348 : decode cL_law 348 = .ok (.ireturn, 1) := by decide +kernel
theorem dL_law_349 : decode cL_law 349 = .ok (.aload_n 1, 1) := by decide +kernel
theorem dL_law_350 : decode cL_law 350 = .ok (.aload_n 0, 1) := by decide +kernel
theorem dL_law_351 : decode cL_law 351 = .ok (.iload 4, 2) := by decide +kernel
theorem dL_law_353 : decode cL_law 353 = .ok (.iconst 1, 1) := by decide +kernel
theorem dL_law_354 : decode cL_law 354 = .ok (.iadd, 1) := by decide +kernel
theorem dL_law_355 : decode cL_law 355 = .ok (.iaload, 1) := by decide +kernel
theorem dL_law_356 : decode cL_law 356 = .ok (.aload_n 0, 1) := by decide +kernel
theorem dL_law_357 : decode cL_law 357 = .ok (.iload 4, 2) := by decide +kernel
theorem dL_law_359 : decode cL_law 359 = .ok (.iconst 2, 1) := by decide +kernel
theorem dL_law_360 : decode cL_law 360 = .ok (.iadd, 1) := by decide +kernel
theorem dL_law_361 : decode cL_law 361 = .ok (.iaload, 1) := by decide +kernel
theorem dL_law_362 : decode cL_law 362 = .ok (.invokevirtual 53, 3) := by decide +kernel
theorem dL_law_365 : decode cL_law 365 = .ok (.aload_n 2, 1) := by decide +kernel
theorem dL_law_366 : decode cL_law 366 = .ok (.aload_n 0, 1) := by decide +kernel
theorem dL_law_367 : decode cL_law 367 = .ok (.iload 4, 2) := by decide +kernel
theorem dL_law_369 : decode cL_law 369 = .ok (.iconst 1, 1) := by decide +kernel
theorem dL_law_370 : decode cL_law 370 = .ok (.iadd, 1) := by decide +kernel
theorem dL_law_371 : decode cL_law 371 = .ok (.iaload, 1) := by decide +kernel
theorem dL_law_372 : decode cL_law 372 = .ok (.aload_n 0, 1) := by decide +kernel
theorem dL_law_373 : decode cL_law 373 = .ok (.iload 4, 2) := by decide +kernel
theorem dL_law_375 : decode cL_law 375 = .ok (.iconst 2, 1) := by decide +kernel
theorem dL_law_376 : decode cL_law 376 = .ok (.iadd, 1) := by decide +kernel
theorem dL_law_377 : decode cL_law 377 = .ok (.iaload, 1) := by decide +kernel
theorem dL_law_378 : decode cL_law 378 = .ok (.invokevirtual 56, 3) := by decide +kernel
theorem dL_law_381 : decode cL_law 381 = .ok (.if_icmp .eq 1059, 3) := by decide +kernel
theorem dL_law_384 : decode cL_law 384 = .ok (.iconst 0, 1) := by decide +kernel
theorem dL_law_385 : decode cL_law 385 = .ok (.ireturn, 1) := by decide +kernel
theorem dL_law_386 : decode cL_law 386 = .ok (.aload_n 1, 1) := by decide +kernel
theorem dL_law_387 : decode cL_law 387 = .ok (.aload_n 0, 1) := by decide +kernel
theorem dL_law_388 : decode cL_law 388 = .ok (.iload 4, 2) := by decide +kernel
theorem dL_law_390 : decode cL_law 390 = .ok (.iconst 1, 1) := by decide +kernel
theorem dL_law_391 : decode cL_law 391 = .ok (.iadd, 1) := by decide +kernel
theorem dL_law_392 : decode cL_law 392 = .ok (.iaload, 1) := by decide +kernel
theorem dL_law_393 : decode cL_law 393 = .ok (.invokevirtual 57, 3) := by decide +kernel
theorem dL_law_396 : decode cL_law 396 = .ok (.aload_n 2, 1) := by decide +kernel
theorem dL_law_397 : decode cL_law 397 = .ok (.aload_n 0, 1) := by decide +kernel
theorem dL_law_398 : decode cL_law 398 = .ok (.iload 4, 2) := by decide +kernel
theorem dL_law_400 : decode cL_law 400 = .ok (.iconst 1, 1) := by decide +kernel
theorem dL_law_401 : decode cL_law 401 = .ok (.iadd, 1) := by decide +kernel
theorem dL_law_402 : decode cL_law 402 = .ok (.iaload, 1) := by decide +kernel
theorem dL_law_403 : decode cL_law 403 = .ok (.invokevirtual 60, 3) := by decide +kernel
theorem dL_law_406 : decode cL_law 406 = .ok (.if_icmp .eq 1034, 3) := by decide +kernel
theorem dL_law_409 : decode cL_law 409 = .ok (.iconst 0, 1) := by decide +kernel
theorem dL_law_410 : decode cL_law 410 = .ok (.ireturn, 1) := by decide +kernel
theorem dL_law_411 : decode cL_law 411 = .ok (.aload_n 1, 1) := by decide +kernel
theorem dL_law_412 : decode cL_law 412 = .ok (.aload_n 0, 1) := by decide +kernel
theorem dL_law_413 : decode cL_law 413 = .ok (.iload 4, 2) := by decide +kernel
theorem dL_law_415 : decode cL_law 415 = .ok (.iconst 1, 1) := by decide +kernel
theorem dL_law_416 : decode cL_law 416 = .ok (.iadd, 1) := by decide +kernel
theorem dL_law_417 : decode cL_law 417 = .ok (.iaload, 1) := by decide +kernel
theorem dL_law_418 : decode cL_law 418 = .ok (.aload_n 0, 1) := by decide +kernel
theorem dL_law_419 : decode cL_law 419 = .ok (.iload 4, 2) := by decide +kernel
theorem dL_law_421 : decode cL_law 421 = .ok (.iconst 2, 1) := by decide +kernel
theorem dL_law_422 : decode cL_law 422 = .ok (.iadd, 1) := by decide +kernel
theorem dL_law_423 : decode cL_law 423 = .ok (.iaload, 1) := by decide +kernel
theorem dL_law_424 : decode cL_law 424 = .ok (.aload_n 0, 1) := by decide +kernel
theorem dL_law_425 : decode cL_law 425 = .ok (.iload 4, 2) := by decide +kernel
theorem dL_law_427 : decode cL_law 427 = .ok (.iconst 3, 1) := by decide +kernel
theorem dL_law_428 : decode cL_law 428 = .ok (.iadd, 1) := by decide +kernel
theorem dL_law_429 : decode cL_law 429 = .ok (.iaload, 1) := by decide +kernel
theorem dL_law_430 : decode cL_law 430 = .ok (.invokevirtual 61, 3) := by decide +kernel
theorem dL_law_433 : decode cL_law 433 = .ok (.aload_n 2, 1) := by decide +kernel
theorem dL_law_434 : decode cL_law 434 = .ok (.aload_n 0, 1) := by decide +kernel
theorem dL_law_435 : decode cL_law 435 = .ok (.iload 4, 2) := by decide +kernel
theorem dL_law_437 : decode cL_law 437 = .ok (.iconst 1, 1) := by decide +kernel
theorem dL_law_438 : decode cL_law 438 = .ok (.iadd, 1) := by decide +kernel
theorem dL_law_439 : decode cL_law 439 = .ok (.iaload, 1) := by decide +kernel
theorem dL_law_440 : decode cL_law 440 = .ok (.aload_n 0, 1) := by decide +kernel
theorem dL_law_441 : decode cL_law 441 = .ok (.iload 4, 2) := by decide +kernel
theorem dL_law_443 : decode cL_law 443 = .ok (.iconst 2, 1) := by decide +kernel
theorem dL_law_444 : decode cL_law 444 = .ok (.iadd, 1) := by decide +kernel
theorem dL_law_445 : decode cL_law 445 = .ok (.iaload, 1) := by decide +kernel
theorem dL_law_446 : decode cL_law 446 = .ok (.aload_n 0, 1) := by decide +kernel
theorem dL_law_447 : decode cL_law 447 = .ok (.iload 4, 2) := by decide +kernel
theorem dL_law_449 : decode cL_law 449 = .ok (.iconst 3, 1) := by decide +kernel
theorem dL_law_450 : decode cL_law 450 = .ok (.iadd, 1) := by decide +kernel
theorem dL_law_451 : decode cL_law 451 = .ok (.iaload, 1) := by decide +kernel
theorem dL_law_452 : decode cL_law 452 = .ok (.invokevirtual 64, 3) := by decide +kernel
theorem dL_law_455 : decode cL_law 455 = .ok (.if_icmp .eq 985, 3) := by decide +kernel
theorem dL_law_458 : decode cL_law 458 = .ok (.iconst 0, 1) := by decide +kernel
theorem dL_law_459 : decode cL_law 459 = .ok (.ireturn, 1) := by decide +kernel
theorem dL_law_460 : decode cL_law 460 = .ok (.aload_n 1, 1) := by decide +kernel
theorem dL_law_461 : decode cL_law 461 = .ok (.aload_n 0, 1) := by decide +kernel
theorem dL_law_462 : decode cL_law 462 = .ok (.iload 4, 2) := by decide +kernel
theorem dL_law_464 : decode cL_law 464 = .ok (.iconst 1, 1) := by decide +kernel
theorem dL_law_465 : decode cL_law 465 = .ok (.iadd, 1) := by decide +kernel
theorem dL_law_466 : decode cL_law 466 = .ok (.iaload, 1) := by decide +kernel
theorem dL_law_467 : decode cL_law 467 = .ok (.aload_n 0, 1) := by decide +kernel
theorem dL_law_468 : decode cL_law 468 = .ok (.iload 4, 2) := by decide +kernel
theorem dL_law_470 : decode cL_law 470 = .ok (.iconst 2, 1) := by decide +kernel
theorem dL_law_471 : decode cL_law 471 = .ok (.iadd, 1) := by decide +kernel
theorem dL_law_472 : decode cL_law 472 = .ok (.iaload, 1) := by decide +kernel
theorem dL_law_473 : decode cL_law 473 = .ok (.aload_n 0, 1) := by decide +kernel
theorem dL_law_474 : decode cL_law 474 = .ok (.iload 4, 2) := by decide +kernel
theorem dL_law_476 : decode cL_law 476 = .ok (.iconst 3, 1) := by decide +kernel
theorem dL_law_477 : decode cL_law 477 = .ok (.iadd, 1) := by decide +kernel
theorem dL_law_478 : decode cL_law 478 = .ok (.iaload, 1) := by decide +kernel
theorem dL_law_479 : decode cL_law 479 = .ok (.invokevirtual 65, 3) := by decide +kernel
theorem dL_law_482 : decode cL_law 482 = .ok (.aload_n 2, 1) := by decide +kernel
theorem dL_law_483 : decode cL_law 483 = .ok (.aload_n 0, 1) := by decide +kernel
theorem dL_law_484 : decode cL_law 484 = .ok (.iload 4, 2) := by decide +kernel
theorem dL_law_486 : decode cL_law 486 = .ok (.iconst 1, 1) := by decide +kernel
theorem dL_law_487 : decode cL_law 487 = .ok (.iadd, 1) := by decide +kernel
theorem dL_law_488 : decode cL_law 488 = .ok (.iaload, 1) := by decide +kernel
theorem dL_law_489 : decode cL_law 489 = .ok (.aload_n 0, 1) := by decide +kernel
theorem dL_law_490 : decode cL_law 490 = .ok (.iload 4, 2) := by decide +kernel
theorem dL_law_492 : decode cL_law 492 = .ok (.iconst 2, 1) := by decide +kernel
theorem dL_law_493 : decode cL_law 493 = .ok (.iadd, 1) := by decide +kernel
theorem dL_law_494 : decode cL_law 494 = .ok (.iaload, 1) := by decide +kernel
theorem dL_law_495 : decode cL_law 495 = .ok (.aload_n 0, 1) := by decide +kernel
theorem dL_law_496 : decode cL_law 496 = .ok (.iload 4, 2) := by decide +kernel
theorem dL_law_498 : decode cL_law 498 = .ok (.iconst 3, 1) := by decide +kernel
theorem dL_law_499 : decode cL_law 499 = .ok (.iadd, 1) := by decide +kernel
theorem dL_law_500 : decode cL_law 500 = .ok (.iaload, 1) := by decide +kernel
theorem dL_law_501 : decode cL_law 501 = .ok (.invokevirtual 68, 3) := by decide +kernel
theorem dL_law_504 : decode cL_law 504 = .ok (.if_icmp .eq 936, 3) := by decide +kernel
theorem dL_law_507 : decode cL_law 507 = .ok (.iconst 0, 1) := by decide +kernel
theorem dL_law_508 : decode cL_law 508 = .ok (.ireturn, 1) := by decide +kernel
theorem dL_law_509 : decode cL_law 509 = .ok (.aload_n 1, 1) := by decide +kernel
theorem dL_law_510 : decode cL_law 510 = .ok (.aload_n 0, 1) := by decide +kernel
theorem dL_law_511 : decode cL_law 511 = .ok (.iload 4, 2) := by decide +kernel
theorem dL_law_513 : decode cL_law 513 = .ok (.iconst 1, 1) := by decide +kernel
theorem dL_law_514 : decode cL_law 514 = .ok (.iadd, 1) := by decide +kernel
theorem dL_law_515 : decode cL_law 515 = .ok (.iaload, 1) := by decide +kernel
theorem dL_law_516 : decode cL_law 516 = .ok (.aload_n 0, 1) := by decide +kernel
theorem dL_law_517 : decode cL_law 517 = .ok (.iload 4, 2) := by decide +kernel
theorem dL_law_519 : decode cL_law 519 = .ok (.iconst 2, 1) := by decide +kernel
theorem dL_law_520 : decode cL_law 520 = .ok (.iadd, 1) := by decide +kernel
theorem dL_law_521 : decode cL_law 521 = .ok (.iaload, 1) := by decide +kernel
theorem dL_law_522 : decode cL_law 522 = .ok (.aload_n 0, 1) := by decide +kernel
theorem dL_law_523 : decode cL_law 523 = .ok (.iload 4, 2) := by decide +kernel
theorem dL_law_525 : decode cL_law 525 = .ok (.iconst 3, 1) := by decide +kernel
theorem dL_law_526 : decode cL_law 526 = .ok (.iadd, 1) := by decide +kernel
theorem dL_law_527 : decode cL_law 527 = .ok (.iaload, 1) := by decide +kernel
theorem dL_law_528 : decode cL_law 528 = .ok (.invokevirtual 69, 3) := by decide +kernel
theorem dL_law_531 : decode cL_law 531 = .ok (.aload_n 2, 1) := by decide +kernel
theorem dL_law_532 : decode cL_law 532 = .ok (.aload_n 0, 1) := by decide +kernel
theorem dL_law_533 : decode cL_law 533 = .ok (.iload 4, 2) := by decide +kernel
theorem dL_law_535 : decode cL_law 535 = .ok (.iconst 1, 1) := by decide +kernel
theorem dL_law_536 : decode cL_law 536 = .ok (.iadd, 1) := by decide +kernel
theorem dL_law_537 : decode cL_law 537 = .ok (.iaload, 1) := by decide +kernel
theorem dL_law_538 : decode cL_law 538 = .ok (.aload_n 0, 1) := by decide +kernel
theorem dL_law_539 : decode cL_law 539 = .ok (.iload 4, 2) := by decide +kernel
theorem dL_law_541 : decode cL_law 541 = .ok (.iconst 2, 1) := by decide +kernel
theorem dL_law_542 : decode cL_law 542 = .ok (.iadd, 1) := by decide +kernel
theorem dL_law_543 : decode cL_law 543 = .ok (.iaload, 1) := by decide +kernel
theorem dL_law_544 : decode cL_law 544 = .ok (.aload_n 0, 1) := by decide +kernel
theorem dL_law_545 : decode cL_law 545 = .ok (.iload 4, 2) := by decide +kernel
theorem dL_law_547 : decode cL_law 547 = .ok (.iconst 3, 1) := by decide +kernel
theorem dL_law_548 : decode cL_law 548 = .ok (.iadd, 1) := by decide +kernel
theorem dL_law_549 : decode cL_law 549 = .ok (.iaload, 1) := by decide +kernel
theorem dL_law_550 : decode cL_law 550 = .ok (.invokevirtual 72, 3) := by decide +kernel
theorem dL_law_553 : decode cL_law 553 = .ok (.if_icmp .eq 887, 3) := by decide +kernel
theorem dL_law_556 : decode cL_law 556 = .ok (.iconst 0, 1) := by decide +kernel
theorem dL_law_557 : decode cL_law 557 = .ok (.ireturn, 1) := by decide +kernel
theorem dL_law_558 : decode cL_law 558 = .ok (.aload_n 1, 1) := by decide +kernel
theorem dL_law_559 : decode cL_law 559 = .ok (.aload_n 0, 1) := by decide +kernel
theorem dL_law_560 : decode cL_law 560 = .ok (.iload 4, 2) := by decide +kernel
theorem dL_law_562 : decode cL_law 562 = .ok (.iconst 1, 1) := by decide +kernel
theorem dL_law_563 : decode cL_law 563 = .ok (.iadd, 1) := by decide +kernel
theorem dL_law_564 : decode cL_law 564 = .ok (.iaload, 1) := by decide +kernel
theorem dL_law_565 : decode cL_law 565 = .ok (.invokevirtual 73, 3) := by decide +kernel
theorem dL_law_568 : decode cL_law 568 = .ok (.aload_n 2, 1) := by decide +kernel
theorem dL_law_569 : decode cL_law 569 = .ok (.aload_n 0, 1) := by decide +kernel
theorem dL_law_570 : decode cL_law 570 = .ok (.iload 4, 2) := by decide +kernel
theorem dL_law_572 : decode cL_law 572 = .ok (.iconst 1, 1) := by decide +kernel
theorem dL_law_573 : decode cL_law 573 = .ok (.iadd, 1) := by decide +kernel
theorem dL_law_574 : decode cL_law 574 = .ok (.iaload, 1) := by decide +kernel
theorem dL_law_575 : decode cL_law 575 = .ok (.invokevirtual 76, 3) := by decide +kernel
theorem dL_law_578 : decode cL_law 578 = .ok (.if_icmp .eq 862, 3) := by decide +kernel
theorem dL_law_581 : decode cL_law 581 = .ok (.iconst 0, 1) := by decide +kernel
theorem dL_law_582 : decode cL_law 582 = .ok (.ireturn, 1) := by decide +kernel
theorem dL_law_583 : decode cL_law 583 = .ok (.aload_n 1, 1) := by decide +kernel
theorem dL_law_584 : decode cL_law 584 = .ok (.aload_n 0, 1) := by decide +kernel
theorem dL_law_585 : decode cL_law 585 = .ok (.iload 4, 2) := by decide +kernel
theorem dL_law_587 : decode cL_law 587 = .ok (.iconst 1, 1) := by decide +kernel
theorem dL_law_588 : decode cL_law 588 = .ok (.iadd, 1) := by decide +kernel
theorem dL_law_589 : decode cL_law 589 = .ok (.iaload, 1) := by decide +kernel
theorem dL_law_590 : decode cL_law 590 = .ok (.aload_n 0, 1) := by decide +kernel
theorem dL_law_591 : decode cL_law 591 = .ok (.iload 4, 2) := by decide +kernel
theorem dL_law_593 : decode cL_law 593 = .ok (.iconst 2, 1) := by decide +kernel
theorem dL_law_594 : decode cL_law 594 = .ok (.iadd, 1) := by decide +kernel
theorem dL_law_595 : decode cL_law 595 = .ok (.iaload, 1) := by decide +kernel
theorem dL_law_596 : decode cL_law 596 = .ok (.invokevirtual 77, 3) := by decide +kernel
theorem dL_law_599 : decode cL_law 599 = .ok (.aload_n 2, 1) := by decide +kernel
theorem dL_law_600 : decode cL_law 600 = .ok (.aload_n 0, 1) := by decide +kernel
theorem dL_law_601 : decode cL_law 601 = .ok (.iload 4, 2) := by decide +kernel
theorem dL_law_603 : decode cL_law 603 = .ok (.iconst 1, 1) := by decide +kernel
theorem dL_law_604 : decode cL_law 604 = .ok (.iadd, 1) := by decide +kernel
theorem dL_law_605 : decode cL_law 605 = .ok (.iaload, 1) := by decide +kernel
theorem dL_law_606 : decode cL_law 606 = .ok (.aload_n 0, 1) := by decide +kernel
theorem dL_law_607 : decode cL_law 607 = .ok (.iload 4, 2) := by decide +kernel
theorem dL_law_609 : decode cL_law 609 = .ok (.iconst 2, 1) := by decide +kernel
theorem dL_law_610 : decode cL_law 610 = .ok (.iadd, 1) := by decide +kernel
theorem dL_law_611 : decode cL_law 611 = .ok (.iaload, 1) := by decide +kernel
theorem dL_law_612 : decode cL_law 612 = .ok (.invokevirtual 80, 3) := by decide +kernel
theorem dL_law_615 : decode cL_law 615 = .ok (.if_icmp .eq 825, 3) := by decide +kernel
theorem dL_law_618 : decode cL_law 618 = .ok (.iconst 0, 1) := by decide +kernel
theorem dL_law_619 : decode cL_law 619 = .ok (.ireturn, 1) := by decide +kernel
theorem dL_law_620 : decode cL_law 620 = .ok (.aload_n 1, 1) := by decide +kernel
theorem dL_law_621 : decode cL_law 621 = .ok (.aload_n 0, 1) := by decide +kernel
theorem dL_law_622 : decode cL_law 622 = .ok (.iload 4, 2) := by decide +kernel
theorem dL_law_624 : decode cL_law 624 = .ok (.iconst 1, 1) := by decide +kernel
theorem dL_law_625 : decode cL_law 625 = .ok (.iadd, 1) := by decide +kernel
theorem dL_law_626 : decode cL_law 626 = .ok (.iaload, 1) := by decide +kernel
theorem dL_law_627 : decode cL_law 627 = .ok (.aload_n 0, 1) := by decide +kernel
theorem dL_law_628 : decode cL_law 628 = .ok (.iload 4, 2) := by decide +kernel
theorem dL_law_630 : decode cL_law 630 = .ok (.iconst 2, 1) := by decide +kernel
theorem dL_law_631 : decode cL_law 631 = .ok (.iadd, 1) := by decide +kernel
theorem dL_law_632 : decode cL_law 632 = .ok (.iaload, 1) := by decide +kernel
theorem dL_law_633 : decode cL_law 633 = .ok (.aload_n 0, 1) := by decide +kernel
theorem dL_law_634 : decode cL_law 634 = .ok (.iload 4, 2) := by decide +kernel
theorem dL_law_636 : decode cL_law 636 = .ok (.iconst 3, 1) := by decide +kernel
theorem dL_law_637 : decode cL_law 637 = .ok (.iadd, 1) := by decide +kernel
theorem dL_law_638 : decode cL_law 638 = .ok (.iaload, 1) := by decide +kernel
theorem dL_law_639 : decode cL_law 639 = .ok (.invokevirtual 81, 3) := by decide +kernel
theorem dL_law_642 : decode cL_law 642 = .ok (.aload_n 2, 1) := by decide +kernel
theorem dL_law_643 : decode cL_law 643 = .ok (.aload_n 0, 1) := by decide +kernel
theorem dL_law_644 : decode cL_law 644 = .ok (.iload 4, 2) := by decide +kernel
theorem dL_law_646 : decode cL_law 646 = .ok (.iconst 1, 1) := by decide +kernel
theorem dL_law_647 : decode cL_law 647 = .ok (.iadd, 1) := by decide +kernel
theorem dL_law_648 : decode cL_law 648 = .ok (.iaload, 1) := by decide +kernel
theorem dL_law_649 : decode cL_law 649 = .ok (.aload_n 0, 1) := by decide +kernel
theorem dL_law_650 : decode cL_law 650 = .ok (.iload 4, 2) := by decide +kernel
theorem dL_law_652 : decode cL_law 652 = .ok (.iconst 2, 1) := by decide +kernel
theorem dL_law_653 : decode cL_law 653 = .ok (.iadd, 1) := by decide +kernel
theorem dL_law_654 : decode cL_law 654 = .ok (.iaload, 1) := by decide +kernel
theorem dL_law_655 : decode cL_law 655 = .ok (.aload_n 0, 1) := by decide +kernel
theorem dL_law_656 : decode cL_law 656 = .ok (.iload 4, 2) := by decide +kernel
theorem dL_law_658 : decode cL_law 658 = .ok (.iconst 3, 1) := by decide +kernel
theorem dL_law_659 : decode cL_law 659 = .ok (.iadd, 1) := by decide +kernel
theorem dL_law_660 : decode cL_law 660 = .ok (.iaload, 1) := by decide +kernel
theorem dL_law_661 : decode cL_law 661 = .ok (.invokevirtual 84, 3) := by decide +kernel
theorem dL_law_664 : decode cL_law 664 = .ok (.if_icmp .eq 776, 3) := by decide +kernel
theorem dL_law_667 : decode cL_law 667 = .ok (.iconst 0, 1) := by decide +kernel
theorem dL_law_668 : decode cL_law 668 = .ok (.ireturn, 1) := by decide +kernel
theorem dL_law_669 : decode cL_law 669 = .ok (.aload_n 1, 1) := by decide +kernel
theorem dL_law_670 : decode cL_law 670 = .ok (.aload_n 0, 1) := by decide +kernel
theorem dL_law_671 : decode cL_law 671 = .ok (.iload 4, 2) := by decide +kernel
theorem dL_law_673 : decode cL_law 673 = .ok (.iconst 1, 1) := by decide +kernel
theorem dL_law_674 : decode cL_law 674 = .ok (.iadd, 1) := by decide +kernel
theorem dL_law_675 : decode cL_law 675 = .ok (.iaload, 1) := by decide +kernel
theorem dL_law_676 : decode cL_law 676 = .ok (.aload_n 0, 1) := by decide +kernel
theorem dL_law_677 : decode cL_law 677 = .ok (.iload 4, 2) := by decide +kernel
theorem dL_law_679 : decode cL_law 679 = .ok (.iconst 2, 1) := by decide +kernel
theorem dL_law_680 : decode cL_law 680 = .ok (.iadd, 1) := by decide +kernel
theorem dL_law_681 : decode cL_law 681 = .ok (.iaload, 1) := by decide +kernel
theorem dL_law_682 : decode cL_law 682 = .ok (.aload_n 0, 1) := by decide +kernel
theorem dL_law_683 : decode cL_law 683 = .ok (.iload 4, 2) := by decide +kernel
theorem dL_law_685 : decode cL_law 685 = .ok (.iconst 3, 1) := by decide +kernel
theorem dL_law_686 : decode cL_law 686 = .ok (.iadd, 1) := by decide +kernel
theorem dL_law_687 : decode cL_law 687 = .ok (.iaload, 1) := by decide +kernel
theorem dL_law_688 : decode cL_law 688 = .ok (.invokevirtual 85, 3) := by decide +kernel
theorem dL_law_691 : decode cL_law 691 = .ok (.aload_n 2, 1) := by decide +kernel
theorem dL_law_692 : decode cL_law 692 = .ok (.aload_n 0, 1) := by decide +kernel
theorem dL_law_693 : decode cL_law 693 = .ok (.iload 4, 2) := by decide +kernel
theorem dL_law_695 : decode cL_law 695 = .ok (.iconst 1, 1) := by decide +kernel
theorem dL_law_696 : decode cL_law 696 = .ok (.iadd, 1) := by decide +kernel
theorem dL_law_697 : decode cL_law 697 = .ok (.iaload, 1) := by decide +kernel
theorem dL_law_698 : decode cL_law 698 = .ok (.aload_n 0, 1) := by decide +kernel
theorem dL_law_699 : decode cL_law 699 = .ok (.iload 4, 2) := by decide +kernel
theorem dL_law_701 : decode cL_law 701 = .ok (.iconst 2, 1) := by decide +kernel
theorem dL_law_702 : decode cL_law 702 = .ok (.iadd, 1) := by decide +kernel
theorem dL_law_703 : decode cL_law 703 = .ok (.iaload, 1) := by decide +kernel
theorem dL_law_704 : decode cL_law 704 = .ok (.aload_n 0, 1) := by decide +kernel
theorem dL_law_705 : decode cL_law 705 = .ok (.iload 4, 2) := by decide +kernel
theorem dL_law_707 : decode cL_law 707 = .ok (.iconst 3, 1) := by decide +kernel
theorem dL_law_708 : decode cL_law 708 = .ok (.iadd, 1) := by decide +kernel
theorem dL_law_709 : decode cL_law 709 = .ok (.iaload, 1) := by decide +kernel
theorem dL_law_710 : decode cL_law 710 = .ok (.invokevirtual 88, 3) := by decide +kernel
theorem dL_law_713 : decode cL_law 713 = .ok (.if_icmp .eq 727, 3) := by decide +kernel
theorem dL_law_716 : decode cL_law 716 = .ok (.iconst 0, 1) := by decide +kernel
theorem dL_law_717 : decode cL_law 717 = .ok (.ireturn, 1) := by decide +kernel
theorem dL_law_718 : decode cL_law 718 = .ok (.aload_n 1, 1) := by decide +kernel
theorem dL_law_719 : decode cL_law 719 = .ok (.invokevirtual 89, 3) := by decide +kernel
theorem dL_law_722 : decode cL_law 722 = .ok (.aload_n 2, 1) := by decide +kernel
theorem dL_law_723 : decode cL_law 723 = .ok (.invokevirtual 92, 3) := by decide +kernel
theorem dL_law_726 : decode cL_law 726 = .ok (.if_icmp .eq 714, 3) := by decide +kernel
theorem dL_law_729 : decode cL_law 729 = .ok (.iconst 0, 1) := by decide +kernel
theorem dL_law_730 : decode cL_law 730 = .ok (.ireturn, 1) := by decide +kernel
theorem dL_law_731 : decode cL_law 731 = .ok (.aload_n 1, 1) := by decide +kernel
theorem dL_law_732 : decode cL_law 732 = .ok (.aload_n 0, 1) := by decide +kernel
theorem dL_law_733 : decode cL_law 733 = .ok (.iload 4, 2) := by decide +kernel
theorem dL_law_735 : decode cL_law 735 = .ok (.iconst 1, 1) := by decide +kernel
theorem dL_law_736 : decode cL_law 736 = .ok (.iadd, 1) := by decide +kernel
theorem dL_law_737 : decode cL_law 737 = .ok (.iaload, 1) := by decide +kernel
theorem dL_law_738 : decode cL_law 738 = .ok (.invokevirtual 93, 3) := by decide +kernel
theorem dL_law_741 : decode cL_law 741 = .ok (.aload_n 2, 1) := by decide +kernel
theorem dL_law_742 : decode cL_law 742 = .ok (.aload_n 0, 1) := by decide +kernel
theorem dL_law_743 : decode cL_law 743 = .ok (.iload 4, 2) := by decide +kernel
theorem dL_law_745 : decode cL_law 745 = .ok (.iconst 1, 1) := by decide +kernel
theorem dL_law_746 : decode cL_law 746 = .ok (.iadd, 1) := by decide +kernel
theorem dL_law_747 : decode cL_law 747 = .ok (.iaload, 1) := by decide +kernel
theorem dL_law_748 : decode cL_law 748 = .ok (.invokevirtual 96, 3) := by decide +kernel
theorem dL_law_751 : decode cL_law 751 = .ok (.if_icmp .eq 689, 3) := by decide +kernel
theorem dL_law_754 : decode cL_law 754 = .ok (.iconst 0, 1) := by decide +kernel
theorem dL_law_755 : decode cL_law 755 = .ok (.ireturn, 1) := by decide +kernel
theorem dL_law_756 : decode cL_law 756 = .ok (.aload_n 1, 1) := by decide +kernel
theorem dL_law_757 : decode cL_law 757 = .ok (.aload_n 0, 1) := by decide +kernel
theorem dL_law_758 : decode cL_law 758 = .ok (.iload 4, 2) := by decide +kernel
theorem dL_law_760 : decode cL_law 760 = .ok (.iconst 1, 1) := by decide +kernel
theorem dL_law_761 : decode cL_law 761 = .ok (.iadd, 1) := by decide +kernel
theorem dL_law_762 : decode cL_law 762 = .ok (.iaload, 1) := by decide +kernel
theorem dL_law_763 : decode cL_law 763 = .ok (.invokevirtual 97, 3) := by decide +kernel
theorem dL_law_766 : decode cL_law 766 = .ok (.aload_n 2, 1) := by decide +kernel
theorem dL_law_767 : decode cL_law 767 = .ok (.aload_n 0, 1) := by decide +kernel
theorem dL_law_768 : decode cL_law 768 = .ok (.iload 4, 2) := by decide +kernel
theorem dL_law_770 : decode cL_law 770 = .ok (.iconst 1, 1) := by decide +kernel
theorem dL_law_771 : decode cL_law 771 = .ok (.iadd, 1) := by decide +kernel
theorem dL_law_772 : decode cL_law 772 = .ok (.iaload, 1) := by decide +kernel
theorem dL_law_773 : decode cL_law 773 = .ok (.invokevirtual 100, 3) := by decide +kernel
theorem dL_law_776 : decode cL_law 776 = .ok (.if_icmp .eq 664, 3) := by decide +kernel
theorem dL_law_779 : decode cL_law 779 = .ok (.iconst 0, 1) := by decide +kernel
theorem dL_law_780 : decode cL_law 780 = .ok (.ireturn, 1) := by decide +kernel
theorem dL_law_781 : decode cL_law 781 = .ok (.aload_n 1, 1) := by decide +kernel
theorem dL_law_782 : decode cL_law 782 = .ok (.aload_n 0, 1) := by decide +kernel
theorem dL_law_783 : decode cL_law 783 = .ok (.iload 4, 2) := by decide +kernel
theorem dL_law_785 : decode cL_law 785 = .ok (.iconst 1, 1) := by decide +kernel
theorem dL_law_786 : decode cL_law 786 = .ok (.iadd, 1) := by decide +kernel
theorem dL_law_787 : decode cL_law 787 = .ok (.iaload, 1) := by decide +kernel
theorem dL_law_788 : decode cL_law 788 = .ok (.invokevirtual 101, 3) := by decide +kernel
theorem dL_law_791 : decode cL_law 791 = .ok (.aload_n 2, 1) := by decide +kernel
theorem dL_law_792 : decode cL_law 792 = .ok (.aload_n 0, 1) := by decide +kernel
theorem dL_law_793 : decode cL_law 793 = .ok (.iload 4, 2) := by decide +kernel
theorem dL_law_795 : decode cL_law 795 = .ok (.iconst 1, 1) := by decide +kernel
theorem dL_law_796 : decode cL_law 796 = .ok (.iadd, 1) := by decide +kernel
theorem dL_law_797 : decode cL_law 797 = .ok (.iaload, 1) := by decide +kernel
theorem dL_law_798 : decode cL_law 798 = .ok (.invokevirtual 104, 3) := by decide +kernel
theorem dL_law_801 : decode cL_law 801 = .ok (.if_icmp .eq 639, 3) := by decide +kernel
theorem dL_law_804 : decode cL_law 804 = .ok (.iconst 0, 1) := by decide +kernel
theorem dL_law_805 : decode cL_law 805 = .ok (.ireturn, 1) := by decide +kernel
theorem dL_law_806 : decode cL_law 806 = .ok (.aload_n 1, 1) := by decide +kernel
theorem dL_law_807 : decode cL_law 807 = .ok (.aload_n 0, 1) := by decide +kernel
theorem dL_law_808 : decode cL_law 808 = .ok (.iload 4, 2) := by decide +kernel
theorem dL_law_810 : decode cL_law 810 = .ok (.iconst 1, 1) := by decide +kernel
theorem dL_law_811 : decode cL_law 811 = .ok (.iadd, 1) := by decide +kernel
theorem dL_law_812 : decode cL_law 812 = .ok (.iaload, 1) := by decide +kernel
theorem dL_law_813 : decode cL_law 813 = .ok (.aload_n 0, 1) := by decide +kernel
theorem dL_law_814 : decode cL_law 814 = .ok (.iload 4, 2) := by decide +kernel
theorem dL_law_816 : decode cL_law 816 = .ok (.iconst 2, 1) := by decide +kernel
theorem dL_law_817 : decode cL_law 817 = .ok (.iadd, 1) := by decide +kernel
theorem dL_law_818 : decode cL_law 818 = .ok (.iaload, 1) := by decide +kernel
theorem dL_law_819 : decode cL_law 819 = .ok (.invokevirtual 105, 3) := by decide +kernel
theorem dL_law_822 : decode cL_law 822 = .ok (.aload_n 2, 1) := by decide +kernel
theorem dL_law_823 : decode cL_law 823 = .ok (.aload_n 0, 1) := by decide +kernel
theorem dL_law_824 : decode cL_law 824 = .ok (.iload 4, 2) := by decide +kernel
theorem dL_law_826 : decode cL_law 826 = .ok (.iconst 1, 1) := by decide +kernel
theorem dL_law_827 : decode cL_law 827 = .ok (.iadd, 1) := by decide +kernel
theorem dL_law_828 : decode cL_law 828 = .ok (.iaload, 1) := by decide +kernel
theorem dL_law_829 : decode cL_law 829 = .ok (.aload_n 0, 1) := by decide +kernel
theorem dL_law_830 : decode cL_law 830 = .ok (.iload 4, 2) := by decide +kernel
theorem dL_law_832 : decode cL_law 832 = .ok (.iconst 2, 1) := by decide +kernel
theorem dL_law_833 : decode cL_law 833 = .ok (.iadd, 1) := by decide +kernel
theorem dL_law_834 : decode cL_law 834 = .ok (.iaload, 1) := by decide +kernel
theorem dL_law_835 : decode cL_law 835 = .ok (.invokevirtual 108, 3) := by decide +kernel
theorem dL_law_838 : decode cL_law 838 = .ok (.if_icmp .eq 602, 3) := by decide +kernel
theorem dL_law_841 : decode cL_law 841 = .ok (.iconst 0, 1) := by decide +kernel
theorem dL_law_842 : decode cL_law 842 = .ok (.ireturn, 1) := by decide +kernel
theorem dL_law_843 : decode cL_law 843 = .ok (.aload_n 1, 1) := by decide +kernel
theorem dL_law_844 : decode cL_law 844 = .ok (.aload_n 0, 1) := by decide +kernel
theorem dL_law_845 : decode cL_law 845 = .ok (.iload 4, 2) := by decide +kernel
theorem dL_law_847 : decode cL_law 847 = .ok (.iconst 1, 1) := by decide +kernel
theorem dL_law_848 : decode cL_law 848 = .ok (.iadd, 1) := by decide +kernel
theorem dL_law_849 : decode cL_law 849 = .ok (.iaload, 1) := by decide +kernel
theorem dL_law_850 : decode cL_law 850 = .ok (.aload_n 0, 1) := by decide +kernel
theorem dL_law_851 : decode cL_law 851 = .ok (.iload 4, 2) := by decide +kernel
theorem dL_law_853 : decode cL_law 853 = .ok (.iconst 2, 1) := by decide +kernel
theorem dL_law_854 : decode cL_law 854 = .ok (.iadd, 1) := by decide +kernel
theorem dL_law_855 : decode cL_law 855 = .ok (.iaload, 1) := by decide +kernel
theorem dL_law_856 : decode cL_law 856 = .ok (.invokevirtual 109, 3) := by decide +kernel
theorem dL_law_859 : decode cL_law 859 = .ok (.aload_n 2, 1) := by decide +kernel
theorem dL_law_860 : decode cL_law 860 = .ok (.aload_n 0, 1) := by decide +kernel
theorem dL_law_861 : decode cL_law 861 = .ok (.iload 4, 2) := by decide +kernel
theorem dL_law_863 : decode cL_law 863 = .ok (.iconst 1, 1) := by decide +kernel
theorem dL_law_864 : decode cL_law 864 = .ok (.iadd, 1) := by decide +kernel
theorem dL_law_865 : decode cL_law 865 = .ok (.iaload, 1) := by decide +kernel
theorem dL_law_866 : decode cL_law 866 = .ok (.aload_n 0, 1) := by decide +kernel
theorem dL_law_867 : decode cL_law 867 = .ok (.iload 4, 2) := by decide +kernel
theorem dL_law_869 : decode cL_law 869 = .ok (.iconst 2, 1) := by decide +kernel
theorem dL_law_870 : decode cL_law 870 = .ok (.iadd, 1) := by decide +kernel
theorem dL_law_871 : decode cL_law 871 = .ok (.iaload, 1) := by decide +kernel
theorem dL_law_872 : decode cL_law 872 = .ok (.invokevirtual 112, 3) := by decide +kernel
theorem dL_law_875 : decode cL_law 875 = .ok (.if_icmp .eq 565, 3) := by decide +kernel
theorem dL_law_878 : decode cL_law 878 = .ok (.iconst 0, 1) := by decide +kernel
theorem dL_law_879 : decode cL_law 879 = .ok (.ireturn, 1) := by decide +kernel
theorem dL_law_880 : decode cL_law 880 = .ok (.aload_n 1, 1) := by decide +kernel
theorem dL_law_881 : decode cL_law 881 = .ok (.aload_n 0, 1) := by decide +kernel
theorem dL_law_882 : decode cL_law 882 = .ok (.iload 4, 2) := by decide +kernel
theorem dL_law_884 : decode cL_law 884 = .ok (.iconst 1, 1) := by decide +kernel
theorem dL_law_885 : decode cL_law 885 = .ok (.iadd, 1) := by decide +kernel
theorem dL_law_886 : decode cL_law 886 = .ok (.iaload, 1) := by decide +kernel
theorem dL_law_887 : decode cL_law 887 = .ok (.aload_n 0, 1) := by decide +kernel
theorem dL_law_888 : decode cL_law 888 = .ok (.iload 4, 2) := by decide +kernel
theorem dL_law_890 : decode cL_law 890 = .ok (.iconst 2, 1) := by decide +kernel
theorem dL_law_891 : decode cL_law 891 = .ok (.iadd, 1) := by decide +kernel
theorem dL_law_892 : decode cL_law 892 = .ok (.iaload, 1) := by decide +kernel
theorem dL_law_893 : decode cL_law 893 = .ok (.aload_n 0, 1) := by decide +kernel
theorem dL_law_894 : decode cL_law 894 = .ok (.iload 4, 2) := by decide +kernel
theorem dL_law_896 : decode cL_law 896 = .ok (.iconst 3, 1) := by decide +kernel
theorem dL_law_897 : decode cL_law 897 = .ok (.iadd, 1) := by decide +kernel
theorem dL_law_898 : decode cL_law 898 = .ok (.iaload, 1) := by decide +kernel
theorem dL_law_899 : decode cL_law 899 = .ok (.invokevirtual 113, 3) := by decide +kernel
theorem dL_law_902 : decode cL_law 902 = .ok (.aload_n 2, 1) := by decide +kernel
theorem dL_law_903 : decode cL_law 903 = .ok (.aload_n 0, 1) := by decide +kernel
theorem dL_law_904 : decode cL_law 904 = .ok (.iload 4, 2) := by decide +kernel
theorem dL_law_906 : decode cL_law 906 = .ok (.iconst 1, 1) := by decide +kernel
theorem dL_law_907 : decode cL_law 907 = .ok (.iadd, 1) := by decide +kernel
theorem dL_law_908 : decode cL_law 908 = .ok (.iaload, 1) := by decide +kernel
theorem dL_law_909 : decode cL_law 909 = .ok (.aload_n 0, 1) := by decide +kernel
theorem dL_law_910 : decode cL_law 910 = .ok (.iload 4, 2) := by decide +kernel
theorem dL_law_912 : decode cL_law 912 = .ok (.iconst 2, 1) := by decide +kernel
theorem dL_law_913 : decode cL_law 913 = .ok (.iadd, 1) := by decide +kernel
theorem dL_law_914 : decode cL_law 914 = .ok (.iaload, 1) := by decide +kernel
theorem dL_law_915 : decode cL_law 915 = .ok (.aload_n 0, 1) := by decide +kernel
theorem dL_law_916 : decode cL_law 916 = .ok (.iload 4, 2) := by decide +kernel
theorem dL_law_918 : decode cL_law 918 = .ok (.iconst 3, 1) := by decide +kernel
theorem dL_law_919 : decode cL_law 919 = .ok (.iadd, 1) := by decide +kernel
theorem dL_law_920 : decode cL_law 920 = .ok (.iaload, 1) := by decide +kernel
theorem dL_law_921 : decode cL_law 921 = .ok (.invokevirtual 116, 3) := by decide +kernel
theorem dL_law_924 : decode cL_law 924 = .ok (.if_icmp .eq 516, 3) := by decide +kernel
theorem dL_law_927 : decode cL_law 927 = .ok (.iconst 0, 1) := by decide +kernel
theorem dL_law_928 : decode cL_law 928 = .ok (.ireturn, 1) := by decide +kernel
theorem dL_law_929 : decode cL_law 929 = .ok (.aload_n 1, 1) := by decide +kernel
theorem dL_law_930 : decode cL_law 930 = .ok (.aload_n 0, 1) := by decide +kernel
theorem dL_law_931 : decode cL_law 931 = .ok (.iload 4, 2) := by decide +kernel
theorem dL_law_933 : decode cL_law 933 = .ok (.iconst 1, 1) := by decide +kernel
theorem dL_law_934 : decode cL_law 934 = .ok (.iadd, 1) := by decide +kernel
theorem dL_law_935 : decode cL_law 935 = .ok (.iaload, 1) := by decide +kernel
theorem dL_law_936 : decode cL_law 936 = .ok (.aload_n 0, 1) := by decide +kernel
theorem dL_law_937 : decode cL_law 937 = .ok (.iload 4, 2) := by decide +kernel
theorem dL_law_939 : decode cL_law 939 = .ok (.iconst 2, 1) := by decide +kernel
theorem dL_law_940 : decode cL_law 940 = .ok (.iadd, 1) := by decide +kernel
theorem dL_law_941 : decode cL_law 941 = .ok (.iaload, 1) := by decide +kernel
theorem dL_law_942 : decode cL_law 942 = .ok (.aload_n 0, 1) := by decide +kernel
theorem dL_law_943 : decode cL_law 943 = .ok (.iload 4, 2) := by decide +kernel
theorem dL_law_945 : decode cL_law 945 = .ok (.iconst 3, 1) := by decide +kernel
theorem dL_law_946 : decode cL_law 946 = .ok (.iadd, 1) := by decide +kernel
theorem dL_law_947 : decode cL_law 947 = .ok (.iaload, 1) := by decide +kernel
end
section
theorem dL_law_948 : decode cL_law 948 = .ok (.aload_n 0, 1) := by decide +kernel
theorem dL_law_949 : decode cL_law 949 = .ok (.iload 4, 2) := by decide +kernel
theorem dL_law_951 : decode cL_law 951 = .ok (.iconst 4, 1) := by decide +kernel
theorem dL_law_952 : decode cL_law 952 = .ok (.iadd, 1) := by decide +kernel
theorem dL_law_953 : decode cL_law 953 = .ok (.iaload, 1) := by decide +kernel
theorem dL_law_954 : decode cL_law 954 = .ok (.invokevirtual 117, 3) := by decide +kernel
theorem dL_law_957 : decode cL_law 957 = .ok (.aload_n 2, 1) := by decide +kernel
theorem dL_law_958 : decode cL_law 958 = .ok (.aload_n 0, 1) := by decide +kernel
theorem dL_law_959 : decode cL_law 959 = .ok (.iload 4, 2) := by decide +kernel
theorem dL_law_961 : decode cL_law 961 = .ok (.iconst 1, 1) := by decide +kernel
theorem dL_law_962 : decode cL_law 962 = .ok (.iadd, 1) := by decide +kernel
theorem dL_law_963 : decode cL_law 963 = .ok (.iaload, 1) := by decide +kernel
theorem dL_law_964 : decode cL_law 964 = .ok (.aload_n 0, 1) := by decide +kernel
theorem dL_law_965 : decode cL_law 965 = .ok (.iload 4, 2) := by decide +kernel
theorem dL_law_967 : decode cL_law 967 = .ok (.iconst 2, 1) := by decide +kernel
theorem dL_law_968 : decode cL_law 968 = .ok (.iadd, 1) := by decide +kernel
theorem dL_law_969 : decode cL_law 969 = .ok (.iaload, 1) := by decide +kernel
theorem dL_law_970 : decode cL_law 970 = .ok (.aload_n 0, 1) := by decide +kernel
theorem dL_law_971 : decode cL_law 971 = .ok (.iload 4, 2) := by decide +kernel
theorem dL_law_973 : decode cL_law 973 = .ok (.iconst 3, 1) := by decide +kernel
theorem dL_law_974 : decode cL_law 974 = .ok (.iadd, 1) := by decide +kernel
theorem dL_law_975 : decode cL_law 975 = .ok (.iaload, 1) := by decide +kernel
theorem dL_law_976 : decode cL_law 976 = .ok (.aload_n 0, 1) := by decide +kernel
theorem dL_law_977 : decode cL_law 977 = .ok (.iload 4, 2) := by decide +kernel
theorem dL_law_979 : decode cL_law 979 = .ok (.iconst 4, 1) := by decide +kernel
theorem dL_law_980 : decode cL_law 980 = .ok (.iadd, 1) := by decide +kernel
theorem dL_law_981 : decode cL_law 981 = .ok (.iaload, 1) := by decide +kernel
theorem dL_law_982 : decode cL_law 982 = .ok (.invokevirtual 121, 3) := by decide +kernel
theorem dL_law_985 : decode cL_law 985 = .ok (.if_icmp .eq 455, 3) := by decide +kernel
theorem dL_law_988 : decode cL_law 988 = .ok (.iconst 0, 1) := by decide +kernel
theorem dL_law_989 : decode cL_law 989 = .ok (.ireturn, 1) := by decide +kernel
theorem dL_law_990 : decode cL_law 990 = .ok (.aload_n 1, 1) := by decide +kernel
theorem dL_law_991 : decode cL_law 991 = .ok (.aload_n 0, 1) := by decide +kernel
theorem dL_law_992 : decode cL_law 992 = .ok (.iload 4, 2) := by decide +kernel
theorem dL_law_994 : decode cL_law 994 = .ok (.iconst 1, 1) := by decide +kernel
theorem dL_law_995 : decode cL_law 995 = .ok (.iadd, 1) := by decide +kernel
theorem dL_law_996 : decode cL_law 996 = .ok (.iaload, 1) := by decide +kernel
theorem dL_law_997 : decode cL_law 997 = .ok (.aload_n 0, 1) := by decide +kernel
theorem dL_law_998 : decode cL_law 998 = .ok (.iload 4, 2) := by decide +kernel
theorem dL_law_1000 : decode cL_law 1000 = .ok (.iconst 2, 1) := by decide +kernel
theorem dL_law_1001 : decode cL_law 1001 = .ok (.iadd, 1) := by decide +kernel
theorem dL_law_1002 : decode cL_law 1002 = .ok (.iaload, 1) := by decide +kernel
theorem dL_law_1003 : decode cL_law 1003 = .ok (.aload_n 0, 1) := by decide +kernel
theorem dL_law_1004 : decode cL_law 1004 = .ok (.iload 4, 2) := by decide +kernel
theorem dL_law_1006 : decode cL_law 1006 = .ok (.iconst 3, 1) := by decide +kernel
theorem dL_law_1007 : decode cL_law 1007 = .ok (.iadd, 1) := by decide +kernel
theorem dL_law_1008 : decode cL_law 1008 = .ok (.iaload, 1) := by decide +kernel
theorem dL_law_1009 : decode cL_law 1009 = .ok (.invokevirtual 122, 3) := by decide +kernel
theorem dL_law_1012 : decode cL_law 1012 = .ok (.aload_n 2, 1) := by decide +kernel
theorem dL_law_1013 : decode cL_law 1013 = .ok (.aload_n 0, 1) := by decide +kernel
theorem dL_law_1014 : decode cL_law 1014 = .ok (.iload 4, 2) := by decide +kernel
theorem dL_law_1016 : decode cL_law 1016 = .ok (.iconst 1, 1) := by decide +kernel
theorem dL_law_1017 : decode cL_law 1017 = .ok (.iadd, 1) := by decide +kernel
theorem dL_law_1018 : decode cL_law 1018 = .ok (.iaload, 1) := by decide +kernel
theorem dL_law_1019 : decode cL_law 1019 = .ok (.aload_n 0, 1) := by decide +kernel
theorem dL_law_1020 : decode cL_law 1020 = .ok (.iload 4, 2) := by decide +kernel
theorem dL_law_1022 : decode cL_law 1022 = .ok (.iconst 2, 1) := by decide +kernel
theorem dL_law_1023 : decode cL_law 1023 = .ok (.iadd, 1) := by decide +kernel
theorem dL_law_1024 : decode cL_law 1024 = .ok (.iaload, 1) := by decide +kernel
theorem dL_law_1025 : decode cL_law 1025 = .ok (.aload_n 0, 1) := by decide +kernel
theorem dL_law_1026 : decode cL_law 1026 = .ok (.iload 4, 2) := by decide +kernel
theorem dL_law_1028 : decode cL_law 1028 = .ok (.iconst 3, 1) := by decide +kernel
theorem dL_law_1029 : decode cL_law 1029 = .ok (.iadd, 1) := by decide +kernel
theorem dL_law_1030 : decode cL_law 1030 = .ok (.iaload, 1) := by decide +kernel
theorem dL_law_1031 : decode cL_law 1031 = .ok (.invokevirtual 125, 3) := by decide +kernel
theorem dL_law_1034 : decode cL_law 1034 = .ok (.if_icmp .eq 406, 3) := by decide +kernel
theorem dL_law_1037 : decode cL_law 1037 = .ok (.iconst 0, 1) := by decide +kernel
theorem dL_law_1038 : decode cL_law 1038 = .ok (.ireturn, 1) := by decide +kernel
theorem dL_law_1039 : decode cL_law 1039 = .ok (.aload_n 1, 1) := by decide +kernel
theorem dL_law_1040 : decode cL_law 1040 = .ok (.aload_n 0, 1) := by decide +kernel
theorem dL_law_1041 : decode cL_law 1041 = .ok (.iload 4, 2) := by decide +kernel
theorem dL_law_1043 : decode cL_law 1043 = .ok (.iconst 1, 1) := by decide +kernel
theorem dL_law_1044 : decode cL_law 1044 = .ok (.iadd, 1) := by decide +kernel
theorem dL_law_1045 : decode cL_law 1045 = .ok (.iaload, 1) := by decide +kernel
theorem dL_law_1046 : decode cL_law 1046 = .ok (.invokevirtual 126, 3) := by decide +kernel
theorem dL_law_1049 : decode cL_law 1049 = .ok (.aload_n 2, 1) := by decide +kernel
theorem dL_law_1050 : decode cL_law 1050 = .ok (.aload_n 0, 1) := by decide +kernel
theorem dL_law_1051 : decode cL_law 1051 = .ok (.iload 4, 2) := by decide +kernel
theorem dL_law_1053 : decode cL_law 1053 = .ok (.iconst 1, 1) := by decide +kernel
theorem dL_law_1054 : decode cL_law 1054 = .ok (.iadd, 1) := by decide +kernel
theorem dL_law_1055 : decode cL_law 1055 = .ok (.iaload, 1) := by decide +kernel
theorem dL_law_1056 : decode cL_law 1056 = .ok (.invokevirtual 129, 3) := by decide +kernel
theorem dL_law_1059 : decode cL_law 1059 = .ok (.if_icmp .eq 381, 3) := by decide +kernel
theorem dL_law_1062 : decode cL_law 1062 = .ok (.iconst 0, 1) := by decide +kernel
theorem dL_law_1063 : decode cL_law 1063 = .ok (.ireturn, 1) := by decide +kernel
theorem dL_law_1064 : decode cL_law 1064 = .ok (.aload_n 1, 1) := by decide +kernel
theorem dL_law_1065 : decode cL_law 1065 = .ok (.invokevirtual 130, 3) := by decide +kernel
theorem dL_law_1068 : decode cL_law 1068 = .ok (.aload_n 2, 1) := by decide +kernel
theorem dL_law_1069 : decode cL_law 1069 = .ok (.invokevirtual 133, 3) := by decide +kernel
theorem dL_law_1072 : decode cL_law 1072 = .ok (.if_icmp .eq 368, 3) := by decide +kernel
theorem dL_law_1075 : decode cL_law 1075 = .ok (.iconst 0, 1) := by decide +kernel
theorem dL_law_1076 : decode cL_law 1076 = .ok (.ireturn, 1) := by decide +kernel
theorem dL_law_1077 : decode cL_law 1077 = .ok (.aload_n 1, 1) := by decide +kernel
theorem dL_law_1078 : decode cL_law 1078 = .ok (.aload_n 0, 1) := by decide +kernel
theorem dL_law_1079 : decode cL_law 1079 = .ok (.iload 4, 2) := by decide +kernel
theorem dL_law_1081 : decode cL_law 1081 = .ok (.iconst 1, 1) := by decide +kernel
theorem dL_law_1082 : decode cL_law 1082 = .ok (.iadd, 1) := by decide +kernel
theorem dL_law_1083 : decode cL_law 1083 = .ok (.iaload, 1) := by decide +kernel
theorem dL_law_1084 : decode cL_law 1084 = .ok (.invokevirtual 134, 3) := by decide +kernel
theorem dL_law_1087 : decode cL_law 1087 = .ok (.aload_n 2, 1) := by decide +kernel
theorem dL_law_1088 : decode cL_law 1088 = .ok (.aload_n 0, 1) := by decide +kernel
theorem dL_law_1089 : decode cL_law 1089 = .ok (.iload 4, 2) := by decide +kernel
theorem dL_law_1091 : decode cL_law 1091 = .ok (.iconst 1, 1) := by decide +kernel
theorem dL_law_1092 : decode cL_law 1092 = .ok (.iadd, 1) := by decide +kernel
theorem dL_law_1093 : decode cL_law 1093 = .ok (.iaload, 1) := by decide +kernel
theorem dL_law_1094 : decode cL_law 1094 = .ok (.invokevirtual 137, 3) := by decide +kernel
theorem dL_law_1097 : decode cL_law 1097 = .ok (.if_icmp .eq 343, 3) := by decide +kernel
theorem dL_law_1100 : decode cL_law 1100 = .ok (.iconst 0, 1) := by decide +kernel
theorem dL_law_1101 : decode cL_law 1101 = .ok (.ireturn, 1) := by decide +kernel
theorem dL_law_1102 : decode cL_law 1102 = .ok (.aload_n 1, 1) := by decide +kernel
theorem dL_law_1103 : decode cL_law 1103 = .ok (.invokevirtual 138, 3) := by decide +kernel
theorem dL_law_1106 : decode cL_law 1106 = .ok (.aload_n 2, 1) := by decide +kernel
theorem dL_law_1107 : decode cL_law 1107 = .ok (.invokevirtual 141, 3) := by decide +kernel
theorem dL_law_1110 : decode cL_law 1110 = .ok (.if_icmp .eq 330, 3) := by decide +kernel
theorem dL_law_1113 : decode cL_law 1113 = .ok (.iconst 0, 1) := by decide +kernel
theorem dL_law_1114 : decode cL_law 1114 = .ok (.ireturn, 1) := by decide +kernel
theorem dL_law_1115 : decode cL_law 1115 = .ok (.aload_n 1, 1) := by decide +kernel
theorem dL_law_1116 : decode cL_law 1116 = .ok (.aload_n 0, 1) := by decide +kernel
theorem dL_law_1117 : decode cL_law 1117 = .ok (.iload 4, 2) := by decide +kernel
theorem dL_law_1119 : decode cL_law 1119 = .ok (.iconst 1, 1) := by decide +kernel
theorem dL_law_1120 : decode cL_law 1120 = .ok (.iadd, 1) := by decide +kernel
theorem dL_law_1121 : decode cL_law 1121 = .ok (.iaload, 1) := by decide +kernel
theorem dL_law_1122 : decode cL_law 1122 = .ok (.invokevirtual 142, 3) := by decide +kernel
theorem dL_law_1125 : decode cL_law 1125 = .ok (.aload_n 2, 1) := by decide +kernel
theorem dL_law_1126 : decode cL_law 1126 = .ok (.aload_n 0, 1) := by decide +kernel
theorem dL_law_1127 : decode cL_law 1127 = .ok (.iload 4, 2) := by decide +kernel
theorem dL_law_1129 : decode cL_law 1129 = .ok (.iconst 1, 1) := by decide +kernel
theorem dL_law_1130 : decode cL_law 1130 = .ok (.iadd, 1) := by decide +kernel
theorem dL_law_1131 : decode cL_law 1131 = .ok (.iaload, 1) := by decide +kernel
theorem dL_law_1132 : decode cL_law 1132 = .ok (.invokevirtual 145, 3) := by decide +kernel
theorem dL_law_1135 : decode cL_law 1135 = .ok (.if_icmp .eq 305, 3) := by decide +kernel
theorem dL_law_1138 : decode cL_law 1138 = .ok (.iconst 0, 1) := by decide +kernel
theorem dL_law_1139 : decode cL_law 1139 = .ok (.ireturn, 1) := by decide +kernel
theorem dL_law_1140 : decode cL_law 1140 = .ok (.aload_n 1, 1) := by decide +kernel
theorem dL_law_1141 : decode cL_law 1141 = .ok (.aload_n 0, 1) := by decide +kernel
theorem dL_law_1142 : decode cL_law 1142 = .ok (.iload 4, 2) := by decide +kernel
theorem dL_law_1144 : decode cL_law 1144 = .ok (.iconst 1, 1) := by decide +kernel
theorem dL_law_1145 : decode cL_law 1145 = .ok (.iadd, 1) := by decide +kernel
theorem dL_law_1146 : decode cL_law 1146 = .ok (.iaload, 1) := by decide +kernel
theorem dL_law_1147 : decode cL_law 1147 = .ok (.aload_n 0, 1) := by decide +kernel
theorem dL_law_1148 : decode cL_law 1148 = .ok (.iload 4, 2) := by decide +kernel
theorem dL_law_1150 : decode cL_law 1150 = .ok (.iconst 2, 1) := by decide +kernel
theorem dL_law_1151 : decode cL_law 1151 = .ok (.iadd, 1) := by decide +kernel
theorem dL_law_1152 : decode cL_law 1152 = .ok (.iaload, 1) := by decide +kernel
theorem dL_law_1153 : decode cL_law 1153 = .ok (.aload_n 0, 1) := by decide +kernel
theorem dL_law_1154 : decode cL_law 1154 = .ok (.iload 4, 2) := by decide +kernel
theorem dL_law_1156 : decode cL_law 1156 = .ok (.iconst 3, 1) := by decide +kernel
theorem dL_law_1157 : decode cL_law 1157 = .ok (.iadd, 1) := by decide +kernel
theorem dL_law_1158 : decode cL_law 1158 = .ok (.iaload, 1) := by decide +kernel
theorem dL_law_1159 : decode cL_law 1159 = .ok (.aload_n 0, 1) := by decide +kernel
theorem dL_law_1160 : decode cL_law 1160 = .ok (.iload 4, 2) := by decide +kernel
theorem dL_law_1162 : decode cL_law 1162 = .ok (.iconst 4, 1) := by decide +kernel
theorem dL_law_1163 : decode cL_law 1163 = .ok (.iadd, 1) := by decide +kernel
theorem dL_law_1164 : decode cL_law 1164 = .ok (.iaload, 1) := by decide +kernel
theorem dL_law_1165 : decode cL_law 1165 = .ok (.invokevirtual 146, 3) := by decide +kernel
theorem dL_law_1168 : decode cL_law 1168 = .ok (.aload_n 2, 1) := by decide +kernel
theorem dL_law_1169 : decode cL_law 1169 = .ok (.aload_n 0, 1) := by decide +kernel
theorem dL_law_1170 : decode cL_law 1170 = .ok (.iload 4, 2) := by decide +kernel
theorem dL_law_1172 : decode cL_law 1172 = .ok (.iconst 1, 1) := by decide +kernel
theorem dL_law_1173 : decode cL_law 1173 = .ok (.iadd, 1) := by decide +kernel
theorem dL_law_1174 : decode cL_law 1174 = .ok (.iaload, 1) := by decide +kernel
theorem dL_law_1175 : decode cL_law 1175 = .ok (.aload_n 0, 1) := by decide +kernel
theorem dL_law_1176 : decode cL_law 1176 = .ok (.iload 4, 2) := by decide +kernel
theorem dL_law_1178 : decode cL_law 1178 = .ok (.iconst 2, 1) := by decide +kernel
theorem dL_law_1179 : decode cL_law 1179 = .ok (.iadd, 1) := by decide +kernel
theorem dL_law_1180 : decode cL_law 1180 = .ok (.iaload, 1) := by decide +kernel
theorem dL_law_1181 : decode cL_law 1181 = .ok (.aload_n 0, 1) := by decide +kernel
theorem dL_law_1182 : decode cL_law 1182 = .ok (.iload 4, 2) := by decide +kernel
theorem dL_law_1184 : decode cL_law 1184 = .ok (.iconst 3, 1) := by decide +kernel
theorem dL_law_1185 : decode cL_law 1185 = .ok (.iadd, 1) := by decide +kernel
theorem dL_law_1186 : decode cL_law 1186 = .ok (.iaload, 1) := by decide +kernel
theorem dL_law_1187 : decode cL_law 1187 = .ok (.aload_n 0, 1) := by decide +kernel
theorem dL_law_1188 : decode cL_law 1188 = .ok (.iload 4, 2) := by decide +kernel
theorem dL_law_1190 : decode cL_law 1190 = .ok (.iconst 4, 1) := by decide +kernel
theorem dL_law_1191 : decode cL_law 1191 = .ok (.iadd, 1) := by decide +kernel
theorem dL_law_1192 : decode cL_law 1192 = .ok (.iaload, 1) := by decide +kernel
theorem dL_law_1193 : decode cL_law 1193 = .ok (.invokevirtual 149, 3) := by decide +kernel
theorem dL_law_1196 : decode cL_law 1196 = .ok (.if_icmp .eq 244, 3) := by decide +kernel
theorem dL_law_1199 : decode cL_law 1199 = .ok (.iconst 0, 1) := by decide +kernel
theorem dL_law_1200 : decode cL_law 1200 = .ok (.ireturn, 1) := by decide +kernel
theorem dL_law_1201 : decode cL_law 1201 = .ok (.aload_n 1, 1) := by decide +kernel
theorem dL_law_1202 : decode cL_law 1202 = .ok (.aload_n 0, 1) := by decide +kernel
theorem dL_law_1203 : decode cL_law 1203 = .ok (.iload 4, 2) := by decide +kernel
theorem dL_law_1205 : decode cL_law 1205 = .ok (.iconst 1, 1) := by decide +kernel
theorem dL_law_1206 : decode cL_law 1206 = .ok (.iadd, 1) := by decide +kernel
theorem dL_law_1207 : decode cL_law 1207 = .ok (.iaload, 1) := by decide +kernel
theorem dL_law_1208 : decode cL_law 1208 = .ok (.aload_n 0, 1) := by decide +kernel
theorem dL_law_1209 : decode cL_law 1209 = .ok (.iload 4, 2) := by decide +kernel
theorem dL_law_1211 : decode cL_law 1211 = .ok (.iconst 2, 1) := by decide +kernel
theorem dL_law_1212 : decode cL_law 1212 = .ok (.iadd, 1) := by decide +kernel
theorem dL_law_1213 : decode cL_law 1213 = .ok (.iaload, 1) := by decide +kernel
theorem dL_law_1214 : decode cL_law 1214 = .ok (.aload_n 0, 1) := by decide +kernel
theorem dL_law_1215 : decode cL_law 1215 = .ok (.iload 4, 2) := by decide +kernel
theorem dL_law_1217 : decode cL_law 1217 = .ok (.iconst 3, 1) := by decide +kernel
theorem dL_law_1218 : decode cL_law 1218 = .ok (.iadd, 1) := by decide +kernel
theorem dL_law_1219 : decode cL_law 1219 = .ok (.iaload, 1) := by decide +kernel
theorem dL_law_1220 : decode cL_law 1220 = .ok (.invokevirtual 150, 3) := by decide +kernel
theorem dL_law_1223 : decode cL_law 1223 = .ok (.aload_n 2, 1) := by decide +kernel
theorem dL_law_1224 : decode cL_law 1224 = .ok (.aload_n 0, 1) := by decide +kernel
theorem dL_law_1225 : decode cL_law 1225 = .ok (.iload 4, 2) := by decide +kernel
theorem dL_law_1227 : decode cL_law 1227 = .ok (.iconst 1, 1) := by decide +kernel
theorem dL_law_1228 : decode cL_law 1228 = .ok (.iadd, 1) := by decide +kernel
theorem dL_law_1229 : decode cL_law 1229 = .ok (.iaload, 1) := by decide +kernel
theorem dL_law_1230 : decode cL_law 1230 = .ok (.aload_n 0, 1) := by decide +kernel
theorem dL_law_1231 : decode cL_law 1231 = .ok (.iload 4, 2) := by decide +kernel
theorem dL_law_1233 : decode cL_law 1233 = .ok (.iconst 2, 1) := by decide +kernel
theorem dL_law_1234 : decode cL_law 1234 = .ok (.iadd, 1) := by decide +kernel
theorem dL_law_1235 : decode cL_law 1235 = .ok (.iaload, 1) := by decide +kernel
theorem dL_law_1236 : decode cL_law 1236 = .ok (.aload_n 0, 1) := by decide +kernel
theorem dL_law_1237 : decode cL_law 1237 = .ok (.iload 4, 2) := by decide +kernel
theorem dL_law_1239 : decode cL_law 1239 = .ok (.iconst 3, 1) := by decide +kernel
theorem dL_law_1240 : decode cL_law 1240 = .ok (.iadd, 1) := by decide +kernel
theorem dL_law_1241 : decode cL_law 1241 = .ok (.iaload, 1) := by decide +kernel
theorem dL_law_1242 : decode cL_law 1242 = .ok (.invokevirtual 153, 3) := by decide +kernel
theorem dL_law_1245 : decode cL_law 1245 = .ok (.if_icmp .eq 195, 3) := by decide +kernel
theorem dL_law_1248 : decode cL_law 1248 = .ok (.iconst 0, 1) := by decide +kernel
theorem dL_law_1249 : decode cL_law 1249 = .ok (.ireturn, 1) := by decide +kernel
theorem dL_law_1250 : decode cL_law 1250 = .ok (.aload_n 1, 1) := by decide +kernel
theorem dL_law_1251 : decode cL_law 1251 = .ok (.aload_n 0, 1) := by decide +kernel
theorem dL_law_1252 : decode cL_law 1252 = .ok (.iload 4, 2) := by decide +kernel
theorem dL_law_1254 : decode cL_law 1254 = .ok (.iconst 1, 1) := by decide +kernel
theorem dL_law_1255 : decode cL_law 1255 = .ok (.iadd, 1) := by decide +kernel
theorem dL_law_1256 : decode cL_law 1256 = .ok (.iaload, 1) := by decide +kernel
theorem dL_law_1257 : decode cL_law 1257 = .ok (.aload_n 0, 1) := by decide +kernel
theorem dL_law_1258 : decode cL_law 1258 = .ok (.iload 4, 2) := by decide +kernel
theorem dL_law_1260 : decode cL_law 1260 = .ok (.iconst 2, 1) := by decide +kernel
theorem dL_law_1261 : decode cL_law 1261 = .ok (.iadd, 1) := by decide +kernel
theorem dL_law_1262 : decode cL_law 1262 = .ok (.iaload, 1) := by decide +kernel
theorem dL_law_1263 : decode cL_law 1263 = .ok (.aload_n 3, 1) := by decide +kernel
theorem dL_law_1264 : decode cL_law 1264 = .ok (.invokestatic 154, 3) := by decide +kernel
theorem dL_law_1267 : decode cL_law 1267 = .ok (.istore 5, 2) := by decide +kernel
theorem dL_law_1269 : decode cL_law 1269 = .ok (.aload_n 2, 1) := by decide +kernel
theorem dL_law_1270 : decode cL_law 1270 = .ok (.aload_n 0, 1) := by decide +kernel
theorem dL_law_1271 : decode cL_law 1271 = .ok (.iload 4, 2) := by decide +kernel
theorem dL_law_1273 : decode cL_law 1273 = .ok (.iconst 1, 1) := by decide +kernel
theorem dL_law_1274 : decode cL_law 1274 = .ok (.iadd, 1) := by decide +kernel
theorem dL_law_1275 : decode cL_law 1275 = .ok (.iaload, 1) := by decide +kernel
theorem dL_law_1276 : decode cL_law 1276 = .ok (.aload_n 0, 1) := by decide +kernel
theorem dL_law_1277 : decode cL_law 1277 = .ok (.iload 4, 2) := by decide +kernel
theorem dL_law_1279 : decode cL_law 1279 = .ok (.iconst 2, 1) := by decide +kernel
theorem dL_law_1280 : decode cL_law 1280 = .ok (.iadd, 1) := by decide +kernel
theorem dL_law_1281 : decode cL_law 1281 = .ok (.iaload, 1) := by decide +kernel
theorem dL_law_1282 : decode cL_law 1282 = .ok (.invokevirtual 157, 3) := by decide +kernel
theorem dL_law_1285 : decode cL_law 1285 = .ok (.lstore 6, 2) := by decide +kernel
theorem dL_law_1287 : decode cL_law 1287 = .ok (.aload_n 2, 1) := by decide +kernel
theorem dL_law_1288 : decode cL_law 1288 = .ok (.invokevirtual 158, 3) := by decide +kernel
theorem dL_law_1291 : decode cL_law 1291 = .ok (.iload 5, 2) := by decide +kernel
theorem dL_law_1293 : decode cL_law 1293 = .ok (.if_icmp .eq 5, 3) := by decide +kernel
theorem dL_law_1296 : decode cL_law 1296 = .ok (.iconst 0, 1) := by decide +kernel
theorem dL_law_1297 : decode cL_law 1297 = .ok (.ireturn, 1) := by decide +kernel
theorem dL_law_1298 : decode cL_law 1298 = .ok (.iload 5, 2) := by decide +kernel
theorem dL_law_1300 : decode cL_law 1300 = .ok (.ifCond .ne 14, 3) := by decide +kernel
theorem dL_law_1303 : decode cL_law 1303 = .ok (.aload_n 3, 1) := by decide +kernel
theorem dL_law_1304 : decode cL_law 1304 = .ok (.iconst 0, 1) := by decide +kernel
theorem dL_law_1305 : decode cL_law 1305 = .ok (.laload, 1) := by decide +kernel
theorem dL_law_1306 : decode cL_law 1306 = .ok (.lload 6, 2) := by decide +kernel
theorem dL_law_1308 : decode cL_law 1308 = .ok (.lcmp, 1) := by decide +kernel
theorem dL_law_1309 : decode cL_law 1309 = .ok (.ifCond .eq 5, 3) := by decide +kernel
theorem dL_law_1312 : decode cL_law 1312 = .ok (.iconst 0, 1) := by decide +kernel
theorem dL_law_1313 : decode cL_law 1313 = .ok (.ireturn, 1) := by decide +kernel
theorem dL_law_1314 : decode cL_law 1314 = .ok (.goto 126, 3) := by decide +kernel
theorem dL_law_1317 : decode cL_law 1317 = .ok (.aload_n 1, 1) := by decide +kernel
theorem dL_law_1318 : decode cL_law 1318 = .ok (.aload_n 0, 1) := by decide +kernel
theorem dL_law_1319 : decode cL_law 1319 = .ok (.iload 4, 2) := by decide +kernel
theorem dL_law_1321 : decode cL_law 1321 = .ok (.iconst 1, 1) := by decide +kernel
theorem dL_law_1322 : decode cL_law 1322 = .ok (.iadd, 1) := by decide +kernel
theorem dL_law_1323 : decode cL_law 1323 = .ok (.iaload, 1) := by decide +kernel
theorem dL_law_1324 : decode cL_law 1324 = .ok (.aload_n 0, 1) := by decide +kernel
theorem dL_law_1325 : decode cL_law 1325 = .ok (.iload 4, 2) := by decide +kernel
theorem dL_law_1327 : decode cL_law 1327 = .ok (.iconst 2, 1) := by decide +kernel
theorem dL_law_1328 : decode cL_law 1328 = .ok (.iadd, 1) := by decide +kernel
theorem dL_law_1329 : decode cL_law 1329 = .ok (.iaload, 1) := by decide +kernel
theorem dL_law_1330 : decode cL_law 1330 = .ok (.aload_n 0, 1) := by decide +kernel
theorem dL_law_1331 : decode cL_law 1331 = .ok (.iload 4, 2) := by decide +kernel
theorem dL_law_1333 : decode cL_law 1333 = .ok (.iconst 3, 1) := by decide +kernel
theorem dL_law_1334 : decode cL_law 1334 = .ok (.iadd, 1) := by decide +kernel
theorem dL_law_1335 : decode cL_law 1335 = .ok (.iaload, 1) := by decide +kernel
theorem dL_law_1336 : decode cL_law 1336 = .ok (.aload_n 0, 1) := by decide +kernel
theorem dL_law_1337 : decode cL_law 1337 = .ok (.iload 4, 2) := by decide +kernel
theorem dL_law_1339 : decode cL_law 1339 = .ok (.iconst 4, 1) := by decide +kernel
theorem dL_law_1340 : decode cL_law 1340 = .ok (.iadd, 1) := by decide +kernel
theorem dL_law_1341 : decode cL_law 1341 = .ok (.iaload, 1) := by decide +kernel
theorem dL_law_1342 : decode cL_law 1342 = .ok (.aload_n 0, 1) := by decide +kernel
theorem dL_law_1343 : decode cL_law 1343 = .ok (.iload 4, 2) := by decide +kernel
theorem dL_law_1345 : decode cL_law 1345 = .ok (.iconst 5, 1) := by decide +kernel
theorem dL_law_1346 : decode cL_law 1346 = .ok (.iadd, 1) := by decide +kernel
theorem dL_law_1347 : decode cL_law 1347 = .ok (.iaload, 1) := by decide +kernel
theorem dL_law_1348 : decode cL_law 1348 = .ok (.invokevirtual 161, 3) := by decide +kernel
theorem dL_law_1351 : decode cL_law 1351 = .ok (.aload_n 2, 1) := by decide +kernel
theorem dL_law_1352 : decode cL_law 1352 = .ok (.aload_n 0, 1) := by decide +kernel
theorem dL_law_1353 : decode cL_law 1353 = .ok (.iload 4, 2) := by decide +kernel
theorem dL_law_1355 : decode cL_law 1355 = .ok (.iconst 1, 1) := by decide +kernel
theorem dL_law_1356 : decode cL_law 1356 = .ok (.iadd, 1) := by decide +kernel
theorem dL_law_1357 : decode cL_law 1357 = .ok (.iaload, 1) := by decide +kernel
theorem dL_law_1358 : decode cL_law 1358 = .ok (.aload_n 0, 1) := by decide +kernel
theorem dL_law_1359 : decode cL_law 1359 = .ok (.iload 4, 2) := by decide +kernel
theorem dL_law_1361 : decode cL_law 1361 = .ok (.iconst 2, 1) := by decide +kernel
theorem dL_law_1362 : decode cL_law 1362 = .ok (.iadd, 1) := by decide +kernel
theorem dL_law_1363 : decode cL_law 1363 = .ok (.iaload, 1) := by decide +kernel
theorem dL_law_1364 : decode cL_law 1364 = .ok (.aload_n 0, 1) := by decide +kernel
theorem dL_law_1365 : decode cL_law 1365 = .ok (.iload 4, 2) := by decide +kernel
theorem dL_law_1367 : decode cL_law 1367 = .ok (.iconst 3, 1) := by decide +kernel
theorem dL_law_1368 : decode cL_law 1368 = .ok (.iadd, 1) := by decide +kernel
theorem dL_law_1369 : decode cL_law 1369 = .ok (.iaload, 1) := by decide +kernel
theorem dL_law_1370 : decode cL_law 1370 = .ok (.aload_n 0, 1) := by decide +kernel
theorem dL_law_1371 : decode cL_law 1371 = .ok (.iload 4, 2) := by decide +kernel
theorem dL_law_1373 : decode cL_law 1373 = .ok (.iconst 4, 1) := by decide +kernel
theorem dL_law_1374 : decode cL_law 1374 = .ok (.iadd, 1) := by decide +kernel
theorem dL_law_1375 : decode cL_law 1375 = .ok (.iaload, 1) := by decide +kernel
theorem dL_law_1376 : decode cL_law 1376 = .ok (.aload_n 0, 1) := by decide +kernel
theorem dL_law_1377 : decode cL_law 1377 = .ok (.iload 4, 2) := by decide +kernel
theorem dL_law_1379 : decode cL_law 1379 = .ok (.iconst 5, 1) := by decide +kernel
theorem dL_law_1380 : decode cL_law 1380 = .ok (.iadd, 1) := by decide +kernel
theorem dL_law_1381 : decode cL_law 1381 = .ok (.iaload, 1) := by decide +kernel
theorem dL_law_1382 : decode cL_law 1382 = .ok (.invokevirtual 165, 3) := by decide +kernel
theorem dL_law_1385 : decode cL_law 1385 = .ok (.if_icmp .eq 55, 3) := by decide +kernel
theorem dL_law_1388 : decode cL_law 1388 = .ok (.iconst 0, 1) := by decide +kernel
theorem dL_law_1389 : decode cL_law 1389 = .ok (.ireturn, 1) := by decide +kernel
theorem dL_law_1390 : decode cL_law 1390 = .ok (.aload_n 1, 1) := by decide +kernel
theorem dL_law_1391 : decode cL_law 1391 = .ok (.aload_n 0, 1) := by decide +kernel
theorem dL_law_1392 : decode cL_law 1392 = .ok (.iload 4, 2) := by decide +kernel
theorem dL_law_1394 : decode cL_law 1394 = .ok (.iconst 1, 1) := by decide +kernel
theorem dL_law_1395 : decode cL_law 1395 = .ok (.iadd, 1) := by decide +kernel
theorem dL_law_1396 : decode cL_law 1396 = .ok (.iaload, 1) := by decide +kernel
theorem dL_law_1397 : decode cL_law 1397 = .ok (.invokevirtual 166, 3) := by decide +kernel
theorem dL_law_1400 : decode cL_law 1400 = .ok (.aload_n 2, 1) := by decide +kernel
theorem dL_law_1401 : decode cL_law 1401 = .ok (.aload_n 0, 1) := by decide +kernel
theorem dL_law_1402 : decode cL_law 1402 = .ok (.iload 4, 2) := by decide +kernel
theorem dL_law_1404 : decode cL_law 1404 = .ok (.iconst 1, 1) := by decide +kernel
theorem dL_law_1405 : decode cL_law 1405 = .ok (.iadd, 1) := by decide +kernel
theorem dL_law_1406 : decode cL_law 1406 = .ok (.iaload, 1) := by decide +kernel
theorem dL_law_1407 : decode cL_law 1407 = .ok (.invokevirtual 169, 3) := by decide +kernel
theorem dL_law_1410 : decode cL_law 1410 = .ok (.if_icmp .eq 30, 3) := by decide +kernel
theorem dL_law_1413 : decode cL_law 1413 = .ok (.iconst 0, 1) := by decide +kernel
theorem dL_law_1414 : decode cL_law 1414 = .ok (.ireturn, 1) := by decide +kernel
theorem dL_law_1415 : decode cL_law 1415 = .ok (.aload_n 1, 1) := by decide +kernel
theorem dL_law_1416 : decode cL_law 1416 = .ok (.aload_n 0, 1) := by decide +kernel
theorem dL_law_1417 : decode cL_law 1417 = .ok (.iload 4, 2) := by decide +kernel
theorem dL_law_1419 : decode cL_law 1419 = .ok (.iconst 1, 1) := by decide +kernel
theorem dL_law_1420 : decode cL_law 1420 = .ok (.iadd, 1) := by decide +kernel
theorem dL_law_1421 : decode cL_law 1421 = .ok (.iaload, 1) := by decide +kernel
theorem dL_law_1422 : decode cL_law 1422 = .ok (.invokevirtual 170, 3) := by decide +kernel
theorem dL_law_1425 : decode cL_law 1425 = .ok (.aload_n 2, 1) := by decide +kernel
theorem dL_law_1426 : decode cL_law 1426 = .ok (.aload_n 0, 1) := by decide +kernel
theorem dL_law_1427 : decode cL_law 1427 = .ok (.iload 4, 2) := by decide +kernel
theorem dL_law_1429 : decode cL_law 1429 = .ok (.iconst 1, 1) := by decide +kernel
theorem dL_law_1430 : decode cL_law 1430 = .ok (.iadd, 1) := by decide +kernel
theorem dL_law_1431 : decode cL_law 1431 = .ok (.iaload, 1) := by decide +kernel
theorem dL_law_1432 : decode cL_law 1432 = .ok (.invokevirtual 173, 3) := by decide +kernel
theorem dL_law_1435 : decode cL_law 1435 = .ok (.if_icmp .eq 5, 3) := by decide +kernel
theorem dL_law_1438 : decode cL_law 1438 = .ok (.iconst 0, 1) := by decide +kernel
theorem dL_law_1439 : decode cL_law 1439 = .ok (.ireturn, 1) := by decide +kernel
theorem dL_law_1440 : decode cL_law 1440 = .ok (.iinc 4 6, 3) := by decide +kernel
theorem dL_law_1443 : decode cL_law 1443 = .ok (.goto (-1410), 3) := by decide +kernel
theorem dL_law_1446 : decode cL_law 1446 = .ok (.iconst 1, 1) := by decide +kernel
theorem dL_law_1447 : decode cL_law 1447 = .ok (.ireturn, 1) := by decide +kernel
end
section
theorem dX0_init_0 : decode cX0_init 0 = .ok (.aload_n 0, 1) := by decide +kernel
theorem dX0_init_1 : decode cX0_init 1 = .ok (.invokespecial 3, 3) := by decide +kernel
theorem dX0_init_4 : decode cX0_init 4 = .ok (.aload_n 0, 1) := by decide +kernel
theorem dX0_init_5 : decode cX0_init 5 = .ok (.new 9, 3) := by decide +kernel
theorem dX0_init_8 : decode cX0_init 8 = .ok (.dup, 1) := by decide +kernel
theorem dX0_init_9 : decode cX0_init 9 = .ok (.invokespecial 11, 3) := by decide +kernel
theorem dX0_init_12 : decode cX0_init 12 = .ok (.putfield 12, 3) := by decide +kernel
theorem dX0_init_15 : decode cX0_init 15 = .ok (.aload_n 0, 1) := by decide +kernel
theorem dX0_init_16 : decode cX0_init 16 = .ok (.sipush 1000, 3) := by decide +kernel
theorem dX0_init_19 : decode cX0_init 19 = .ok (.newarray .byte, 2) := by decide +kernel
theorem dX0_init_21 : decode cX0_init 21 = .ok (.putfield 18, 3) := by decide +kernel
theorem dX0_init_24 : decode cX0_init 24 = .ok (.aload_n 0, 1) := by decide +kernel
theorem dX0_init_25 : decode cX0_init 25 = .ok (.bipush 12, 2) := by decide +kernel
theorem dX0_init_27 : decode cX0_init 27 = .ok (.newarray .int, 2) := by decide +kernel
theorem dX0_init_29 : decode cX0_init 29 = .ok (.putfield 22, 3) := by decide +kernel
theorem dX0_init_32 : decode cX0_init 32 = .ok (.aload_n 0, 1) := by decide +kernel
theorem dX0_init_33 : decode cX0_init 33 = .ok (.iload_n 1, 1) := by decide +kernel
theorem dX0_init_34 : decode cX0_init 34 = .ok (.putfield 26, 3) := by decide +kernel
theorem dX0_init_37 : decode cX0_init 37 = .ok (.aload_n 0, 1) := by decide +kernel
theorem dX0_init_38 : decode cX0_init 38 = .ok (.aload_n 2, 1) := by decide +kernel
theorem dX0_init_39 : decode cX0_init 39 = .ok (.putfield 30, 3) := by decide +kernel
theorem dX0_init_42 : decode cX0_init 42 = .ok (.return_, 1) := by decide +kernel
theorem dX0_chants_0 : decode cX0_chants 0 = .ok (.aload_n 0, 1) := by decide +kernel
theorem dX0_chants_1 : decode cX0_chants 1 = .ok (.getfield 12, 3) := by decide +kernel
theorem dX0_chants_4 : decode cX0_chants 4 = .ok (.invokevirtual 34, 3) := by decide +kernel
theorem dX0_chants_7 : decode cX0_chants 7 = .ok (.ireturn, 1) := by decide +kernel
theorem dX0_hasChant_0 : decode cX0_hasChant 0 = .ok (.iload_n 1, 1) := by decide +kernel
theorem dX0_hasChant_1 : decode cX0_hasChant 1 = .ok (.ifCond .lt 18, 3) := by decide +kernel
theorem dX0_hasChant_4 : decode cX0_hasChant 4 = .ok (.iload_n 1, 1) := by decide +kernel
theorem dX0_hasChant_5 : decode cX0_hasChant 5 = .ok (.aload_n 0, 1) := by decide +kernel
theorem dX0_hasChant_6 : decode cX0_hasChant 6 = .ok (.getfield 12, 3) := by decide +kernel
theorem dX0_hasChant_9 : decode cX0_hasChant 9 = .ok (.invokevirtual 34, 3) := by decide +kernel
theorem dX0_hasChant_12 : decode cX0_hasChant 12 = .ok (.if_icmp .ge 7, 3) := by decide +kernel
theorem dX0_hasChant_15 : decode cX0_hasChant 15 = .ok (.iconst 1, 1) := by decide +kernel
theorem dX0_hasChant_16 : decode cX0_hasChant 16 = .ok (.goto 4, 3) := by decide +kernel
theorem dX0_hasChant_19 : decode cX0_hasChant 19 = .ok (.iconst 0, 1) := by decide +kernel
theorem dX0_hasChant_20 : decode cX0_hasChant 20 = .ok (.ireturn, 1) := by decide +kernel
theorem dX0_hasStep_0 : decode cX0_hasStep 0 = .ok (.aload_n 0, 1) := by decide +kernel
theorem dX0_hasStep_1 : decode cX0_hasStep 1 = .ok (.iload_n 1, 1) := by decide +kernel
theorem dX0_hasStep_2 : decode cX0_hasStep 2 = .ok (.invokevirtual 38, 3) := by decide +kernel
theorem dX0_hasStep_5 : decode cX0_hasStep 5 = .ok (.ifCond .eq 32, 3) := by decide +kernel
theorem dX0_hasStep_8 : decode cX0_hasStep 8 = .ok (.iload_n 2, 1) := by decide +kernel
theorem dX0_hasStep_9 : decode cX0_hasStep 9 = .ok (.ifCond .lt 28, 3) := by decide +kernel
theorem dX0_hasStep_12 : decode cX0_hasStep 12 = .ok (.iload_n 2, 1) := by decide +kernel
theorem dX0_hasStep_13 : decode cX0_hasStep 13 = .ok (.aload_n 0, 1) := by decide +kernel
theorem dX0_hasStep_14 : decode cX0_hasStep 14 = .ok (.getfield 12, 3) := by decide +kernel
theorem dX0_hasStep_17 : decode cX0_hasStep 17 = .ok (.iload_n 1, 1) := by decide +kernel
theorem dX0_hasStep_18 : decode cX0_hasStep 18 = .ok (.invokevirtual 42, 3) := by decide +kernel
theorem dX0_hasStep_21 : decode cX0_hasStep 21 = .ok (.checkcast 46, 3) := by decide +kernel
theorem dX0_hasStep_24 : decode cX0_hasStep 24 = .ok (.getfield 48, 3) := by decide +kernel
theorem dX0_hasStep_27 : decode cX0_hasStep 27 = .ok (.invokevirtual 34, 3) := by decide +kernel
theorem dX0_hasStep_30 : decode cX0_hasStep 30 = .ok (.if_icmp .ge 7, 3) := by decide +kernel
theorem dX0_hasStep_33 : decode cX0_hasStep 33 = .ok (.iconst 1, 1) := by decide +kernel
theorem dX0_hasStep_34 : decode cX0_hasStep 34 = .ok (.goto 4, 3) := by decide +kernel
theorem dX0_hasStep_37 : decode cX0_hasStep 37 = .ok (.iconst 0, 1) := by decide +kernel
theorem dX0_hasStep_38 : decode cX0_hasStep 38 = .ok (.ireturn, 1) := by decide +kernel
theorem dX0_stepOf_0 : decode cX0_stepOf 0 = .ok (.aload_n 0, 1) := by decide +kernel
theorem dX0_stepOf_1 : decode cX0_stepOf 1 = .ok (.getfield 12, 3) := by decide +kernel
theorem dX0_stepOf_4 : decode cX0_stepOf 4 = .ok (.iload_n 1, 1) := by decide +kernel
theorem dX0_stepOf_5 : decode cX0_stepOf 5 = .ok (.invokevirtual 42, 3) := by decide +kernel
theorem dX0_stepOf_8 : decode cX0_stepOf 8 = .ok (.checkcast 46, 3) := by decide +kernel
theorem dX0_stepOf_11 : decode cX0_stepOf 11 = .ok (.getfield 48, 3) := by decide +kernel
theorem dX0_stepOf_14 : decode cX0_stepOf 14 = .ok (.iload_n 2, 1) := by decide +kernel
theorem dX0_stepOf_15 : decode cX0_stepOf 15 = .ok (.invokevirtual 42, 3) := by decide +kernel
theorem dX0_stepOf_18 : decode cX0_stepOf 18 = .ok (.checkcast 51, 3) := by decide +kernel
theorem dX0_stepOf_21 : decode cX0_stepOf 21 = .ok (.areturn, 1) := by decide +kernel
theorem dX0_addChant_0 : decode cX0_addChant 0 = .ok (.aload_n 0, 1) := by decide +kernel
theorem dX0_addChant_1 : decode cX0_addChant 1 = .ok (.getfield 12, 3) := by decide +kernel
theorem dX0_addChant_4 : decode cX0_addChant 4 = .ok (.invokevirtual 34, 3) := by decide +kernel
theorem dX0_addChant_7 : decode cX0_addChant 7 = .ok (.bipush 12, 2) := by decide +kernel
theorem dX0_addChant_9 : decode cX0_addChant 9 = .ok (.if_icmp .lt 6, 3) := by decide +kernel
theorem dX0_addChant_12 : decode cX0_addChant 12 = .ok (.bipush (-2), 2) := by decide +kernel
theorem dX0_addChant_14 : decode cX0_addChant 14 = .ok (.ireturn, 1) := by decide +kernel
theorem dX0_addChant_15 : decode cX0_addChant 15 = .ok (.aload_n 0, 1) := by decide +kernel
theorem dX0_addChant_16 : decode cX0_addChant 16 = .ok (.getfield 12, 3) := by decide +kernel
theorem dX0_addChant_19 : decode cX0_addChant 19 = .ok (.new 46, 3) := by decide +kernel
theorem dX0_addChant_22 : decode cX0_addChant 22 = .ok (.dup, 1) := by decide +kernel
theorem dX0_addChant_23 : decode cX0_addChant 23 = .ok (.invokespecial 53, 3) := by decide +kernel
theorem dX0_addChant_26 : decode cX0_addChant 26 = .ok (.invokevirtual 54, 3) := by decide +kernel
theorem dX0_addChant_29 : decode cX0_addChant 29 = .ok (.pop, 1) := by decide +kernel
theorem dX0_addChant_30 : decode cX0_addChant 30 = .ok (.aload_n 0, 1) := by decide +kernel
theorem dX0_addChant_31 : decode cX0_addChant 31 = .ok (.getfield 12, 3) := by decide +kernel
theorem dX0_addChant_34 : decode cX0_addChant 34 = .ok (.invokevirtual 34, 3) := by decide +kernel
theorem dX0_addChant_37 : decode cX0_addChant 37 = .ok (.iconst 1, 1) := by decide +kernel
theorem dX0_addChant_38 : decode cX0_addChant 38 = .ok (.isub, 1) := by decide +kernel
theorem dX0_addChant_39 : decode cX0_addChant 39 = .ok (.ireturn, 1) := by decide +kernel
theorem dX0_addStep_0 : decode cX0_addStep 0 = .ok (.aload_n 0, 1) := by decide +kernel
theorem dX0_addStep_1 : decode cX0_addStep 1 = .ok (.getfield 12, 3) := by decide +kernel
theorem dX0_addStep_4 : decode cX0_addStep 4 = .ok (.invokevirtual 58, 3) := by decide +kernel
theorem dX0_addStep_7 : decode cX0_addStep 7 = .ok (.ifCond .eq 6, 3) := by decide +kernel
theorem dX0_addStep_10 : decode cX0_addStep 10 = .ok (.bipush (-3), 2) := by decide +kernel
theorem dX0_addStep_12 : decode cX0_addStep 12 = .ok (.ireturn, 1) := by decide +kernel
theorem dX0_addStep_13 : decode cX0_addStep 13 = .ok (.aload_n 0, 1) := by decide +kernel
theorem dX0_addStep_14 : decode cX0_addStep 14 = .ok (.getfield 12, 3) := by decide +kernel
theorem dX0_addStep_17 : decode cX0_addStep 17 = .ok (.aload_n 0, 1) := by decide +kernel
theorem dX0_addStep_18 : decode cX0_addStep 18 = .ok (.getfield 12, 3) := by decide +kernel
theorem dX0_addStep_21 : decode cX0_addStep 21 = .ok (.invokevirtual 34, 3) := by decide +kernel
theorem dX0_addStep_24 : decode cX0_addStep 24 = .ok (.iconst 1, 1) := by decide +kernel
theorem dX0_addStep_25 : decode cX0_addStep 25 = .ok (.isub, 1) := by decide +kernel
theorem dX0_addStep_26 : decode cX0_addStep 26 = .ok (.invokevirtual 42, 3) := by decide +kernel
theorem dX0_addStep_29 : decode cX0_addStep 29 = .ok (.checkcast 46, 3) := by decide +kernel
theorem dX0_addStep_32 : decode cX0_addStep 32 = .ok (.getfield 48, 3) := by decide +kernel
theorem dX0_addStep_35 : decode cX0_addStep 35 = .ok (.astore 4, 2) := by decide +kernel
theorem dX0_addStep_37 : decode cX0_addStep 37 = .ok (.aload 4, 2) := by decide +kernel
theorem dX0_addStep_39 : decode cX0_addStep 39 = .ok (.invokevirtual 34, 3) := by decide +kernel
theorem dX0_addStep_42 : decode cX0_addStep 42 = .ok (.bipush 12, 2) := by decide +kernel
theorem dX0_addStep_44 : decode cX0_addStep 44 = .ok (.if_icmp .lt 6, 3) := by decide +kernel
theorem dX0_addStep_47 : decode cX0_addStep 47 = .ok (.bipush (-2), 2) := by decide +kernel
theorem dX0_addStep_49 : decode cX0_addStep 49 = .ok (.ireturn, 1) := by decide +kernel
theorem dX0_addStep_50 : decode cX0_addStep 50 = .ok (.aload 4, 2) := by decide +kernel
theorem dX0_addStep_52 : decode cX0_addStep 52 = .ok (.new 51, 3) := by decide +kernel
theorem dX0_addStep_55 : decode cX0_addStep 55 = .ok (.dup, 1) := by decide +kernel
theorem dX0_addStep_56 : decode cX0_addStep 56 = .ok (.iload_n 1, 1) := by decide +kernel
theorem dX0_addStep_57 : decode cX0_addStep 57 = .ok (.iload_n 2, 1) := by decide +kernel
theorem dX0_addStep_58 : decode cX0_addStep 58 = .ok (.iload_n 3, 1) := by decide +kernel
theorem dX0_addStep_59 : decode cX0_addStep 59 = .ok (.invokespecial 62, 3) := by decide +kernel
theorem dX0_addStep_62 : decode cX0_addStep 62 = .ok (.invokevirtual 54, 3) := by decide +kernel
theorem dX0_addStep_65 : decode cX0_addStep 65 = .ok (.pop, 1) := by decide +kernel
theorem dX0_addStep_66 : decode cX0_addStep 66 = .ok (.aload 4, 2) := by decide +kernel
theorem dX0_addStep_68 : decode cX0_addStep 68 = .ok (.invokevirtual 34, 3) := by decide +kernel
theorem dX0_addStep_71 : decode cX0_addStep 71 = .ok (.iconst 1, 1) := by decide +kernel
theorem dX0_addStep_72 : decode cX0_addStep 72 = .ok (.isub, 1) := by decide +kernel
theorem dX0_addStep_73 : decode cX0_addStep 73 = .ok (.ireturn, 1) := by decide +kernel
theorem dX0_measured_0 : decode cX0_measured 0 = .ok (.aload_n 0, 1) := by decide +kernel
theorem dX0_measured_1 : decode cX0_measured 1 = .ok (.iconst 0, 1) := by decide +kernel
theorem dX0_measured_2 : decode cX0_measured 2 = .ok (.putfield 65, 3) := by decide +kernel
theorem dX0_measured_5 : decode cX0_measured 5 = .ok (.aload_n 0, 1) := by decide +kernel
theorem dX0_measured_6 : decode cX0_measured 6 = .ok (.iload_n 1, 1) := by decide +kernel
theorem dX0_measured_7 : decode cX0_measured 7 = .ok (.aload_n 0, 1) := by decide +kernel
theorem dX0_measured_8 : decode cX0_measured 8 = .ok (.getfield 26, 3) := by decide +kernel
theorem dX0_measured_11 : decode cX0_measured 11 = .ok (.iconst 0, 1) := by decide +kernel
theorem dX0_measured_12 : decode cX0_measured 12 = .ok (.iconst 0, 1) := by decide +kernel
theorem dX0_measured_13 : decode cX0_measured 13 = .ok (.invokevirtual 68, 3) := by decide +kernel
theorem dX0_measured_16 : decode cX0_measured 16 = .ok (.ireturn, 1) := by decide +kernel
theorem dX0_measure_0 : decode cX0_measure 0 = .ok (.iload 4, 2) := by decide +kernel
theorem dX0_measure_2 : decode cX0_measure 2 = .ok (.bipush 12, 2) := by decide +kernel
theorem dX0_measure_4 : decode cX0_measure 4 = .ok (.if_icmp .gt 11, 3) := by decide +kernel
theorem dX0_measure_7 : decode cX0_measure 7 = .ok (.aload_n 0, 1) := by decide +kernel
theorem dX0_measure_8 : decode cX0_measure 8 = .ok (.iload_n 1, 1) := by decide +kernel
theorem dX0_measure_9 : decode cX0_measure 9 = .ok (.invokevirtual 38, 3) := by decide +kernel
theorem dX0_measure_12 : decode cX0_measure 12 = .ok (.ifCond .ne 6, 3) := by decide +kernel
theorem dX0_measure_15 : decode cX0_measure 15 = .ok (.bipush (-6), 2) := by decide +kernel
theorem dX0_measure_17 : decode cX0_measure 17 = .ok (.ireturn, 1) := by decide +kernel
theorem dX0_measure_18 : decode cX0_measure 18 = .ok (.aload_n 0, 1) := by decide +kernel
theorem dX0_measure_19 : decode cX0_measure 19 = .ok (.getfield 12, 3) := by decide +kernel
theorem dX0_measure_22 : decode cX0_measure 22 = .ok (.iload_n 1, 1) := by decide +kernel
theorem dX0_measure_23 : decode cX0_measure 23 = .ok (.invokevirtual 42, 3) := by decide +kernel
theorem dX0_measure_26 : decode cX0_measure 26 = .ok (.checkcast 46, 3) := by decide +kernel
theorem dX0_measure_29 : decode cX0_measure 29 = .ok (.getfield 48, 3) := by decide +kernel
theorem dX0_measure_32 : decode cX0_measure 32 = .ok (.astore 5, 2) := by decide +kernel
theorem dX0_measure_34 : decode cX0_measure 34 = .ok (.iconst 0, 1) := by decide +kernel
theorem dX0_measure_35 : decode cX0_measure 35 = .ok (.istore 6, 2) := by decide +kernel
theorem dX0_measure_37 : decode cX0_measure 37 = .ok (.iconst 0, 1) := by decide +kernel
theorem dX0_measure_38 : decode cX0_measure 38 = .ok (.istore 7, 2) := by decide +kernel
theorem dX0_measure_40 : decode cX0_measure 40 = .ok (.iload 7, 2) := by decide +kernel
theorem dX0_measure_42 : decode cX0_measure 42 = .ok (.aload 5, 2) := by decide +kernel
theorem dX0_measure_44 : decode cX0_measure 44 = .ok (.invokevirtual 34, 3) := by decide +kernel
theorem dX0_measure_47 : decode cX0_measure 47 = .ok (.if_icmp .ge 106, 3) := by decide +kernel
theorem dX0_measure_50 : decode cX0_measure 50 = .ok (.aload_n 0, 1) := by decide +kernel
theorem dX0_measure_51 : decode cX0_measure 51 = .ok (.getfield 65, 3) := by decide +kernel
theorem dX0_measure_54 : decode cX0_measure 54 = .ok (.sipush 1000, 3) := by decide +kernel
theorem dX0_measure_57 : decode cX0_measure 57 = .ok (.if_icmp .lt 6, 3) := by decide +kernel
theorem dX0_measure_60 : decode cX0_measure 60 = .ok (.bipush (-6), 2) := by decide +kernel
theorem dX0_measure_62 : decode cX0_measure 62 = .ok (.ireturn, 1) := by decide +kernel
theorem dX0_measure_63 : decode cX0_measure 63 = .ok (.aload_n 0, 1) := by decide +kernel
theorem dX0_measure_64 : decode cX0_measure 64 = .ok (.dup, 1) := by decide +kernel
theorem dX0_measure_65 : decode cX0_measure 65 = .ok (.getfield 65, 3) := by decide +kernel
theorem dX0_measure_68 : decode cX0_measure 68 = .ok (.iconst 1, 1) := by decide +kernel
theorem dX0_measure_69 : decode cX0_measure 69 = .ok (.iadd, 1) := by decide +kernel
theorem dX0_measure_70 : decode cX0_measure 70 = .ok (.putfield 65, 3) := by decide +kernel
theorem dX0_measure_73 : decode cX0_measure 73 = .ok (.aload_n 0, 1) := by decide +kernel
theorem dX0_measure_74 : decode cX0_measure 74 = .ok (.aload 5, 2) := by decide +kernel
theorem dX0_measure_76 : decode cX0_measure 76 = .ok (.iload 7, 2) := by decide +kernel
theorem dX0_measure_78 : decode cX0_measure 78 = .ok (.invokevirtual 42, 3) := by decide +kernel
theorem dX0_measure_81 : decode cX0_measure 81 = .ok (.checkcast 51, 3) := by decide +kernel
theorem dX0_measure_84 : decode cX0_measure 84 = .ok (.iload 6, 2) := by decide +kernel
theorem dX0_measure_86 : decode cX0_measure 86 = .ok (.iload_n 2, 1) := by decide +kernel
theorem dX0_measure_87 : decode cX0_measure 87 = .ok (.iload_n 3, 1) := by decide +kernel
theorem dX0_measure_88 : decode cX0_measure 88 = .ok (.iload 4, 2) := by decide +kernel
theorem dX0_measure_90 : decode cX0_measure 90 = .ok (.invokevirtual 72, 3) := by decide +kernel
theorem dX0_measure_93 : decode cX0_measure 93 = .ok (.istore 8, 2) := by decide +kernel
theorem dX0_measure_95 : decode cX0_measure 95 = .ok (.iload 8, 2) := by decide +kernel
theorem dX0_measure_97 : decode cX0_measure 97 = .ok (.ifCond .lt 16, 3) := by decide +kernel
theorem dX0_measure_100 : decode cX0_measure 100 = .ok (.iload_n 3, 1) := by decide +kernel
theorem dX0_measure_101 : decode cX0_measure 101 = .ok (.iload 6, 2) := by decide +kernel
theorem dX0_measure_103 : decode cX0_measure 103 = .ok (.iadd, 1) := by decide +kernel
theorem dX0_measure_104 : decode cX0_measure 104 = .ok (.iload 8, 2) := by decide +kernel
theorem dX0_measure_106 : decode cX0_measure 106 = .ok (.iadd, 1) := by decide +kernel
theorem dX0_measure_107 : decode cX0_measure 107 = .ok (.sipush 1000, 3) := by decide +kernel
theorem dX0_measure_110 : decode cX0_measure 110 = .ok (.if_icmp .le 6, 3) := by decide +kernel
theorem dX0_measure_113 : decode cX0_measure 113 = .ok (.bipush (-6), 2) := by decide +kernel
theorem dX0_measure_115 : decode cX0_measure 115 = .ok (.ireturn, 1) := by decide +kernel
theorem dX0_measure_116 : decode cX0_measure 116 = .ok (.iload 6, 2) := by decide +kernel
theorem dX0_measure_118 : decode cX0_measure 118 = .ok (.iload 8, 2) := by decide +kernel
theorem dX0_measure_120 : decode cX0_measure 120 = .ok (.iadd, 1) := by decide +kernel
theorem dX0_measure_121 : decode cX0_measure 121 = .ok (.istore 6, 2) := by decide +kernel
theorem dX0_measure_123 : decode cX0_measure 123 = .ok (.iload 4, 2) := by decide +kernel
theorem dX0_measure_125 : decode cX0_measure 125 = .ok (.ifCond .ne 22, 3) := by decide +kernel
theorem dX0_measure_128 : decode cX0_measure 128 = .ok (.iload 7, 2) := by decide +kernel
theorem dX0_measure_130 : decode cX0_measure 130 = .ok (.aload_n 0, 1) := by decide +kernel
theorem dX0_measure_131 : decode cX0_measure 131 = .ok (.getfield 22, 3) := by decide +kernel
theorem dX0_measure_134 : decode cX0_measure 134 = .ok (.arraylength, 1) := by decide +kernel
theorem dX0_measure_135 : decode cX0_measure 135 = .ok (.if_icmp .ge 12, 3) := by decide +kernel
theorem dX0_measure_138 : decode cX0_measure 138 = .ok (.aload_n 0, 1) := by decide +kernel
theorem dX0_measure_139 : decode cX0_measure 139 = .ok (.getfield 22, 3) := by decide +kernel
theorem dX0_measure_142 : decode cX0_measure 142 = .ok (.iload 7, 2) := by decide +kernel
theorem dX0_measure_144 : decode cX0_measure 144 = .ok (.iload 6, 2) := by decide +kernel
theorem dX0_measure_146 : decode cX0_measure 146 = .ok (.iastore, 1) := by decide +kernel
theorem dX0_measure_147 : decode cX0_measure 147 = .ok (.iinc 7 1, 3) := by decide +kernel
theorem dX0_measure_150 : decode cX0_measure 150 = .ok (.goto (-110), 3) := by decide +kernel
theorem dX0_measure_153 : decode cX0_measure 153 = .ok (.iload 6, 2) := by decide +kernel
theorem dX0_measure_155 : decode cX0_measure 155 = .ok (.ireturn, 1) := by decide +kernel
theorem dX0_added_0 : decode cX0_added 0 = .ok (.aload_n 1, 1) := by decide +kernel
theorem dX0_added_1 : decode cX0_added 1 = .ok (.getfield 76, 3) := by decide +kernel
theorem dX0_added_4 : decode cX0_added 4 = .ok (.tableswitch 70 0 4 #[36, 70, 41, 43, 50], 36) := by decide +kernel
theorem dX0_added_40 : decode cX0_added 40 = .ok (.aload_n 1, 1) := by decide +kernel
theorem dX0_added_41 : decode cX0_added 41 = .ok (.getfield 79, 3) := by decide +kernel
theorem dX0_added_44 : decode cX0_added 44 = .ok (.ireturn, 1) := by decide +kernel
theorem dX0_added_45 : decode cX0_added 45 = .ok (.iload_n 2, 1) := by decide +kernel
theorem dX0_added_46 : decode cX0_added 46 = .ok (.ireturn, 1) := by decide +kernel
theorem dX0_added_47 : decode cX0_added 47 = .ok (.iload_n 2, 1) := by decide +kernel
theorem dX0_added_48 : decode cX0_added 48 = .ok (.aload_n 1, 1) := by decide +kernel
theorem dX0_added_49 : decode cX0_added 49 = .ok (.getfield 79, 3) := by decide +kernel
theorem dX0_added_52 : decode cX0_added 52 = .ok (.imul, 1) := by decide +kernel
theorem dX0_added_53 : decode cX0_added 53 = .ok (.ireturn, 1) := by decide +kernel
theorem dX0_added_54 : decode cX0_added 54 = .ok (.aload_n 0, 1) := by decide +kernel
theorem dX0_added_55 : decode cX0_added 55 = .ok (.aload_n 1, 1) := by decide +kernel
theorem dX0_added_56 : decode cX0_added 56 = .ok (.getfield 79, 3) := by decide +kernel
theorem dX0_added_59 : decode cX0_added 59 = .ok (.iload_n 3, 1) := by decide +kernel
theorem dX0_added_60 : decode cX0_added 60 = .ok (.iload_n 2, 1) := by decide +kernel
theorem dX0_added_61 : decode cX0_added 61 = .ok (.isub, 1) := by decide +kernel
theorem dX0_added_62 : decode cX0_added 62 = .ok (.iload 4, 2) := by decide +kernel
theorem dX0_added_64 : decode cX0_added 64 = .ok (.iload_n 2, 1) := by decide +kernel
theorem dX0_added_65 : decode cX0_added 65 = .ok (.iadd, 1) := by decide +kernel
theorem dX0_added_66 : decode cX0_added 66 = .ok (.iload 5, 2) := by decide +kernel
theorem dX0_added_68 : decode cX0_added 68 = .ok (.iconst 1, 1) := by decide +kernel
theorem dX0_added_69 : decode cX0_added 69 = .ok (.iadd, 1) := by decide +kernel
theorem dX0_added_70 : decode cX0_added 70 = .ok (.invokevirtual 68, 3) := by decide +kernel
theorem dX0_added_73 : decode cX0_added 73 = .ok (.ireturn, 1) := by decide +kernel
theorem dX0_added_74 : decode cX0_added 74 = .ok (.iconst 0, 1) := by decide +kernel
theorem dX0_added_75 : decode cX0_added 75 = .ok (.iload_n 3, 1) := by decide +kernel
theorem dX0_added_76 : decode cX0_added 76 = .ok (.iload_n 2, 1) := by decide +kernel
theorem dX0_added_77 : decode cX0_added 77 = .ok (.isub, 1) := by decide +kernel
theorem dX0_added_78 : decode cX0_added 78 = .ok (.invokestatic 82, 3) := by decide +kernel
theorem dX0_added_81 : decode cX0_added 81 = .ok (.ireturn, 1) := by decide +kernel
theorem dX0_endOf_0 : decode cX0_endOf 0 = .ok (.iload_n 1, 1) := by decide +kernel
theorem dX0_endOf_1 : decode cX0_endOf 1 = .ok (.ifCond .lt 21, 3) := by decide +kernel
theorem dX0_endOf_4 : decode cX0_endOf 4 = .ok (.iload_n 1, 1) := by decide +kernel
theorem dX0_endOf_5 : decode cX0_endOf 5 = .ok (.aload_n 0, 1) := by decide +kernel
theorem dX0_endOf_6 : decode cX0_endOf 6 = .ok (.getfield 22, 3) := by decide +kernel
theorem dX0_endOf_9 : decode cX0_endOf 9 = .ok (.arraylength, 1) := by decide +kernel
theorem dX0_endOf_10 : decode cX0_endOf 10 = .ok (.if_icmp .ge 12, 3) := by decide +kernel
theorem dX0_endOf_13 : decode cX0_endOf 13 = .ok (.aload_n 0, 1) := by decide +kernel
theorem dX0_endOf_14 : decode cX0_endOf 14 = .ok (.getfield 22, 3) := by decide +kernel
theorem dX0_endOf_17 : decode cX0_endOf 17 = .ok (.iload_n 1, 1) := by decide +kernel
theorem dX0_endOf_18 : decode cX0_endOf 18 = .ok (.iaload, 1) := by decide +kernel
theorem dX0_endOf_19 : decode cX0_endOf 19 = .ok (.goto 4, 3) := by decide +kernel
theorem dX0_endOf_22 : decode cX0_endOf 22 = .ok (.iconst 0, 1) := by decide +kernel
theorem dX0_endOf_23 : decode cX0_endOf 23 = .ok (.ireturn, 1) := by decide +kernel
theorem dX0_stepThatCalled_0 : decode cX0_stepThatCalled 0 = .ok (.iconst 0, 1) := by decide +kernel
theorem dX0_stepThatCalled_1 : decode cX0_stepThatCalled 1 = .ok (.istore_n 2, 1) := by decide +kernel
theorem dX0_stepThatCalled_2 : decode cX0_stepThatCalled 2 = .ok (.iload_n 2, 1) := by decide +kernel
theorem dX0_stepThatCalled_3 : decode cX0_stepThatCalled 3 = .ok (.aload_n 0, 1) := by decide +kernel
theorem dX0_stepThatCalled_4 : decode cX0_stepThatCalled 4 = .ok (.getfield 22, 3) := by decide +kernel
theorem dX0_stepThatCalled_7 : decode cX0_stepThatCalled 7 = .ok (.arraylength, 1) := by decide +kernel
theorem dX0_stepThatCalled_8 : decode cX0_stepThatCalled 8 = .ok (.if_icmp .ge 21, 3) := by decide +kernel
theorem dX0_stepThatCalled_11 : decode cX0_stepThatCalled 11 = .ok (.aload_n 0, 1) := by decide +kernel
theorem dX0_stepThatCalled_12 : decode cX0_stepThatCalled 12 = .ok (.getfield 22, 3) := by decide +kernel
theorem dX0_stepThatCalled_15 : decode cX0_stepThatCalled 15 = .ok (.iload_n 2, 1) := by decide +kernel
theorem dX0_stepThatCalled_16 : decode cX0_stepThatCalled 16 = .ok (.iaload, 1) := by decide +kernel
theorem dX0_stepThatCalled_17 : decode cX0_stepThatCalled 17 = .ok (.iload_n 1, 1) := by decide +kernel
theorem dX0_stepThatCalled_18 : decode cX0_stepThatCalled 18 = .ok (.if_icmp .le 5, 3) := by decide +kernel
theorem dX0_stepThatCalled_21 : decode cX0_stepThatCalled 21 = .ok (.iload_n 2, 1) := by decide +kernel
theorem dX0_stepThatCalled_22 : decode cX0_stepThatCalled 22 = .ok (.ireturn, 1) := by decide +kernel
theorem dX0_stepThatCalled_23 : decode cX0_stepThatCalled 23 = .ok (.iinc 2 1, 3) := by decide +kernel
theorem dX0_stepThatCalled_26 : decode cX0_stepThatCalled 26 = .ok (.goto (-24), 3) := by decide +kernel
theorem dX0_stepThatCalled_29 : decode cX0_stepThatCalled 29 = .ok (.iconst 0, 1) := by decide +kernel
theorem dX0_stepThatCalled_30 : decode cX0_stepThatCalled 30 = .ok (.ireturn, 1) := by decide +kernel
theorem dX0_sung_0 : decode cX0_sung 0 = .ok (.aload_n 0, 1) := by decide +kernel
theorem dX0_sung_1 : decode cX0_sung 1 = .ok (.iload_n 1, 1) := by decide +kernel
theorem dX0_sung_2 : decode cX0_sung 2 = .ok (.invokevirtual 88, 3) := by decide +kernel
theorem dX0_sung_5 : decode cX0_sung 5 = .ok (.istore_n 2, 1) := by decide +kernel
theorem dX0_sung_6 : decode cX0_sung 6 = .ok (.iload_n 2, 1) := by decide +kernel
theorem dX0_sung_7 : decode cX0_sung 7 = .ok (.ifCond .lt 18, 3) := by decide +kernel
theorem dX0_sung_10 : decode cX0_sung 10 = .ok (.aload_n 0, 1) := by decide +kernel
theorem dX0_sung_11 : decode cX0_sung 11 = .ok (.iconst 0, 1) := by decide +kernel
theorem dX0_sung_12 : decode cX0_sung 12 = .ok (.putfield 92, 3) := by decide +kernel
theorem dX0_sung_15 : decode cX0_sung 15 = .ok (.aload_n 0, 1) := by decide +kernel
theorem dX0_sung_16 : decode cX0_sung 16 = .ok (.iload_n 1, 1) := by decide +kernel
theorem dX0_sung_17 : decode cX0_sung 17 = .ok (.aload_n 0, 1) := by decide +kernel
theorem dX0_sung_18 : decode cX0_sung 18 = .ok (.getfield 26, 3) := by decide +kernel
theorem dX0_sung_21 : decode cX0_sung 21 = .ok (.iconst 0, 1) := by decide +kernel
theorem dX0_sung_22 : decode cX0_sung 22 = .ok (.invokevirtual 95, 3) := by decide +kernel
theorem dX0_sung_25 : decode cX0_sung 25 = .ok (.iload_n 2, 1) := by decide +kernel
theorem dX0_sung_26 : decode cX0_sung 26 = .ok (.ireturn, 1) := by decide +kernel
theorem dX0_heard_0 : decode cX0_heard 0 = .ok (.iload_n 1, 1) := by decide +kernel
theorem dX0_heard_1 : decode cX0_heard 1 = .ok (.ifCond .lt 20, 3) := by decide +kernel
theorem dX0_heard_4 : decode cX0_heard 4 = .ok (.iload_n 1, 1) := by decide +kernel
theorem dX0_heard_5 : decode cX0_heard 5 = .ok (.aload_n 0, 1) := by decide +kernel
theorem dX0_heard_6 : decode cX0_heard 6 = .ok (.getfield 92, 3) := by decide +kernel
theorem dX0_heard_9 : decode cX0_heard 9 = .ok (.if_icmp .ge 12, 3) := by decide +kernel
theorem dX0_heard_12 : decode cX0_heard 12 = .ok (.aload_n 0, 1) := by decide +kernel
theorem dX0_heard_13 : decode cX0_heard 13 = .ok (.getfield 18, 3) := by decide +kernel
theorem dX0_heard_16 : decode cX0_heard 16 = .ok (.iload_n 1, 1) := by decide +kernel
theorem dX0_heard_17 : decode cX0_heard 17 = .ok (.baload, 1) := by decide +kernel
theorem dX0_heard_18 : decode cX0_heard 18 = .ok (.goto 4, 3) := by decide +kernel
theorem dX0_heard_21 : decode cX0_heard 21 = .ok (.iconst 0, 1) := by decide +kernel
theorem dX0_heard_22 : decode cX0_heard 22 = .ok (.ireturn, 1) := by decide +kernel
theorem dX0_write_0 : decode cX0_write 0 = .ok (.iload_n 3, 1) := by decide +kernel
theorem dX0_write_1 : decode cX0_write 1 = .ok (.bipush 12, 2) := by decide +kernel
theorem dX0_write_3 : decode cX0_write 3 = .ok (.if_icmp .gt 11, 3) := by decide +kernel
theorem dX0_write_6 : decode cX0_write 6 = .ok (.aload_n 0, 1) := by decide +kernel
theorem dX0_write_7 : decode cX0_write 7 = .ok (.iload_n 1, 1) := by decide +kernel
theorem dX0_write_8 : decode cX0_write 8 = .ok (.invokevirtual 38, 3) := by decide +kernel
theorem dX0_write_11 : decode cX0_write 11 = .ok (.ifCond .ne 4, 3) := by decide +kernel
theorem dX0_write_14 : decode cX0_write 14 = .ok (.return_, 1) := by decide +kernel
theorem dX0_write_15 : decode cX0_write 15 = .ok (.aload_n 0, 1) := by decide +kernel
theorem dX0_write_16 : decode cX0_write 16 = .ok (.getfield 12, 3) := by decide +kernel
theorem dX0_write_19 : decode cX0_write 19 = .ok (.iload_n 1, 1) := by decide +kernel
theorem dX0_write_20 : decode cX0_write 20 = .ok (.invokevirtual 42, 3) := by decide +kernel
theorem dX0_write_23 : decode cX0_write 23 = .ok (.checkcast 46, 3) := by decide +kernel
theorem dX0_write_26 : decode cX0_write 26 = .ok (.getfield 48, 3) := by decide +kernel
theorem dX0_write_29 : decode cX0_write 29 = .ok (.astore 4, 2) := by decide +kernel
theorem dX0_write_31 : decode cX0_write 31 = .ok (.aload_n 0, 1) := by decide +kernel
theorem dX0_write_32 : decode cX0_write 32 = .ok (.getfield 92, 3) := by decide +kernel
theorem dX0_write_35 : decode cX0_write 35 = .ok (.istore 5, 2) := by decide +kernel
theorem dX0_write_37 : decode cX0_write 37 = .ok (.iconst 0, 1) := by decide +kernel
theorem dX0_write_38 : decode cX0_write 38 = .ok (.istore 6, 2) := by decide +kernel
theorem dX0_write_40 : decode cX0_write 40 = .ok (.iload 6, 2) := by decide +kernel
theorem dX0_write_42 : decode cX0_write 42 = .ok (.aload 4, 2) := by decide +kernel
theorem dX0_write_44 : decode cX0_write 44 = .ok (.invokevirtual 34, 3) := by decide +kernel
theorem dX0_write_47 : decode cX0_write 47 = .ok (.if_icmp .ge 27, 3) := by decide +kernel
theorem dX0_write_50 : decode cX0_write 50 = .ok (.aload_n 0, 1) := by decide +kernel
theorem dX0_write_51 : decode cX0_write 51 = .ok (.aload 4, 2) := by decide +kernel
theorem dX0_write_53 : decode cX0_write 53 = .ok (.iload 6, 2) := by decide +kernel
theorem dX0_write_55 : decode cX0_write 55 = .ok (.invokevirtual 42, 3) := by decide +kernel
theorem dX0_write_58 : decode cX0_write 58 = .ok (.checkcast 51, 3) := by decide +kernel
theorem dX0_write_61 : decode cX0_write 61 = .ok (.iload 5, 2) := by decide +kernel
theorem dX0_write_63 : decode cX0_write 63 = .ok (.iload_n 2, 1) := by decide +kernel
theorem dX0_write_64 : decode cX0_write 64 = .ok (.iload_n 3, 1) := by decide +kernel
theorem dX0_write_65 : decode cX0_write 65 = .ok (.invokevirtual 98, 3) := by decide +kernel
theorem dX0_write_68 : decode cX0_write 68 = .ok (.iinc 6 1, 3) := by decide +kernel
theorem dX0_write_71 : decode cX0_write 71 = .ok (.goto (-31), 3) := by decide +kernel
theorem dX0_write_74 : decode cX0_write 74 = .ok (.return_, 1) := by decide +kernel
theorem dX0_writeStep_0 : decode cX0_writeStep 0 = .ok (.aload_n 0, 1) := by decide +kernel
theorem dX0_writeStep_1 : decode cX0_writeStep 1 = .ok (.getfield 92, 3) := by decide +kernel
theorem dX0_writeStep_4 : decode cX0_writeStep 4 = .ok (.iload_n 2, 1) := by decide +kernel
theorem dX0_writeStep_5 : decode cX0_writeStep 5 = .ok (.isub, 1) := by decide +kernel
theorem dX0_writeStep_6 : decode cX0_writeStep 6 = .ok (.istore 5, 2) := by decide +kernel
theorem dX0_writeStep_8 : decode cX0_writeStep 8 = .ok (.aload_n 1, 1) := by decide +kernel
theorem dX0_writeStep_9 : decode cX0_writeStep 9 = .ok (.getfield 76, 3) := by decide +kernel
theorem dX0_writeStep_12 : decode cX0_writeStep 12 = .ok (.tableswitch 110 0 4 #[36, 51, 66, 76, 91], 36) := by decide +kernel
theorem dX0_writeStep_48 : decode cX0_writeStep 48 = .ok (.aload_n 0, 1) := by decide +kernel
theorem dX0_writeStep_49 : decode cX0_writeStep 49 = .ok (.aload_n 1, 1) := by decide +kernel
theorem dX0_writeStep_50 : decode cX0_writeStep 50 = .ok (.getfield 102, 3) := by decide +kernel
theorem dX0_writeStep_53 : decode cX0_writeStep 53 = .ok (.aload_n 1, 1) := by decide +kernel
theorem dX0_writeStep_54 : decode cX0_writeStep 54 = .ok (.getfield 79, 3) := by decide +kernel
theorem dX0_writeStep_57 : decode cX0_writeStep 57 = .ok (.invokevirtual 105, 3) := by decide +kernel
theorem dX0_writeStep_60 : decode cX0_writeStep 60 = .ok (.goto 73, 3) := by decide +kernel
theorem dX0_writeStep_63 : decode cX0_writeStep 63 = .ok (.aload_n 0, 1) := by decide +kernel
theorem dX0_writeStep_64 : decode cX0_writeStep 64 = .ok (.aload_n 1, 1) := by decide +kernel
theorem dX0_writeStep_65 : decode cX0_writeStep 65 = .ok (.getfield 102, 3) := by decide +kernel
theorem dX0_writeStep_68 : decode cX0_writeStep 68 = .ok (.iload_n 3, 1) := by decide +kernel
theorem dX0_writeStep_69 : decode cX0_writeStep 69 = .ok (.iload 5, 2) := by decide +kernel
theorem dX0_writeStep_71 : decode cX0_writeStep 71 = .ok (.isub, 1) := by decide +kernel
theorem dX0_writeStep_72 : decode cX0_writeStep 72 = .ok (.invokevirtual 105, 3) := by decide +kernel
theorem dX0_writeStep_75 : decode cX0_writeStep 75 = .ok (.goto 58, 3) := by decide +kernel
theorem dX0_writeStep_78 : decode cX0_writeStep 78 = .ok (.aload_n 0, 1) := by decide +kernel
theorem dX0_writeStep_79 : decode cX0_writeStep 79 = .ok (.iload_n 2, 1) := by decide +kernel
theorem dX0_writeStep_80 : decode cX0_writeStep 80 = .ok (.iload 5, 2) := by decide +kernel
theorem dX0_writeStep_82 : decode cX0_writeStep 82 = .ok (.invokevirtual 109, 3) := by decide +kernel
theorem dX0_writeStep_85 : decode cX0_writeStep 85 = .ok (.goto 48, 3) := by decide +kernel
theorem dX0_writeStep_88 : decode cX0_writeStep 88 = .ok (.aload_n 0, 1) := by decide +kernel
theorem dX0_writeStep_89 : decode cX0_writeStep 89 = .ok (.iload_n 2, 1) := by decide +kernel
theorem dX0_writeStep_90 : decode cX0_writeStep 90 = .ok (.iload 5, 2) := by decide +kernel
theorem dX0_writeStep_92 : decode cX0_writeStep 92 = .ok (.aload_n 1, 1) := by decide +kernel
theorem dX0_writeStep_93 : decode cX0_writeStep 93 = .ok (.getfield 79, 3) := by decide +kernel
theorem dX0_writeStep_96 : decode cX0_writeStep 96 = .ok (.imul, 1) := by decide +kernel
theorem dX0_writeStep_97 : decode cX0_writeStep 97 = .ok (.invokevirtual 112, 3) := by decide +kernel
theorem dX0_writeStep_100 : decode cX0_writeStep 100 = .ok (.goto 33, 3) := by decide +kernel
theorem dX0_writeStep_103 : decode cX0_writeStep 103 = .ok (.aload_n 0, 1) := by decide +kernel
theorem dX0_writeStep_104 : decode cX0_writeStep 104 = .ok (.aload_n 1, 1) := by decide +kernel
theorem dX0_writeStep_105 : decode cX0_writeStep 105 = .ok (.getfield 79, 3) := by decide +kernel
theorem dX0_writeStep_108 : decode cX0_writeStep 108 = .ok (.iload_n 3, 1) := by decide +kernel
theorem dX0_writeStep_109 : decode cX0_writeStep 109 = .ok (.iload 5, 2) := by decide +kernel
theorem dX0_writeStep_111 : decode cX0_writeStep 111 = .ok (.isub, 1) := by decide +kernel
theorem dX0_writeStep_112 : decode cX0_writeStep 112 = .ok (.iload 4, 2) := by decide +kernel
theorem dX0_writeStep_114 : decode cX0_writeStep 114 = .ok (.iconst 1, 1) := by decide +kernel
theorem dX0_writeStep_115 : decode cX0_writeStep 115 = .ok (.iadd, 1) := by decide +kernel
theorem dX0_writeStep_116 : decode cX0_writeStep 116 = .ok (.invokevirtual 95, 3) := by decide +kernel
theorem dX0_writeStep_119 : decode cX0_writeStep 119 = .ok (.goto 14, 3) := by decide +kernel
theorem dX0_writeStep_122 : decode cX0_writeStep 122 = .ok (.aload_n 0, 1) := by decide +kernel
theorem dX0_writeStep_123 : decode cX0_writeStep 123 = .ok (.aload_n 1, 1) := by decide +kernel
theorem dX0_writeStep_124 : decode cX0_writeStep 124 = .ok (.getfield 79, 3) := by decide +kernel
theorem dX0_writeStep_127 : decode cX0_writeStep 127 = .ok (.iload 5, 2) := by decide +kernel
theorem dX0_writeStep_129 : decode cX0_writeStep 129 = .ok (.iload_n 3, 1) := by decide +kernel
theorem dX0_writeStep_130 : decode cX0_writeStep 130 = .ok (.invokevirtual 115, 3) := by decide +kernel
theorem dX0_writeStep_133 : decode cX0_writeStep 133 = .ok (.return_, 1) := by decide +kernel
theorem dX0_writeKnot_0 : decode cX0_writeKnot 0 = .ok (.aload_n 0, 1) := by decide +kernel
theorem dX0_writeKnot_1 : decode cX0_writeKnot 1 = .ok (.getfield 92, 3) := by decide +kernel
theorem dX0_writeKnot_4 : decode cX0_writeKnot 4 = .ok (.aload_n 0, 1) := by decide +kernel
theorem dX0_writeKnot_5 : decode cX0_writeKnot 5 = .ok (.getfield 18, 3) := by decide +kernel
theorem dX0_writeKnot_8 : decode cX0_writeKnot 8 = .ok (.arraylength, 1) := by decide +kernel
theorem dX0_writeKnot_9 : decode cX0_writeKnot 9 = .ok (.if_icmp .ge 24, 3) := by decide +kernel
theorem dX0_writeKnot_12 : decode cX0_writeKnot 12 = .ok (.aload_n 0, 1) := by decide +kernel
theorem dX0_writeKnot_13 : decode cX0_writeKnot 13 = .ok (.getfield 18, 3) := by decide +kernel
theorem dX0_writeKnot_16 : decode cX0_writeKnot 16 = .ok (.aload_n 0, 1) := by decide +kernel
theorem dX0_writeKnot_17 : decode cX0_writeKnot 17 = .ok (.getfield 92, 3) := by decide +kernel
theorem dX0_writeKnot_20 : decode cX0_writeKnot 20 = .ok (.iload_n 1, 1) := by decide +kernel
theorem dX0_writeKnot_21 : decode cX0_writeKnot 21 = .ok (.i2b, 1) := by decide +kernel
theorem dX0_writeKnot_22 : decode cX0_writeKnot 22 = .ok (.bastore, 1) := by decide +kernel
theorem dX0_writeKnot_23 : decode cX0_writeKnot 23 = .ok (.aload_n 0, 1) := by decide +kernel
theorem dX0_writeKnot_24 : decode cX0_writeKnot 24 = .ok (.dup, 1) := by decide +kernel
theorem dX0_writeKnot_25 : decode cX0_writeKnot 25 = .ok (.getfield 92, 3) := by decide +kernel
theorem dX0_writeKnot_28 : decode cX0_writeKnot 28 = .ok (.iconst 1, 1) := by decide +kernel
theorem dX0_writeKnot_29 : decode cX0_writeKnot 29 = .ok (.iadd, 1) := by decide +kernel
theorem dX0_writeKnot_30 : decode cX0_writeKnot 30 = .ok (.putfield 92, 3) := by decide +kernel
theorem dX0_writeKnot_33 : decode cX0_writeKnot 33 = .ok (.return_, 1) := by decide +kernel
theorem dX0_writeColour_0 : decode cX0_writeColour 0 = .ok (.iconst 0, 1) := by decide +kernel
theorem dX0_writeColour_1 : decode cX0_writeColour 1 = .ok (.istore_n 3, 1) := by decide +kernel
theorem dX0_writeColour_2 : decode cX0_writeColour 2 = .ok (.iload_n 3, 1) := by decide +kernel
theorem dX0_writeColour_3 : decode cX0_writeColour 3 = .ok (.iload_n 2, 1) := by decide +kernel
theorem dX0_writeColour_4 : decode cX0_writeColour 4 = .ok (.if_icmp .ge 14, 3) := by decide +kernel
theorem dX0_writeColour_7 : decode cX0_writeColour 7 = .ok (.aload_n 0, 1) := by decide +kernel
theorem dX0_writeColour_8 : decode cX0_writeColour 8 = .ok (.iload_n 1, 1) := by decide +kernel
theorem dX0_writeColour_9 : decode cX0_writeColour 9 = .ok (.invokevirtual 118, 3) := by decide +kernel
theorem dX0_writeColour_12 : decode cX0_writeColour 12 = .ok (.iinc 3 1, 3) := by decide +kernel
theorem dX0_writeColour_15 : decode cX0_writeColour 15 = .ok (.goto (-13), 3) := by decide +kernel
theorem dX0_writeColour_18 : decode cX0_writeColour 18 = .ok (.return_, 1) := by decide +kernel
theorem dX0_writeBackward_0 : decode cX0_writeBackward 0 = .ok (.iload_n 2, 1) := by decide +kernel
theorem dX0_writeBackward_1 : decode cX0_writeBackward 1 = .ok (.iconst 1, 1) := by decide +kernel
theorem dX0_writeBackward_2 : decode cX0_writeBackward 2 = .ok (.isub, 1) := by decide +kernel
theorem dX0_writeBackward_3 : decode cX0_writeBackward 3 = .ok (.istore_n 3, 1) := by decide +kernel
theorem dX0_writeBackward_4 : decode cX0_writeBackward 4 = .ok (.iload_n 3, 1) := by decide +kernel
theorem dX0_writeBackward_5 : decode cX0_writeBackward 5 = .ok (.ifCond .lt 20, 3) := by decide +kernel
theorem dX0_writeBackward_8 : decode cX0_writeBackward 8 = .ok (.aload_n 0, 1) := by decide +kernel
theorem dX0_writeBackward_9 : decode cX0_writeBackward 9 = .ok (.aload_n 0, 1) := by decide +kernel
theorem dX0_writeBackward_10 : decode cX0_writeBackward 10 = .ok (.iload_n 1, 1) := by decide +kernel
theorem dX0_writeBackward_11 : decode cX0_writeBackward 11 = .ok (.iload_n 3, 1) := by decide +kernel
theorem dX0_writeBackward_12 : decode cX0_writeBackward 12 = .ok (.iadd, 1) := by decide +kernel
theorem dX0_writeBackward_13 : decode cX0_writeBackward 13 = .ok (.invokevirtual 122, 3) := by decide +kernel
theorem dX0_writeBackward_16 : decode cX0_writeBackward 16 = .ok (.invokevirtual 118, 3) := by decide +kernel
theorem dX0_writeBackward_19 : decode cX0_writeBackward 19 = .ok (.iinc 3 (-1), 3) := by decide +kernel
theorem dX0_writeBackward_22 : decode cX0_writeBackward 22 = .ok (.goto (-18), 3) := by decide +kernel
theorem dX0_writeBackward_25 : decode cX0_writeBackward 25 = .ok (.return_, 1) := by decide +kernel
theorem dX0_writeAgain_0 : decode cX0_writeAgain 0 = .ok (.iconst 0, 1) := by decide +kernel
theorem dX0_writeAgain_1 : decode cX0_writeAgain 1 = .ok (.istore_n 3, 1) := by decide +kernel
theorem dX0_writeAgain_2 : decode cX0_writeAgain 2 = .ok (.iload_n 3, 1) := by decide +kernel
theorem dX0_writeAgain_3 : decode cX0_writeAgain 3 = .ok (.iload_n 2, 1) := by decide +kernel
theorem dX0_writeAgain_4 : decode cX0_writeAgain 4 = .ok (.if_icmp .ge 20, 3) := by decide +kernel
theorem dX0_writeAgain_7 : decode cX0_writeAgain 7 = .ok (.aload_n 0, 1) := by decide +kernel
theorem dX0_writeAgain_8 : decode cX0_writeAgain 8 = .ok (.aload_n 0, 1) := by decide +kernel
theorem dX0_writeAgain_9 : decode cX0_writeAgain 9 = .ok (.iload_n 1, 1) := by decide +kernel
theorem dX0_writeAgain_10 : decode cX0_writeAgain 10 = .ok (.iload_n 3, 1) := by decide +kernel
theorem dX0_writeAgain_11 : decode cX0_writeAgain 11 = .ok (.iadd, 1) := by decide +kernel
theorem dX0_writeAgain_12 : decode cX0_writeAgain 12 = .ok (.invokevirtual 122, 3) := by decide +kernel
theorem dX0_writeAgain_15 : decode cX0_writeAgain 15 = .ok (.invokevirtual 118, 3) := by decide +kernel
theorem dX0_writeAgain_18 : decode cX0_writeAgain 18 = .ok (.iinc 3 1, 3) := by decide +kernel
theorem dX0_writeAgain_21 : decode cX0_writeAgain 21 = .ok (.goto (-19), 3) := by decide +kernel
theorem dX0_writeAgain_24 : decode cX0_writeAgain 24 = .ok (.return_, 1) := by decide +kernel
theorem dX0_writeLike_0 : decode cX0_writeLike 0 = .ok (.iload_n 2, 1) := by decide +kernel
theorem dX0_writeLike_1 : decode cX0_writeLike 1 = .ok (.istore 4, 2) := by decide +kernel
theorem dX0_writeLike_3 : decode cX0_writeLike 3 = .ok (.iload 4, 2) := by decide +kernel
theorem dX0_writeLike_5 : decode cX0_writeLike 5 = .ok (.iload_n 3, 1) := by decide +kernel
theorem dX0_writeLike_6 : decode cX0_writeLike 6 = .ok (.if_icmp .ge 23, 3) := by decide +kernel
theorem dX0_writeLike_9 : decode cX0_writeLike 9 = .ok (.aload_n 0, 1) := by decide +kernel
theorem dX0_writeLike_10 : decode cX0_writeLike 10 = .ok (.aload_n 0, 1) := by decide +kernel
theorem dX0_writeLike_11 : decode cX0_writeLike 11 = .ok (.getfield 30, 3) := by decide +kernel
theorem dX0_writeLike_14 : decode cX0_writeLike 14 = .ok (.iload_n 1, 1) := by decide +kernel
theorem dX0_writeLike_15 : decode cX0_writeLike 15 = .ok (.iload 4, 2) := by decide +kernel
theorem dX0_writeLike_17 : decode cX0_writeLike 17 = .ok (.invokevirtual 125, 3) := by decide +kernel
theorem dX0_writeLike_20 : decode cX0_writeLike 20 = .ok (.invokevirtual 118, 3) := by decide +kernel
theorem dX0_writeLike_23 : decode cX0_writeLike 23 = .ok (.iinc 4 1, 3) := by decide +kernel
theorem dX0_writeLike_26 : decode cX0_writeLike 26 = .ok (.goto (-23), 3) := by decide +kernel
theorem dX0_writeLike_29 : decode cX0_writeLike 29 = .ok (.return_, 1) := by decide +kernel
theorem dX0_findMend_0 : decode cX0_findMend 0 = .ok (.aload_n 0, 1) := by decide +kernel
theorem dX0_findMend_1 : decode cX0_findMend 1 = .ok (.iload_n 1, 1) := by decide +kernel
theorem dX0_findMend_2 : decode cX0_findMend 2 = .ok (.invokevirtual 88, 3) := by decide +kernel
theorem dX0_findMend_5 : decode cX0_findMend 5 = .ok (.istore_n 2, 1) := by decide +kernel
theorem dX0_findMend_6 : decode cX0_findMend 6 = .ok (.iload_n 2, 1) := by decide +kernel
theorem dX0_findMend_7 : decode cX0_findMend 7 = .ok (.ifCond .ge 6, 3) := by decide +kernel
theorem dX0_findMend_10 : decode cX0_findMend 10 = .ok (.bipush (-6), 2) := by decide +kernel
theorem dX0_findMend_12 : decode cX0_findMend 12 = .ok (.ireturn, 1) := by decide +kernel
theorem dX0_findMend_13 : decode cX0_findMend 13 = .ok (.iload_n 2, 1) := by decide +kernel
theorem dX0_findMend_14 : decode cX0_findMend 14 = .ok (.aload_n 0, 1) := by decide +kernel
theorem dX0_findMend_15 : decode cX0_findMend 15 = .ok (.getfield 26, 3) := by decide +kernel
theorem dX0_findMend_18 : decode cX0_findMend 18 = .ok (.if_icmp .ne 6, 3) := by decide +kernel
theorem dX0_findMend_21 : decode cX0_findMend 21 = .ok (.bipush (-4), 2) := by decide +kernel
theorem dX0_findMend_23 : decode cX0_findMend 23 = .ok (.ireturn, 1) := by decide +kernel
theorem dX0_findMend_24 : decode cX0_findMend 24 = .ok (.aload_n 0, 1) := by decide +kernel
theorem dX0_findMend_25 : decode cX0_findMend 25 = .ok (.getfield 12, 3) := by decide +kernel
theorem dX0_findMend_28 : decode cX0_findMend 28 = .ok (.iload_n 1, 1) := by decide +kernel
theorem dX0_findMend_29 : decode cX0_findMend 29 = .ok (.invokevirtual 42, 3) := by decide +kernel
theorem dX0_findMend_32 : decode cX0_findMend 32 = .ok (.checkcast 46, 3) := by decide +kernel
theorem dX0_findMend_35 : decode cX0_findMend 35 = .ok (.getfield 48, 3) := by decide +kernel
theorem dX0_findMend_38 : decode cX0_findMend 38 = .ok (.invokevirtual 34, 3) := by decide +kernel
theorem dX0_findMend_41 : decode cX0_findMend 41 = .ok (.istore_n 3, 1) := by decide +kernel
theorem dX0_findMend_42 : decode cX0_findMend 42 = .ok (.iconst 1, 1) := by decide +kernel
theorem dX0_findMend_43 : decode cX0_findMend 43 = .ok (.istore 4, 2) := by decide +kernel
theorem dX0_findMend_45 : decode cX0_findMend 45 = .ok (.iload 4, 2) := by decide +kernel
theorem dX0_findMend_47 : decode cX0_findMend 47 = .ok (.bipush 40, 2) := by decide +kernel
theorem dX0_findMend_49 : decode cX0_findMend 49 = .ok (.if_icmp .ge 51, 3) := by decide +kernel
theorem dX0_findMend_52 : decode cX0_findMend 52 = .ok (.iconst 0, 1) := by decide +kernel
theorem dX0_findMend_53 : decode cX0_findMend 53 = .ok (.istore 5, 2) := by decide +kernel
theorem dX0_findMend_55 : decode cX0_findMend 55 = .ok (.iload 5, 2) := by decide +kernel
theorem dX0_findMend_57 : decode cX0_findMend 57 = .ok (.iload_n 3, 1) := by decide +kernel
theorem dX0_findMend_58 : decode cX0_findMend 58 = .ok (.if_icmp .ge 36, 3) := by decide +kernel
theorem dX0_findMend_61 : decode cX0_findMend 61 = .ok (.aload_n 0, 1) := by decide +kernel
theorem dX0_findMend_62 : decode cX0_findMend 62 = .ok (.iload_n 1, 1) := by decide +kernel
theorem dX0_findMend_63 : decode cX0_findMend 63 = .ok (.iload 5, 2) := by decide +kernel
theorem dX0_findMend_65 : decode cX0_findMend 65 = .ok (.iload 4, 2) := by decide +kernel
theorem dX0_findMend_67 : decode cX0_findMend 67 = .ok (.ineg, 1) := by decide +kernel
theorem dX0_findMend_68 : decode cX0_findMend 68 = .ok (.invokevirtual 130, 3) := by decide +kernel
theorem dX0_findMend_71 : decode cX0_findMend 71 = .ok (.ifCond .ne 15, 3) := by decide +kernel
theorem dX0_findMend_74 : decode cX0_findMend 74 = .ok (.aload_n 0, 1) := by decide +kernel
theorem dX0_findMend_75 : decode cX0_findMend 75 = .ok (.iload_n 1, 1) := by decide +kernel
theorem dX0_findMend_76 : decode cX0_findMend 76 = .ok (.iload 5, 2) := by decide +kernel
theorem dX0_findMend_78 : decode cX0_findMend 78 = .ok (.iload 4, 2) := by decide +kernel
theorem dX0_findMend_80 : decode cX0_findMend 80 = .ok (.invokevirtual 130, 3) := by decide +kernel
theorem dX0_findMend_83 : decode cX0_findMend 83 = .ok (.ifCond .eq 5, 3) := by decide +kernel
theorem dX0_findMend_86 : decode cX0_findMend 86 = .ok (.iconst 0, 1) := by decide +kernel
theorem dX0_findMend_87 : decode cX0_findMend 87 = .ok (.ireturn, 1) := by decide +kernel
theorem dX0_findMend_88 : decode cX0_findMend 88 = .ok (.iinc 5 1, 3) := by decide +kernel
theorem dX0_findMend_91 : decode cX0_findMend 91 = .ok (.goto (-36), 3) := by decide +kernel
theorem dX0_findMend_94 : decode cX0_findMend 94 = .ok (.iinc 4 1, 3) := by decide +kernel
theorem dX0_findMend_97 : decode cX0_findMend 97 = .ok (.goto (-52), 3) := by decide +kernel
theorem dX0_findMend_100 : decode cX0_findMend 100 = .ok (.bipush (-4), 2) := by decide +kernel
theorem dX0_findMend_102 : decode cX0_findMend 102 = .ok (.ireturn, 1) := by decide +kernel
theorem dX0_isMendedBy_0 : decode cX0_isMendedBy 0 = .ok (.aload_n 0, 1) := by decide +kernel
theorem dX0_isMendedBy_1 : decode cX0_isMendedBy 1 = .ok (.iload_n 1, 1) := by decide +kernel
theorem dX0_isMendedBy_2 : decode cX0_isMendedBy 2 = .ok (.iload_n 2, 1) := by decide +kernel
theorem dX0_isMendedBy_3 : decode cX0_isMendedBy 3 = .ok (.invokevirtual 134, 3) := by decide +kernel
theorem dX0_isMendedBy_6 : decode cX0_isMendedBy 6 = .ok (.astore 4, 2) := by decide +kernel
theorem dX0_isMendedBy_8 : decode cX0_isMendedBy 8 = .ok (.aload 4, 2) := by decide +kernel
theorem dX0_isMendedBy_10 : decode cX0_isMendedBy 10 = .ok (.getfield 76, 3) := by decide +kernel
theorem dX0_isMendedBy_13 : decode cX0_isMendedBy 13 = .ok (.ifCond .ne 19, 3) := by decide +kernel
theorem dX0_isMendedBy_16 : decode cX0_isMendedBy 16 = .ok (.aload 4, 2) := by decide +kernel
theorem dX0_isMendedBy_18 : decode cX0_isMendedBy 18 = .ok (.getfield 79, 3) := by decide +kernel
theorem dX0_isMendedBy_21 : decode cX0_isMendedBy 21 = .ok (.iload_n 3, 1) := by decide +kernel
theorem dX0_isMendedBy_22 : decode cX0_isMendedBy 22 = .ok (.iadd, 1) := by decide +kernel
theorem dX0_isMendedBy_23 : decode cX0_isMendedBy 23 = .ok (.iconst 1, 1) := by decide +kernel
theorem dX0_isMendedBy_24 : decode cX0_isMendedBy 24 = .ok (.bipush 40, 2) := by decide +kernel
theorem dX0_isMendedBy_26 : decode cX0_isMendedBy 26 = .ok (.invokestatic 138, 3) := by decide +kernel
theorem dX0_isMendedBy_29 : decode cX0_isMendedBy 29 = .ok (.ifCond .ne 5, 3) := by decide +kernel
theorem dX0_isMendedBy_32 : decode cX0_isMendedBy 32 = .ok (.iconst 0, 1) := by decide +kernel
theorem dX0_isMendedBy_33 : decode cX0_isMendedBy 33 = .ok (.ireturn, 1) := by decide +kernel
theorem dX0_isMendedBy_34 : decode cX0_isMendedBy 34 = .ok (.aload 4, 2) := by decide +kernel
theorem dX0_isMendedBy_36 : decode cX0_isMendedBy 36 = .ok (.getfield 79, 3) := by decide +kernel
theorem dX0_isMendedBy_39 : decode cX0_isMendedBy 39 = .ok (.istore 5, 2) := by decide +kernel
theorem dX0_isMendedBy_41 : decode cX0_isMendedBy 41 = .ok (.iload 5, 2) := by decide +kernel
theorem dX0_isMendedBy_43 : decode cX0_isMendedBy 43 = .ok (.iload_n 3, 1) := by decide +kernel
theorem dX0_isMendedBy_44 : decode cX0_isMendedBy 44 = .ok (.iadd, 1) := by decide +kernel
theorem dX0_isMendedBy_45 : decode cX0_isMendedBy 45 = .ok (.istore 6, 2) := by decide +kernel
theorem dX0_isMendedBy_47 : decode cX0_isMendedBy 47 = .ok (.aload 4, 2) := by decide +kernel
theorem dX0_isMendedBy_49 : decode cX0_isMendedBy 49 = .ok (.iload 6, 2) := by decide +kernel
theorem dX0_isMendedBy_51 : decode cX0_isMendedBy 51 = .ok (.putfield 79, 3) := by decide +kernel
theorem dX0_isMendedBy_54 : decode cX0_isMendedBy 54 = .ok (.aload_n 0, 1) := by decide +kernel
theorem dX0_isMendedBy_55 : decode cX0_isMendedBy 55 = .ok (.iload_n 1, 1) := by decide +kernel
theorem dX0_isMendedBy_56 : decode cX0_isMendedBy 56 = .ok (.invokevirtual 88, 3) := by decide +kernel
theorem dX0_isMendedBy_59 : decode cX0_isMendedBy 59 = .ok (.aload_n 0, 1) := by decide +kernel
theorem dX0_isMendedBy_60 : decode cX0_isMendedBy 60 = .ok (.getfield 26, 3) := by decide +kernel
theorem dX0_isMendedBy_63 : decode cX0_isMendedBy 63 = .ok (.if_icmp .ne 7, 3) := by decide +kernel
theorem dX0_isMendedBy_66 : decode cX0_isMendedBy 66 = .ok (.iconst 1, 1) := by decide +kernel
theorem dX0_isMendedBy_67 : decode cX0_isMendedBy 67 = .ok (.goto 4, 3) := by decide +kernel
theorem dX0_isMendedBy_70 : decode cX0_isMendedBy 70 = .ok (.iconst 0, 1) := by decide +kernel
theorem dX0_isMendedBy_71 : decode cX0_isMendedBy 71 = .ok (.istore 7, 2) := by decide +kernel
theorem dX0_isMendedBy_73 : decode cX0_isMendedBy 73 = .ok (.aload 4, 2) := by decide +kernel
theorem dX0_isMendedBy_75 : decode cX0_isMendedBy 75 = .ok (.iload 5, 2) := by decide +kernel
theorem dX0_isMendedBy_77 : decode cX0_isMendedBy 77 = .ok (.putfield 79, 3) := by decide +kernel
theorem dX0_isMendedBy_80 : decode cX0_isMendedBy 80 = .ok (.iload 7, 2) := by decide +kernel
theorem dX0_isMendedBy_82 : decode cX0_isMendedBy 82 = .ok (.ifCond .eq 14, 3) := by decide +kernel
theorem dX0_isMendedBy_85 : decode cX0_isMendedBy 85 = .ok (.aload_n 0, 1) := by decide +kernel
theorem dX0_isMendedBy_86 : decode cX0_isMendedBy 86 = .ok (.iload_n 2, 1) := by decide +kernel
theorem dX0_isMendedBy_87 : decode cX0_isMendedBy 87 = .ok (.putfield 141, 3) := by decide +kernel
theorem dX0_isMendedBy_90 : decode cX0_isMendedBy 90 = .ok (.aload_n 0, 1) := by decide +kernel
theorem dX0_isMendedBy_91 : decode cX0_isMendedBy 91 = .ok (.iload 6, 2) := by decide +kernel
theorem dX0_isMendedBy_93 : decode cX0_isMendedBy 93 = .ok (.putfield 144, 3) := by decide +kernel
theorem dX0_isMendedBy_96 : decode cX0_isMendedBy 96 = .ok (.iload 7, 2) := by decide +kernel
theorem dX0_isMendedBy_98 : decode cX0_isMendedBy 98 = .ok (.ireturn, 1) := by decide +kernel
theorem dX0_mendAsFound_0 : decode cX0_mendAsFound 0 = .ok (.aload_n 0, 1) := by decide +kernel
theorem dX0_mendAsFound_1 : decode cX0_mendAsFound 1 = .ok (.iload_n 1, 1) := by decide +kernel
theorem dX0_mendAsFound_2 : decode cX0_mendAsFound 2 = .ok (.aload_n 0, 1) := by decide +kernel
theorem dX0_mendAsFound_3 : decode cX0_mendAsFound 3 = .ok (.getfield 141, 3) := by decide +kernel
theorem dX0_mendAsFound_6 : decode cX0_mendAsFound 6 = .ok (.invokevirtual 147, 3) := by decide +kernel
theorem dX0_mendAsFound_9 : decode cX0_mendAsFound 9 = .ok (.ifCond .eq 19, 3) := by decide +kernel
theorem dX0_mendAsFound_12 : decode cX0_mendAsFound 12 = .ok (.aload_n 0, 1) := by decide +kernel
theorem dX0_mendAsFound_13 : decode cX0_mendAsFound 13 = .ok (.iload_n 1, 1) := by decide +kernel
theorem dX0_mendAsFound_14 : decode cX0_mendAsFound 14 = .ok (.aload_n 0, 1) := by decide +kernel
theorem dX0_mendAsFound_15 : decode cX0_mendAsFound 15 = .ok (.getfield 141, 3) := by decide +kernel
theorem dX0_mendAsFound_18 : decode cX0_mendAsFound 18 = .ok (.invokevirtual 134, 3) := by decide +kernel
theorem dX0_mendAsFound_21 : decode cX0_mendAsFound 21 = .ok (.aload_n 0, 1) := by decide +kernel
theorem dX0_mendAsFound_22 : decode cX0_mendAsFound 22 = .ok (.getfield 144, 3) := by decide +kernel
theorem dX0_mendAsFound_25 : decode cX0_mendAsFound 25 = .ok (.putfield 79, 3) := by decide +kernel
theorem dX0_mendAsFound_28 : decode cX0_mendAsFound 28 = .ok (.return_, 1) := by decide +kernel
end
section
theorem dX1_init_0 : decode cX1_init 0 = .ok (.aload_n 0, 1) := by decide +kernel
theorem dX1_init_1 : decode cX1_init 1 = .ok (.invokespecial 3, 3) := by decide +kernel
theorem dX1_init_4 : decode cX1_init 4 = .ok (.aload_n 0, 1) := by decide +kernel
theorem dX1_init_5 : decode cX1_init 5 = .ok (.bipush 6, 2) := by decide +kernel
theorem dX1_init_7 : decode cX1_init 7 = .ok (.newarray .int, 2) := by decide +kernel
theorem dX1_init_9 : decode cX1_init 9 = .ok (.putfield 9, 3) := by decide +kernel
theorem dX1_init_12 : decode cX1_init 12 = .ok (.aload_n 0, 1) := by decide +kernel
theorem dX1_init_13 : decode cX1_init 13 = .ok (.bipush 6, 2) := by decide +kernel
theorem dX1_init_15 : decode cX1_init 15 = .ok (.newarray .int, 2) := by decide +kernel
theorem dX1_init_17 : decode cX1_init 17 = .ok (.putfield 15, 3) := by decide +kernel
theorem dX1_init_20 : decode cX1_init 20 = .ok (.aload_n 0, 1) := by decide +kernel
theorem dX1_init_21 : decode cX1_init 21 = .ok (.bipush 8, 2) := by decide +kernel
theorem dX1_init_23 : decode cX1_init 23 = .ok (.anewarray 18, 3) := by decide +kernel
theorem dX1_init_26 : decode cX1_init 26 = .ok (.putfield 20, 3) := by decide +kernel
theorem dX1_init_29 : decode cX1_init 29 = .ok (.aload_n 0, 1) := by decide +kernel
theorem dX1_init_30 : decode cX1_init 30 = .ok (.bipush 40, 2) := by decide +kernel
theorem dX1_init_32 : decode cX1_init 32 = .ok (.anewarray 24, 3) := by decide +kernel
theorem dX1_init_35 : decode cX1_init 35 = .ok (.putfield 26, 3) := by decide +kernel
theorem dX1_init_38 : decode cX1_init 38 = .ok (.aload_n 0, 1) := by decide +kernel
theorem dX1_init_39 : decode cX1_init 39 = .ok (.iload_n 1, 1) := by decide +kernel
theorem dX1_init_40 : decode cX1_init 40 = .ok (.putfield 30, 3) := by decide +kernel
theorem dX1_init_43 : decode cX1_init 43 = .ok (.iconst 0, 1) := by decide +kernel
theorem dX1_init_44 : decode cX1_init 44 = .ok (.istore_n 2, 1) := by decide +kernel
theorem dX1_init_45 : decode cX1_init 45 = .ok (.iload_n 2, 1) := by decide +kernel
theorem dX1_init_46 : decode cX1_init 46 = .ok (.bipush 6, 2) := by decide +kernel
theorem dX1_init_48 : decode cX1_init 48 = .ok (.if_icmp .ge 24, 3) := by decide +kernel
theorem dX1_init_51 : decode cX1_init 51 = .ok (.aload_n 0, 1) := by decide +kernel
theorem dX1_init_52 : decode cX1_init 52 = .ok (.getfield 9, 3) := by decide +kernel
theorem dX1_init_55 : decode cX1_init 55 = .ok (.iload_n 2, 1) := by decide +kernel
theorem dX1_init_56 : decode cX1_init 56 = .ok (.bipush 8, 2) := by decide +kernel
theorem dX1_init_58 : decode cX1_init 58 = .ok (.iastore, 1) := by decide +kernel
theorem dX1_init_59 : decode cX1_init 59 = .ok (.aload_n 0, 1) := by decide +kernel
theorem dX1_init_60 : decode cX1_init 60 = .ok (.getfield 15, 3) := by decide +kernel
theorem dX1_init_63 : decode cX1_init 63 = .ok (.iload_n 2, 1) := by decide +kernel
theorem dX1_init_64 : decode cX1_init 64 = .ok (.iconst 5, 1) := by decide +kernel
theorem dX1_init_65 : decode cX1_init 65 = .ok (.iastore, 1) := by decide +kernel
theorem dX1_init_66 : decode cX1_init 66 = .ok (.iinc 2 1, 3) := by decide +kernel
theorem dX1_init_69 : decode cX1_init 69 = .ok (.goto (-24), 3) := by decide +kernel
theorem dX1_init_72 : decode cX1_init 72 = .ok (.iconst 0, 1) := by decide +kernel
theorem dX1_init_73 : decode cX1_init 73 = .ok (.istore_n 2, 1) := by decide +kernel
theorem dX1_init_74 : decode cX1_init 74 = .ok (.iload_n 2, 1) := by decide +kernel
theorem dX1_init_75 : decode cX1_init 75 = .ok (.bipush 8, 2) := by decide +kernel
theorem dX1_init_77 : decode cX1_init 77 = .ok (.if_icmp .ge 22, 3) := by decide +kernel
theorem dX1_init_80 : decode cX1_init 80 = .ok (.aload_n 0, 1) := by decide +kernel
theorem dX1_init_81 : decode cX1_init 81 = .ok (.getfield 20, 3) := by decide +kernel
theorem dX1_init_84 : decode cX1_init 84 = .ok (.iload_n 2, 1) := by decide +kernel
theorem dX1_init_85 : decode cX1_init 85 = .ok (.new 18, 3) := by decide +kernel
theorem dX1_init_88 : decode cX1_init 88 = .ok (.dup, 1) := by decide +kernel
theorem dX1_init_89 : decode cX1_init 89 = .ok (.invokespecial 34, 3) := by decide +kernel
theorem dX1_init_92 : decode cX1_init 92 = .ok (.aastore, 1) := by decide +kernel
theorem dX1_init_93 : decode cX1_init 93 = .ok (.iinc 2 1, 3) := by decide +kernel
theorem dX1_init_96 : decode cX1_init 96 = .ok (.goto (-22), 3) := by decide +kernel
theorem dX1_init_99 : decode cX1_init 99 = .ok (.iconst 0, 1) := by decide +kernel
theorem dX1_init_100 : decode cX1_init 100 = .ok (.istore_n 2, 1) := by decide +kernel
theorem dX1_init_101 : decode cX1_init 101 = .ok (.iload_n 2, 1) := by decide +kernel
theorem dX1_init_102 : decode cX1_init 102 = .ok (.bipush 40, 2) := by decide +kernel
theorem dX1_init_104 : decode cX1_init 104 = .ok (.if_icmp .ge 23, 3) := by decide +kernel
theorem dX1_init_107 : decode cX1_init 107 = .ok (.aload_n 0, 1) := by decide +kernel
theorem dX1_init_108 : decode cX1_init 108 = .ok (.getfield 26, 3) := by decide +kernel
theorem dX1_init_111 : decode cX1_init 111 = .ok (.iload_n 2, 1) := by decide +kernel
theorem dX1_init_112 : decode cX1_init 112 = .ok (.new 24, 3) := by decide +kernel
theorem dX1_init_115 : decode cX1_init 115 = .ok (.dup, 1) := by decide +kernel
theorem dX1_init_116 : decode cX1_init 116 = .ok (.iload_n 1, 1) := by decide +kernel
theorem dX1_init_117 : decode cX1_init 117 = .ok (.invokespecial 35, 3) := by decide +kernel
theorem dX1_init_120 : decode cX1_init 120 = .ok (.aastore, 1) := by decide +kernel
theorem dX1_init_121 : decode cX1_init 121 = .ok (.iinc 2 1, 3) := by decide +kernel
theorem dX1_init_124 : decode cX1_init 124 = .ok (.goto (-23), 3) := by decide +kernel
theorem dX1_init_127 : decode cX1_init 127 = .ok (.return_, 1) := by decide +kernel
theorem dX1_hasRow_0 : decode cX1_hasRow 0 = .ok (.iload_n 1, 1) := by decide +kernel
theorem dX1_hasRow_1 : decode cX1_hasRow 1 = .ok (.ifCond .lt 15, 3) := by decide +kernel
theorem dX1_hasRow_4 : decode cX1_hasRow 4 = .ok (.iload_n 1, 1) := by decide +kernel
theorem dX1_hasRow_5 : decode cX1_hasRow 5 = .ok (.aload_n 0, 1) := by decide +kernel
theorem dX1_hasRow_6 : decode cX1_hasRow 6 = .ok (.getfield 38, 3) := by decide +kernel
theorem dX1_hasRow_9 : decode cX1_hasRow 9 = .ok (.if_icmp .ge 7, 3) := by decide +kernel
theorem dX1_hasRow_12 : decode cX1_hasRow 12 = .ok (.iconst 1, 1) := by decide +kernel
theorem dX1_hasRow_13 : decode cX1_hasRow 13 = .ok (.goto 4, 3) := by decide +kernel
theorem dX1_hasRow_16 : decode cX1_hasRow 16 = .ok (.iconst 0, 1) := by decide +kernel
theorem dX1_hasRow_17 : decode cX1_hasRow 17 = .ok (.ireturn, 1) := by decide +kernel
theorem dX1_hasKnot_0 : decode cX1_hasKnot 0 = .ok (.aload_n 0, 1) := by decide +kernel
theorem dX1_hasKnot_1 : decode cX1_hasKnot 1 = .ok (.iload_n 1, 1) := by decide +kernel
theorem dX1_hasKnot_2 : decode cX1_hasKnot 2 = .ok (.invokevirtual 41, 3) := by decide +kernel
theorem dX1_hasKnot_5 : decode cX1_hasKnot 5 = .ok (.ifCond .eq 19, 3) := by decide +kernel
theorem dX1_hasKnot_8 : decode cX1_hasKnot 8 = .ok (.iload_n 2, 1) := by decide +kernel
theorem dX1_hasKnot_9 : decode cX1_hasKnot 9 = .ok (.ifCond .lt 15, 3) := by decide +kernel
theorem dX1_hasKnot_12 : decode cX1_hasKnot 12 = .ok (.iload_n 2, 1) := by decide +kernel
theorem dX1_hasKnot_13 : decode cX1_hasKnot 13 = .ok (.aload_n 0, 1) := by decide +kernel
theorem dX1_hasKnot_14 : decode cX1_hasKnot 14 = .ok (.getfield 30, 3) := by decide +kernel
theorem dX1_hasKnot_17 : decode cX1_hasKnot 17 = .ok (.if_icmp .ge 7, 3) := by decide +kernel
theorem dX1_hasKnot_20 : decode cX1_hasKnot 20 = .ok (.iconst 1, 1) := by decide +kernel
theorem dX1_hasKnot_21 : decode cX1_hasKnot 21 = .ok (.goto 4, 3) := by decide +kernel
theorem dX1_hasKnot_24 : decode cX1_hasKnot 24 = .ok (.iconst 0, 1) := by decide +kernel
theorem dX1_hasKnot_25 : decode cX1_hasKnot 25 = .ok (.ireturn, 1) := by decide +kernel
theorem dX1_setHand_0 : decode cX1_setHand 0 = .ok (.aload_n 0, 1) := by decide +kernel
theorem dX1_setHand_1 : decode cX1_setHand 1 = .ok (.getfield 9, 3) := by decide +kernel
theorem dX1_setHand_4 : decode cX1_setHand 4 = .ok (.iload_n 1, 1) := by decide +kernel
theorem dX1_setHand_5 : decode cX1_setHand 5 = .ok (.iaload, 1) := by decide +kernel
theorem dX1_setHand_6 : decode cX1_setHand 6 = .ok (.iload_n 2, 1) := by decide +kernel
theorem dX1_setHand_7 : decode cX1_setHand 7 = .ok (.if_icmp .ne 13, 3) := by decide +kernel
theorem dX1_setHand_10 : decode cX1_setHand 10 = .ok (.aload_n 0, 1) := by decide +kernel
theorem dX1_setHand_11 : decode cX1_setHand 11 = .ok (.getfield 15, 3) := by decide +kernel
theorem dX1_setHand_14 : decode cX1_setHand 14 = .ok (.iload_n 1, 1) := by decide +kernel
theorem dX1_setHand_15 : decode cX1_setHand 15 = .ok (.iaload, 1) := by decide +kernel
theorem dX1_setHand_16 : decode cX1_setHand 16 = .ok (.iload_n 3, 1) := by decide +kernel
theorem dX1_setHand_17 : decode cX1_setHand 17 = .ok (.if_icmp .eq 7, 3) := by decide +kernel
theorem dX1_setHand_20 : decode cX1_setHand 20 = .ok (.iconst 1, 1) := by decide +kernel
theorem dX1_setHand_21 : decode cX1_setHand 21 = .ok (.goto 4, 3) := by decide +kernel
theorem dX1_setHand_24 : decode cX1_setHand 24 = .ok (.iconst 0, 1) := by decide +kernel
theorem dX1_setHand_25 : decode cX1_setHand 25 = .ok (.istore 4, 2) := by decide +kernel
theorem dX1_setHand_27 : decode cX1_setHand 27 = .ok (.aload_n 0, 1) := by decide +kernel
theorem dX1_setHand_28 : decode cX1_setHand 28 = .ok (.getfield 9, 3) := by decide +kernel
theorem dX1_setHand_31 : decode cX1_setHand 31 = .ok (.iload_n 1, 1) := by decide +kernel
theorem dX1_setHand_32 : decode cX1_setHand 32 = .ok (.iload_n 2, 1) := by decide +kernel
theorem dX1_setHand_33 : decode cX1_setHand 33 = .ok (.iastore, 1) := by decide +kernel
theorem dX1_setHand_34 : decode cX1_setHand 34 = .ok (.aload_n 0, 1) := by decide +kernel
theorem dX1_setHand_35 : decode cX1_setHand 35 = .ok (.getfield 15, 3) := by decide +kernel
theorem dX1_setHand_38 : decode cX1_setHand 38 = .ok (.iload_n 1, 1) := by decide +kernel
theorem dX1_setHand_39 : decode cX1_setHand 39 = .ok (.iload_n 3, 1) := by decide +kernel
theorem dX1_setHand_40 : decode cX1_setHand 40 = .ok (.iastore, 1) := by decide +kernel
theorem dX1_setHand_41 : decode cX1_setHand 41 = .ok (.iload 4, 2) := by decide +kernel
theorem dX1_setHand_43 : decode cX1_setHand 43 = .ok (.ireturn, 1) := by decide +kernel
theorem dX1_handAt_0 : decode cX1_handAt 0 = .ok (.iconst 0, 1) := by decide +kernel
theorem dX1_handAt_1 : decode cX1_handAt 1 = .ok (.istore_n 2, 1) := by decide +kernel
theorem dX1_handAt_2 : decode cX1_handAt 2 = .ok (.iconst 0, 1) := by decide +kernel
theorem dX1_handAt_3 : decode cX1_handAt 3 = .ok (.istore_n 3, 1) := by decide +kernel
theorem dX1_handAt_4 : decode cX1_handAt 4 = .ok (.iload_n 3, 1) := by decide +kernel
theorem dX1_handAt_5 : decode cX1_handAt 5 = .ok (.bipush 6, 2) := by decide +kernel
theorem dX1_handAt_7 : decode cX1_handAt 7 = .ok (.if_icmp .ge 25, 3) := by decide +kernel
theorem dX1_handAt_10 : decode cX1_handAt 10 = .ok (.iload_n 2, 1) := by decide +kernel
theorem dX1_handAt_11 : decode cX1_handAt 11 = .ok (.aload_n 0, 1) := by decide +kernel
theorem dX1_handAt_12 : decode cX1_handAt 12 = .ok (.getfield 9, 3) := by decide +kernel
theorem dX1_handAt_15 : decode cX1_handAt 15 = .ok (.iload_n 3, 1) := by decide +kernel
theorem dX1_handAt_16 : decode cX1_handAt 16 = .ok (.iaload, 1) := by decide +kernel
theorem dX1_handAt_17 : decode cX1_handAt 17 = .ok (.iadd, 1) := by decide +kernel
theorem dX1_handAt_18 : decode cX1_handAt 18 = .ok (.istore_n 2, 1) := by decide +kernel
theorem dX1_handAt_19 : decode cX1_handAt 19 = .ok (.iload_n 1, 1) := by decide +kernel
theorem dX1_handAt_20 : decode cX1_handAt 20 = .ok (.iload_n 2, 1) := by decide +kernel
theorem dX1_handAt_21 : decode cX1_handAt 21 = .ok (.if_icmp .ge 5, 3) := by decide +kernel
theorem dX1_handAt_24 : decode cX1_handAt 24 = .ok (.iload_n 3, 1) := by decide +kernel
theorem dX1_handAt_25 : decode cX1_handAt 25 = .ok (.ireturn, 1) := by decide +kernel
theorem dX1_handAt_26 : decode cX1_handAt 26 = .ok (.iinc 3 1, 3) := by decide +kernel
theorem dX1_handAt_29 : decode cX1_handAt 29 = .ok (.goto (-25), 3) := by decide +kernel
theorem dX1_handAt_32 : decode cX1_handAt 32 = .ok (.iconst 5, 1) := by decide +kernel
theorem dX1_handAt_33 : decode cX1_handAt 33 = .ok (.ireturn, 1) := by decide +kernel
theorem dX1_colourBelow_0 : decode cX1_colourBelow 0 = .ok (.aload_n 0, 1) := by decide +kernel
theorem dX1_colourBelow_1 : decode cX1_colourBelow 1 = .ok (.aload_n 0, 1) := by decide +kernel
theorem dX1_colourBelow_2 : decode cX1_colourBelow 2 = .ok (.getfield 38, 3) := by decide +kernel
theorem dX1_colourBelow_5 : decode cX1_colourBelow 5 = .ok (.iload_n 1, 1) := by decide +kernel
theorem dX1_colourBelow_6 : decode cX1_colourBelow 6 = .ok (.isub, 1) := by decide +kernel
theorem dX1_colourBelow_7 : decode cX1_colourBelow 7 = .ok (.iload_n 2, 1) := by decide +kernel
theorem dX1_colourBelow_8 : decode cX1_colourBelow 8 = .ok (.invokevirtual 45, 3) := by decide +kernel
theorem dX1_colourBelow_11 : decode cX1_colourBelow 11 = .ok (.ifCond .eq 22, 3) := by decide +kernel
theorem dX1_colourBelow_14 : decode cX1_colourBelow 14 = .ok (.aload_n 0, 1) := by decide +kernel
theorem dX1_colourBelow_15 : decode cX1_colourBelow 15 = .ok (.getfield 26, 3) := by decide +kernel
theorem dX1_colourBelow_18 : decode cX1_colourBelow 18 = .ok (.aload_n 0, 1) := by decide +kernel
theorem dX1_colourBelow_19 : decode cX1_colourBelow 19 = .ok (.getfield 38, 3) := by decide +kernel
theorem dX1_colourBelow_22 : decode cX1_colourBelow 22 = .ok (.iload_n 1, 1) := by decide +kernel
theorem dX1_colourBelow_23 : decode cX1_colourBelow 23 = .ok (.isub, 1) := by decide +kernel
theorem dX1_colourBelow_24 : decode cX1_colourBelow 24 = .ok (.aaload, 1) := by decide +kernel
theorem dX1_colourBelow_25 : decode cX1_colourBelow 25 = .ok (.getfield 49, 3) := by decide +kernel
theorem dX1_colourBelow_28 : decode cX1_colourBelow 28 = .ok (.iload_n 2, 1) := by decide +kernel
theorem dX1_colourBelow_29 : decode cX1_colourBelow 29 = .ok (.baload, 1) := by decide +kernel
theorem dX1_colourBelow_30 : decode cX1_colourBelow 30 = .ok (.goto 4, 3) := by decide +kernel
theorem dX1_colourBelow_33 : decode cX1_colourBelow 33 = .ok (.iconst 0, 1) := by decide +kernel
theorem dX1_colourBelow_34 : decode cX1_colourBelow 34 = .ok (.ireturn, 1) := by decide +kernel
theorem dX1_tieRow_0 : decode cX1_tieRow 0 = .ok (.aload_n 0, 1) := by decide +kernel
theorem dX1_tieRow_1 : decode cX1_tieRow 1 = .ok (.getfield 38, 3) := by decide +kernel
theorem dX1_tieRow_4 : decode cX1_tieRow 4 = .ok (.bipush 40, 2) := by decide +kernel
theorem dX1_tieRow_6 : decode cX1_tieRow 6 = .ok (.if_icmp .lt 6, 3) := by decide +kernel
theorem dX1_tieRow_9 : decode cX1_tieRow 9 = .ok (.bipush (-2), 2) := by decide +kernel
theorem dX1_tieRow_11 : decode cX1_tieRow 11 = .ok (.ireturn, 1) := by decide +kernel
theorem dX1_tieRow_12 : decode cX1_tieRow 12 = .ok (.iconst 0, 1) := by decide +kernel
theorem dX1_tieRow_13 : decode cX1_tieRow 13 = .ok (.istore_n 2, 1) := by decide +kernel
theorem dX1_tieRow_14 : decode cX1_tieRow 14 = .ok (.iload_n 2, 1) := by decide +kernel
theorem dX1_tieRow_15 : decode cX1_tieRow 15 = .ok (.bipush 8, 2) := by decide +kernel
theorem dX1_tieRow_17 : decode cX1_tieRow 17 = .ok (.if_icmp .ge 30, 3) := by decide +kernel
theorem dX1_tieRow_20 : decode cX1_tieRow 20 = .ok (.aload_n 0, 1) := by decide +kernel
theorem dX1_tieRow_21 : decode cX1_tieRow 21 = .ok (.aload_n 1, 1) := by decide +kernel
theorem dX1_tieRow_22 : decode cX1_tieRow 22 = .ok (.iload_n 2, 1) := by decide +kernel
theorem dX1_tieRow_23 : decode cX1_tieRow 23 = .ok (.invokevirtual 53, 3) := by decide +kernel
theorem dX1_tieRow_26 : decode cX1_tieRow 26 = .ok (.aload_n 0, 1) := by decide +kernel
theorem dX1_tieRow_27 : decode cX1_tieRow 27 = .ok (.getfield 20, 3) := by decide +kernel
theorem dX1_tieRow_30 : decode cX1_tieRow 30 = .ok (.iload_n 2, 1) := by decide +kernel
theorem dX1_tieRow_31 : decode cX1_tieRow 31 = .ok (.aaload, 1) := by decide +kernel
theorem dX1_tieRow_32 : decode cX1_tieRow 32 = .ok (.invokevirtual 57, 3) := by decide +kernel
theorem dX1_tieRow_35 : decode cX1_tieRow 35 = .ok (.if_icmp .le 6, 3) := by decide +kernel
theorem dX1_tieRow_38 : decode cX1_tieRow 38 = .ok (.bipush (-5), 2) := by decide +kernel
theorem dX1_tieRow_40 : decode cX1_tieRow 40 = .ok (.ireturn, 1) := by decide +kernel
theorem dX1_tieRow_41 : decode cX1_tieRow 41 = .ok (.iinc 2 1, 3) := by decide +kernel
theorem dX1_tieRow_44 : decode cX1_tieRow 44 = .ok (.goto (-30), 3) := by decide +kernel
theorem dX1_tieRow_47 : decode cX1_tieRow 47 = .ok (.iconst 0, 1) := by decide +kernel
theorem dX1_tieRow_48 : decode cX1_tieRow 48 = .ok (.istore_n 2, 1) := by decide +kernel
theorem dX1_tieRow_49 : decode cX1_tieRow 49 = .ok (.iload_n 2, 1) := by decide +kernel
theorem dX1_tieRow_50 : decode cX1_tieRow 50 = .ok (.bipush 8, 2) := by decide +kernel
theorem dX1_tieRow_52 : decode cX1_tieRow 52 = .ok (.if_icmp .ge 15, 3) := by decide +kernel
theorem dX1_tieRow_55 : decode cX1_tieRow 55 = .ok (.aload_n 0, 1) := by decide +kernel
theorem dX1_tieRow_56 : decode cX1_tieRow 56 = .ok (.aload_n 1, 1) := by decide +kernel
theorem dX1_tieRow_57 : decode cX1_tieRow 57 = .ok (.iload_n 2, 1) := by decide +kernel
theorem dX1_tieRow_58 : decode cX1_tieRow 58 = .ok (.invokevirtual 61, 3) := by decide +kernel
theorem dX1_tieRow_61 : decode cX1_tieRow 61 = .ok (.iinc 2 1, 3) := by decide +kernel
theorem dX1_tieRow_64 : decode cX1_tieRow 64 = .ok (.goto (-15), 3) := by decide +kernel
theorem dX1_tieRow_67 : decode cX1_tieRow 67 = .ok (.aload_n 0, 1) := by decide +kernel
theorem dX1_tieRow_68 : decode cX1_tieRow 68 = .ok (.getfield 26, 3) := by decide +kernel
theorem dX1_tieRow_71 : decode cX1_tieRow 71 = .ok (.aload_n 0, 1) := by decide +kernel
theorem dX1_tieRow_72 : decode cX1_tieRow 72 = .ok (.getfield 38, 3) := by decide +kernel
theorem dX1_tieRow_75 : decode cX1_tieRow 75 = .ok (.aaload, 1) := by decide +kernel
theorem dX1_tieRow_76 : decode cX1_tieRow 76 = .ok (.aload_n 0, 1) := by decide +kernel
theorem dX1_tieRow_77 : decode cX1_tieRow 77 = .ok (.aload_n 0, 1) := by decide +kernel
theorem dX1_tieRow_78 : decode cX1_tieRow 78 = .ok (.getfield 26, 3) := by decide +kernel
theorem dX1_tieRow_81 : decode cX1_tieRow 81 = .ok (.aload_n 0, 1) := by decide +kernel
theorem dX1_tieRow_82 : decode cX1_tieRow 82 = .ok (.getfield 38, 3) := by decide +kernel
theorem dX1_tieRow_85 : decode cX1_tieRow 85 = .ok (.aaload, 1) := by decide +kernel
theorem dX1_tieRow_86 : decode cX1_tieRow 86 = .ok (.invokevirtual 65, 3) := by decide +kernel
theorem dX1_tieRow_89 : decode cX1_tieRow 89 = .ok (.putfield 69, 3) := by decide +kernel
theorem dX1_tieRow_92 : decode cX1_tieRow 92 = .ok (.aload_n 0, 1) := by decide +kernel
theorem dX1_tieRow_93 : decode cX1_tieRow 93 = .ok (.dup, 1) := by decide +kernel
theorem dX1_tieRow_94 : decode cX1_tieRow 94 = .ok (.getfield 38, 3) := by decide +kernel
theorem dX1_tieRow_97 : decode cX1_tieRow 97 = .ok (.iconst 1, 1) := by decide +kernel
theorem dX1_tieRow_98 : decode cX1_tieRow 98 = .ok (.iadd, 1) := by decide +kernel
theorem dX1_tieRow_99 : decode cX1_tieRow 99 = .ok (.putfield 38, 3) := by decide +kernel
theorem dX1_tieRow_102 : decode cX1_tieRow 102 = .ok (.aload_n 0, 1) := by decide +kernel
theorem dX1_tieRow_103 : decode cX1_tieRow 103 = .ok (.getfield 38, 3) := by decide +kernel
theorem dX1_tieRow_106 : decode cX1_tieRow 106 = .ok (.iconst 1, 1) := by decide +kernel
theorem dX1_tieRow_107 : decode cX1_tieRow 107 = .ok (.isub, 1) := by decide +kernel
theorem dX1_tieRow_108 : decode cX1_tieRow 108 = .ok (.ireturn, 1) := by decide +kernel
theorem dX1_knotsHeard_0 : decode cX1_knotsHeard 0 = .ok (.iconst 0, 1) := by decide +kernel
theorem dX1_knotsHeard_1 : decode cX1_knotsHeard 1 = .ok (.istore_n 3, 1) := by decide +kernel
theorem dX1_knotsHeard_2 : decode cX1_knotsHeard 2 = .ok (.iconst 0, 1) := by decide +kernel
theorem dX1_knotsHeard_3 : decode cX1_knotsHeard 3 = .ok (.istore 4, 2) := by decide +kernel
theorem dX1_knotsHeard_5 : decode cX1_knotsHeard 5 = .ok (.iload 4, 2) := by decide +kernel
theorem dX1_knotsHeard_7 : decode cX1_knotsHeard 7 = .ok (.aload_n 0, 1) := by decide +kernel
theorem dX1_knotsHeard_8 : decode cX1_knotsHeard 8 = .ok (.getfield 30, 3) := by decide +kernel
theorem dX1_knotsHeard_11 : decode cX1_knotsHeard 11 = .ok (.if_icmp .ge 22, 3) := by decide +kernel
theorem dX1_knotsHeard_14 : decode cX1_knotsHeard 14 = .ok (.aload_n 1, 1) := by decide +kernel
theorem dX1_knotsHeard_15 : decode cX1_knotsHeard 15 = .ok (.iload 4, 2) := by decide +kernel
theorem dX1_knotsHeard_17 : decode cX1_knotsHeard 17 = .ok (.invokevirtual 72, 3) := by decide +kernel
theorem dX1_knotsHeard_20 : decode cX1_knotsHeard 20 = .ok (.iload_n 2, 1) := by decide +kernel
theorem dX1_knotsHeard_21 : decode cX1_knotsHeard 21 = .ok (.if_icmp .ne 6, 3) := by decide +kernel
theorem dX1_knotsHeard_24 : decode cX1_knotsHeard 24 = .ok (.iinc 3 1, 3) := by decide +kernel
theorem dX1_knotsHeard_27 : decode cX1_knotsHeard 27 = .ok (.iinc 4 1, 3) := by decide +kernel
theorem dX1_knotsHeard_30 : decode cX1_knotsHeard 30 = .ok (.goto (-25), 3) := by decide +kernel
theorem dX1_knotsHeard_33 : decode cX1_knotsHeard 33 = .ok (.iload_n 3, 1) := by decide +kernel
theorem dX1_knotsHeard_34 : decode cX1_knotsHeard 34 = .ok (.ireturn, 1) := by decide +kernel
theorem dX1_layColour_0 : decode cX1_layColour 0 = .ok (.iconst 0, 1) := by decide +kernel
theorem dX1_layColour_1 : decode cX1_layColour 1 = .ok (.istore_n 3, 1) := by decide +kernel
theorem dX1_layColour_2 : decode cX1_layColour 2 = .ok (.iload_n 3, 1) := by decide +kernel
theorem dX1_layColour_3 : decode cX1_layColour 3 = .ok (.aload_n 0, 1) := by decide +kernel
theorem dX1_layColour_4 : decode cX1_layColour 4 = .ok (.getfield 30, 3) := by decide +kernel
theorem dX1_layColour_7 : decode cX1_layColour 7 = .ok (.if_icmp .ge 50, 3) := by decide +kernel
theorem dX1_layColour_10 : decode cX1_layColour 10 = .ok (.aload_n 1, 1) := by decide +kernel
theorem dX1_layColour_11 : decode cX1_layColour 11 = .ok (.iload_n 3, 1) := by decide +kernel
theorem dX1_layColour_12 : decode cX1_layColour 12 = .ok (.invokevirtual 72, 3) := by decide +kernel
theorem dX1_layColour_15 : decode cX1_layColour 15 = .ok (.iload_n 2, 1) := by decide +kernel
theorem dX1_layColour_16 : decode cX1_layColour 16 = .ok (.if_icmp .ne 35, 3) := by decide +kernel
theorem dX1_layColour_19 : decode cX1_layColour 19 = .ok (.aload_n 0, 1) := by decide +kernel
theorem dX1_layColour_20 : decode cX1_layColour 20 = .ok (.getfield 20, 3) := by decide +kernel
theorem dX1_layColour_23 : decode cX1_layColour 23 = .ok (.iload_n 2, 1) := by decide +kernel
theorem dX1_layColour_24 : decode cX1_layColour 24 = .ok (.aaload, 1) := by decide +kernel
theorem dX1_layColour_25 : decode cX1_layColour 25 = .ok (.invokevirtual 78, 3) := by decide +kernel
theorem dX1_layColour_28 : decode cX1_layColour 28 = .ok (.istore 4, 2) := by decide +kernel
theorem dX1_layColour_30 : decode cX1_layColour 30 = .ok (.aload_n 0, 1) := by decide +kernel
theorem dX1_layColour_31 : decode cX1_layColour 31 = .ok (.getfield 26, 3) := by decide +kernel
theorem dX1_layColour_34 : decode cX1_layColour 34 = .ok (.aload_n 0, 1) := by decide +kernel
theorem dX1_layColour_35 : decode cX1_layColour 35 = .ok (.getfield 38, 3) := by decide +kernel
theorem dX1_layColour_38 : decode cX1_layColour 38 = .ok (.aaload, 1) := by decide +kernel
theorem dX1_layColour_39 : decode cX1_layColour 39 = .ok (.iload_n 3, 1) := by decide +kernel
theorem dX1_layColour_40 : decode cX1_layColour 40 = .ok (.iload_n 2, 1) := by decide +kernel
theorem dX1_layColour_41 : decode cX1_layColour 41 = .ok (.iload 4, 2) := by decide +kernel
theorem dX1_layColour_43 : decode cX1_layColour 43 = .ok (.aload_n 1, 1) := by decide +kernel
theorem dX1_layColour_44 : decode cX1_layColour 44 = .ok (.iload_n 3, 1) := by decide +kernel
theorem dX1_layColour_45 : decode cX1_layColour 45 = .ok (.invokevirtual 81, 3) := by decide +kernel
theorem dX1_layColour_48 : decode cX1_layColour 48 = .ok (.invokevirtual 84, 3) := by decide +kernel
theorem dX1_layColour_51 : decode cX1_layColour 51 = .ok (.iinc 3 1, 3) := by decide +kernel
theorem dX1_layColour_54 : decode cX1_layColour 54 = .ok (.goto (-52), 3) := by decide +kernel
theorem dX1_layColour_57 : decode cX1_layColour 57 = .ok (.return_, 1) := by decide +kernel
theorem dX1_minutesFor_0 : decode cX1_minutesFor 0 = .ok (.iconst 0, 1) := by decide +kernel
theorem dX1_minutesFor_1 : decode cX1_minutesFor 1 = .ok (.istore_n 2, 1) := by decide +kernel
theorem dX1_minutesFor_2 : decode cX1_minutesFor 2 = .ok (.iconst 0, 1) := by decide +kernel
theorem dX1_minutesFor_3 : decode cX1_minutesFor 3 = .ok (.istore_n 3, 1) := by decide +kernel
theorem dX1_minutesFor_4 : decode cX1_minutesFor 4 = .ok (.iconst 0, 1) := by decide +kernel
theorem dX1_minutesFor_5 : decode cX1_minutesFor 5 = .ok (.istore 4, 2) := by decide +kernel
theorem dX1_minutesFor_7 : decode cX1_minutesFor 7 = .ok (.iconst 0, 1) := by decide +kernel
theorem dX1_minutesFor_8 : decode cX1_minutesFor 8 = .ok (.istore 5, 2) := by decide +kernel
theorem dX1_minutesFor_10 : decode cX1_minutesFor 10 = .ok (.iload 5, 2) := by decide +kernel
theorem dX1_minutesFor_12 : decode cX1_minutesFor 12 = .ok (.aload_n 0, 1) := by decide +kernel
theorem dX1_minutesFor_13 : decode cX1_minutesFor 13 = .ok (.getfield 30, 3) := by decide +kernel
theorem dX1_minutesFor_16 : decode cX1_minutesFor 16 = .ok (.if_icmp .ge 87, 3) := by decide +kernel
theorem dX1_minutesFor_19 : decode cX1_minutesFor 19 = .ok (.aload_n 0, 1) := by decide +kernel
theorem dX1_minutesFor_20 : decode cX1_minutesFor 20 = .ok (.iload 5, 2) := by decide +kernel
theorem dX1_minutesFor_22 : decode cX1_minutesFor 22 = .ok (.invokevirtual 88, 3) := by decide +kernel
theorem dX1_minutesFor_25 : decode cX1_minutesFor 25 = .ok (.istore 6, 2) := by decide +kernel
theorem dX1_minutesFor_27 : decode cX1_minutesFor 27 = .ok (.iload 5, 2) := by decide +kernel
theorem dX1_minutesFor_29 : decode cX1_minutesFor 29 = .ok (.ifCond .eq 16, 3) := by decide +kernel
theorem dX1_minutesFor_32 : decode cX1_minutesFor 32 = .ok (.aload_n 0, 1) := by decide +kernel
theorem dX1_minutesFor_33 : decode cX1_minutesFor 33 = .ok (.iload 5, 2) := by decide +kernel
theorem dX1_minutesFor_35 : decode cX1_minutesFor 35 = .ok (.iconst 1, 1) := by decide +kernel
theorem dX1_minutesFor_36 : decode cX1_minutesFor 36 = .ok (.isub, 1) := by decide +kernel
theorem dX1_minutesFor_37 : decode cX1_minutesFor 37 = .ok (.invokevirtual 88, 3) := by decide +kernel
theorem dX1_minutesFor_40 : decode cX1_minutesFor 40 = .ok (.iload 6, 2) := by decide +kernel
theorem dX1_minutesFor_42 : decode cX1_minutesFor 42 = .ok (.if_icmp .eq 11, 3) := by decide +kernel
theorem dX1_minutesFor_45 : decode cX1_minutesFor 45 = .ok (.iconst 0, 1) := by decide +kernel
theorem dX1_minutesFor_46 : decode cX1_minutesFor 46 = .ok (.istore_n 3, 1) := by decide +kernel
theorem dX1_minutesFor_47 : decode cX1_minutesFor 47 = .ok (.iconst 0, 1) := by decide +kernel
theorem dX1_minutesFor_48 : decode cX1_minutesFor 48 = .ok (.istore 4, 2) := by decide +kernel
theorem dX1_minutesFor_50 : decode cX1_minutesFor 50 = .ok (.goto 25, 3) := by decide +kernel
theorem dX1_minutesFor_53 : decode cX1_minutesFor 53 = .ok (.aload_n 1, 1) := by decide +kernel
theorem dX1_minutesFor_54 : decode cX1_minutesFor 54 = .ok (.getfield 91, 3) := by decide +kernel
theorem dX1_minutesFor_57 : decode cX1_minutesFor 57 = .ok (.iload 5, 2) := by decide +kernel
theorem dX1_minutesFor_59 : decode cX1_minutesFor 59 = .ok (.baload, 1) := by decide +kernel
theorem dX1_minutesFor_60 : decode cX1_minutesFor 60 = .ok (.aload_n 1, 1) := by decide +kernel
theorem dX1_minutesFor_61 : decode cX1_minutesFor 61 = .ok (.getfield 91, 3) := by decide +kernel
theorem dX1_minutesFor_64 : decode cX1_minutesFor 64 = .ok (.iload 5, 2) := by decide +kernel
theorem dX1_minutesFor_66 : decode cX1_minutesFor 66 = .ok (.iconst 1, 1) := by decide +kernel
theorem dX1_minutesFor_67 : decode cX1_minutesFor 67 = .ok (.isub, 1) := by decide +kernel
theorem dX1_minutesFor_68 : decode cX1_minutesFor 68 = .ok (.baload, 1) := by decide +kernel
theorem dX1_minutesFor_69 : decode cX1_minutesFor 69 = .ok (.if_icmp .eq 6, 3) := by decide +kernel
theorem dX1_minutesFor_72 : decode cX1_minutesFor 72 = .ok (.iinc 4 1, 3) := by decide +kernel
theorem dX1_minutesFor_75 : decode cX1_minutesFor 75 = .ok (.iinc 3 1, 3) := by decide +kernel
theorem dX1_minutesFor_78 : decode cX1_minutesFor 78 = .ok (.iload_n 2, 1) := by decide +kernel
theorem dX1_minutesFor_79 : decode cX1_minutesFor 79 = .ok (.iload_n 3, 1) := by decide +kernel
theorem dX1_minutesFor_80 : decode cX1_minutesFor 80 = .ok (.aload_n 0, 1) := by decide +kernel
theorem dX1_minutesFor_81 : decode cX1_minutesFor 81 = .ok (.getfield 15, 3) := by decide +kernel
theorem dX1_minutesFor_84 : decode cX1_minutesFor 84 = .ok (.iload 6, 2) := by decide +kernel
theorem dX1_minutesFor_86 : decode cX1_minutesFor 86 = .ok (.iaload, 1) := by decide +kernel
theorem dX1_minutesFor_87 : decode cX1_minutesFor 87 = .ok (.invokestatic 94, 3) := by decide +kernel
theorem dX1_minutesFor_90 : decode cX1_minutesFor 90 = .ok (.iload 4, 2) := by decide +kernel
theorem dX1_minutesFor_92 : decode cX1_minutesFor 92 = .ok (.iadd, 1) := by decide +kernel
theorem dX1_minutesFor_93 : decode cX1_minutesFor 93 = .ok (.invokestatic 98, 3) := by decide +kernel
theorem dX1_minutesFor_96 : decode cX1_minutesFor 96 = .ok (.istore_n 2, 1) := by decide +kernel
theorem dX1_minutesFor_97 : decode cX1_minutesFor 97 = .ok (.iinc 5 1, 3) := by decide +kernel
theorem dX1_minutesFor_100 : decode cX1_minutesFor 100 = .ok (.goto (-90), 3) := by decide +kernel
theorem dX1_minutesFor_103 : decode cX1_minutesFor 103 = .ok (.iload_n 2, 1) := by decide +kernel
theorem dX1_minutesFor_104 : decode cX1_minutesFor 104 = .ok (.ireturn, 1) := by decide +kernel
theorem dX1_roundedUp_0 : decode cX1_roundedUp 0 = .ok (.iload_n 1, 1) := by decide +kernel
theorem dX1_roundedUp_1 : decode cX1_roundedUp 1 = .ok (.iconst 1, 1) := by decide +kernel
theorem dX1_roundedUp_2 : decode cX1_roundedUp 2 = .ok (.if_icmp .ge 7, 3) := by decide +kernel
theorem dX1_roundedUp_5 : decode cX1_roundedUp 5 = .ok (.iload_n 0, 1) := by decide +kernel
theorem dX1_roundedUp_6 : decode cX1_roundedUp 6 = .ok (.goto 10, 3) := by decide +kernel
theorem dX1_roundedUp_9 : decode cX1_roundedUp 9 = .ok (.iload_n 0, 1) := by decide +kernel
theorem dX1_roundedUp_10 : decode cX1_roundedUp 10 = .ok (.iload_n 1, 1) := by decide +kernel
theorem dX1_roundedUp_11 : decode cX1_roundedUp 11 = .ok (.iadd, 1) := by decide +kernel
theorem dX1_roundedUp_12 : decode cX1_roundedUp 12 = .ok (.iconst 1, 1) := by decide +kernel
theorem dX1_roundedUp_13 : decode cX1_roundedUp 13 = .ok (.isub, 1) := by decide +kernel
theorem dX1_roundedUp_14 : decode cX1_roundedUp 14 = .ok (.iload_n 1, 1) := by decide +kernel
theorem dX1_roundedUp_15 : decode cX1_roundedUp 15 = .ok (.idiv, 1) := by decide +kernel
theorem dX1_roundedUp_16 : decode cX1_roundedUp 16 = .ok (.ireturn, 1) := by decide +kernel
theorem dX1_minutesInAll_0 : decode cX1_minutesInAll 0 = .ok (.iconst 0, 1) := by decide +kernel
theorem dX1_minutesInAll_1 : decode cX1_minutesInAll 1 = .ok (.istore_n 1, 1) := by decide +kernel
theorem dX1_minutesInAll_2 : decode cX1_minutesInAll 2 = .ok (.iconst 0, 1) := by decide +kernel
theorem dX1_minutesInAll_3 : decode cX1_minutesInAll 3 = .ok (.istore_n 2, 1) := by decide +kernel
theorem dX1_minutesInAll_4 : decode cX1_minutesInAll 4 = .ok (.iload_n 2, 1) := by decide +kernel
theorem dX1_minutesInAll_5 : decode cX1_minutesInAll 5 = .ok (.aload_n 0, 1) := by decide +kernel
theorem dX1_minutesInAll_6 : decode cX1_minutesInAll 6 = .ok (.getfield 38, 3) := by decide +kernel
theorem dX1_minutesInAll_9 : decode cX1_minutesInAll 9 = .ok (.if_icmp .ge 21, 3) := by decide +kernel
theorem dX1_minutesInAll_12 : decode cX1_minutesInAll 12 = .ok (.iload_n 1, 1) := by decide +kernel
theorem dX1_minutesInAll_13 : decode cX1_minutesInAll 13 = .ok (.aload_n 0, 1) := by decide +kernel
theorem dX1_minutesInAll_14 : decode cX1_minutesInAll 14 = .ok (.getfield 26, 3) := by decide +kernel
theorem dX1_minutesInAll_17 : decode cX1_minutesInAll 17 = .ok (.iload_n 2, 1) := by decide +kernel
theorem dX1_minutesInAll_18 : decode cX1_minutesInAll 18 = .ok (.aaload, 1) := by decide +kernel
theorem dX1_minutesInAll_19 : decode cX1_minutesInAll 19 = .ok (.getfield 69, 3) := by decide +kernel
theorem dX1_minutesInAll_22 : decode cX1_minutesInAll 22 = .ok (.iadd, 1) := by decide +kernel
theorem dX1_minutesInAll_23 : decode cX1_minutesInAll 23 = .ok (.istore_n 1, 1) := by decide +kernel
theorem dX1_minutesInAll_24 : decode cX1_minutesInAll 24 = .ok (.iinc 2 1, 3) := by decide +kernel
theorem dX1_minutesInAll_27 : decode cX1_minutesInAll 27 = .ok (.goto (-23), 3) := by decide +kernel
theorem dX1_minutesInAll_30 : decode cX1_minutesInAll 30 = .ok (.iload_n 1, 1) := by decide +kernel
theorem dX1_minutesInAll_31 : decode cX1_minutesInAll 31 = .ok (.ireturn, 1) := by decide +kernel
theorem dX1_shiftsInAll_0 : decode cX1_shiftsInAll 0 = .ok (.iconst 0, 1) := by decide +kernel
theorem dX1_shiftsInAll_1 : decode cX1_shiftsInAll 1 = .ok (.istore_n 2, 1) := by decide +kernel
theorem dX1_shiftsInAll_2 : decode cX1_shiftsInAll 2 = .ok (.iconst 0, 1) := by decide +kernel
theorem dX1_shiftsInAll_3 : decode cX1_shiftsInAll 3 = .ok (.istore_n 3, 1) := by decide +kernel
theorem dX1_shiftsInAll_4 : decode cX1_shiftsInAll 4 = .ok (.iload_n 3, 1) := by decide +kernel
theorem dX1_shiftsInAll_5 : decode cX1_shiftsInAll 5 = .ok (.bipush 8, 2) := by decide +kernel
theorem dX1_shiftsInAll_7 : decode cX1_shiftsInAll 7 = .ok (.if_icmp .ge 18, 3) := by decide +kernel
theorem dX1_shiftsInAll_10 : decode cX1_shiftsInAll 10 = .ok (.iload_n 2, 1) := by decide +kernel
theorem dX1_shiftsInAll_11 : decode cX1_shiftsInAll 11 = .ok (.aload_n 0, 1) := by decide +kernel
theorem dX1_shiftsInAll_12 : decode cX1_shiftsInAll 12 = .ok (.iload_n 3, 1) := by decide +kernel
theorem dX1_shiftsInAll_13 : decode cX1_shiftsInAll 13 = .ok (.iload_n 1, 1) := by decide +kernel
theorem dX1_shiftsInAll_14 : decode cX1_shiftsInAll 14 = .ok (.invokevirtual 103, 3) := by decide +kernel
theorem dX1_shiftsInAll_17 : decode cX1_shiftsInAll 17 = .ok (.iadd, 1) := by decide +kernel
theorem dX1_shiftsInAll_18 : decode cX1_shiftsInAll 18 = .ok (.istore_n 2, 1) := by decide +kernel
theorem dX1_shiftsInAll_19 : decode cX1_shiftsInAll 19 = .ok (.iinc 3 1, 3) := by decide +kernel
theorem dX1_shiftsInAll_22 : decode cX1_shiftsInAll 22 = .ok (.goto (-18), 3) := by decide +kernel
theorem dX1_shiftsInAll_25 : decode cX1_shiftsInAll 25 = .ok (.iload_n 2, 1) := by decide +kernel
theorem dX1_shiftsInAll_26 : decode cX1_shiftsInAll 26 = .ok (.ireturn, 1) := by decide +kernel
theorem dX1_shiftsOf_0 : decode cX1_shiftsOf 0 = .ok (.iconst 0, 1) := by decide +kernel
theorem dX1_shiftsOf_1 : decode cX1_shiftsOf 1 = .ok (.istore_n 3, 1) := by decide +kernel
theorem dX1_shiftsOf_2 : decode cX1_shiftsOf 2 = .ok (.iconst (-1), 1) := by decide +kernel
theorem dX1_shiftsOf_3 : decode cX1_shiftsOf 3 = .ok (.istore 4, 2) := by decide +kernel
theorem dX1_shiftsOf_5 : decode cX1_shiftsOf 5 = .ok (.iconst (-1), 1) := by decide +kernel
theorem dX1_shiftsOf_6 : decode cX1_shiftsOf 6 = .ok (.istore 5, 2) := by decide +kernel
theorem dX1_shiftsOf_8 : decode cX1_shiftsOf 8 = .ok (.iconst 0, 1) := by decide +kernel
theorem dX1_shiftsOf_9 : decode cX1_shiftsOf 9 = .ok (.istore 6, 2) := by decide +kernel
theorem dX1_shiftsOf_11 : decode cX1_shiftsOf 11 = .ok (.iload 6, 2) := by decide +kernel
theorem dX1_shiftsOf_13 : decode cX1_shiftsOf 13 = .ok (.aload_n 0, 1) := by decide +kernel
theorem dX1_shiftsOf_14 : decode cX1_shiftsOf 14 = .ok (.getfield 38, 3) := by decide +kernel
theorem dX1_shiftsOf_17 : decode cX1_shiftsOf 17 = .ok (.if_icmp .ge 106, 3) := by decide +kernel
theorem dX1_shiftsOf_20 : decode cX1_shiftsOf 20 = .ok (.aload_n 0, 1) := by decide +kernel
theorem dX1_shiftsOf_21 : decode cX1_shiftsOf 21 = .ok (.getfield 26, 3) := by decide +kernel
theorem dX1_shiftsOf_24 : decode cX1_shiftsOf 24 = .ok (.iload 6, 2) := by decide +kernel
theorem dX1_shiftsOf_26 : decode cX1_shiftsOf 26 = .ok (.aaload, 1) := by decide +kernel
theorem dX1_shiftsOf_27 : decode cX1_shiftsOf 27 = .ok (.astore 7, 2) := by decide +kernel
theorem dX1_shiftsOf_29 : decode cX1_shiftsOf 29 = .ok (.iconst 0, 1) := by decide +kernel
theorem dX1_shiftsOf_30 : decode cX1_shiftsOf 30 = .ok (.istore 8, 2) := by decide +kernel
theorem dX1_shiftsOf_32 : decode cX1_shiftsOf 32 = .ok (.iload 8, 2) := by decide +kernel
theorem dX1_shiftsOf_34 : decode cX1_shiftsOf 34 = .ok (.aload_n 0, 1) := by decide +kernel
theorem dX1_shiftsOf_35 : decode cX1_shiftsOf 35 = .ok (.getfield 30, 3) := by decide +kernel
theorem dX1_shiftsOf_38 : decode cX1_shiftsOf 38 = .ok (.if_icmp .ge 79, 3) := by decide +kernel
theorem dX1_shiftsOf_41 : decode cX1_shiftsOf 41 = .ok (.aload 7, 2) := by decide +kernel
theorem dX1_shiftsOf_43 : decode cX1_shiftsOf 43 = .ok (.getfield 91, 3) := by decide +kernel
theorem dX1_shiftsOf_46 : decode cX1_shiftsOf 46 = .ok (.iload 8, 2) := by decide +kernel
theorem dX1_shiftsOf_48 : decode cX1_shiftsOf 48 = .ok (.baload, 1) := by decide +kernel
theorem dX1_shiftsOf_49 : decode cX1_shiftsOf 49 = .ok (.iload_n 1, 1) := by decide +kernel
theorem dX1_shiftsOf_50 : decode cX1_shiftsOf 50 = .ok (.if_icmp .ne 61, 3) := by decide +kernel
theorem dX1_shiftsOf_53 : decode cX1_shiftsOf 53 = .ok (.iload 5, 2) := by decide +kernel
theorem dX1_shiftsOf_55 : decode cX1_shiftsOf 55 = .ok (.ifCond .lt 20, 3) := by decide +kernel
theorem dX1_shiftsOf_58 : decode cX1_shiftsOf 58 = .ok (.aload 7, 2) := by decide +kernel
theorem dX1_shiftsOf_60 : decode cX1_shiftsOf 60 = .ok (.getfield 107, 3) := by decide +kernel
theorem dX1_shiftsOf_63 : decode cX1_shiftsOf 63 = .ok (.iload 8, 2) := by decide +kernel
theorem dX1_shiftsOf_65 : decode cX1_shiftsOf 65 = .ok (.baload, 1) := by decide +kernel
theorem dX1_shiftsOf_66 : decode cX1_shiftsOf 66 = .ok (.iload 4, 2) := by decide +kernel
theorem dX1_shiftsOf_68 : decode cX1_shiftsOf 68 = .ok (.if_icmp .eq 7, 3) := by decide +kernel
theorem dX1_shiftsOf_71 : decode cX1_shiftsOf 71 = .ok (.iconst 1, 1) := by decide +kernel
theorem dX1_shiftsOf_72 : decode cX1_shiftsOf 72 = .ok (.goto 4, 3) := by decide +kernel
theorem dX1_shiftsOf_75 : decode cX1_shiftsOf 75 = .ok (.iconst 0, 1) := by decide +kernel
theorem dX1_shiftsOf_76 : decode cX1_shiftsOf 76 = .ok (.istore 9, 2) := by decide +kernel
theorem dX1_shiftsOf_78 : decode cX1_shiftsOf 78 = .ok (.iload 9, 2) := by decide +kernel
theorem dX1_shiftsOf_80 : decode cX1_shiftsOf 80 = .ok (.ifCond .eq 17, 3) := by decide +kernel
theorem dX1_shiftsOf_83 : decode cX1_shiftsOf 83 = .ok (.iload_n 2, 1) := by decide +kernel
theorem dX1_shiftsOf_84 : decode cX1_shiftsOf 84 = .ok (.ifCond .eq 10, 3) := by decide +kernel
theorem dX1_shiftsOf_87 : decode cX1_shiftsOf 87 = .ok (.iload 5, 2) := by decide +kernel
theorem dX1_shiftsOf_89 : decode cX1_shiftsOf 89 = .ok (.iload 6, 2) := by decide +kernel
theorem dX1_shiftsOf_91 : decode cX1_shiftsOf 91 = .ok (.if_icmp .ne 6, 3) := by decide +kernel
theorem dX1_shiftsOf_94 : decode cX1_shiftsOf 94 = .ok (.iinc 3 1, 3) := by decide +kernel
theorem dX1_shiftsOf_97 : decode cX1_shiftsOf 97 = .ok (.aload 7, 2) := by decide +kernel
theorem dX1_shiftsOf_99 : decode cX1_shiftsOf 99 = .ok (.getfield 107, 3) := by decide +kernel
theorem dX1_shiftsOf_102 : decode cX1_shiftsOf 102 = .ok (.iload 8, 2) := by decide +kernel
theorem dX1_shiftsOf_104 : decode cX1_shiftsOf 104 = .ok (.baload, 1) := by decide +kernel
theorem dX1_shiftsOf_105 : decode cX1_shiftsOf 105 = .ok (.istore 4, 2) := by decide +kernel
theorem dX1_shiftsOf_107 : decode cX1_shiftsOf 107 = .ok (.iload 6, 2) := by decide +kernel
theorem dX1_shiftsOf_109 : decode cX1_shiftsOf 109 = .ok (.istore 5, 2) := by decide +kernel
theorem dX1_shiftsOf_111 : decode cX1_shiftsOf 111 = .ok (.iinc 8 1, 3) := by decide +kernel
theorem dX1_shiftsOf_114 : decode cX1_shiftsOf 114 = .ok (.goto (-82), 3) := by decide +kernel
theorem dX1_shiftsOf_117 : decode cX1_shiftsOf 117 = .ok (.iinc 6 1, 3) := by decide +kernel
theorem dX1_shiftsOf_120 : decode cX1_shiftsOf 120 = .ok (.goto (-109), 3) := by decide +kernel
theorem dX1_shiftsOf_123 : decode cX1_shiftsOf 123 = .ok (.iload_n 3, 1) := by decide +kernel
theorem dX1_shiftsOf_124 : decode cX1_shiftsOf 124 = .ok (.ireturn, 1) := by decide +kernel
theorem dX1_knotsBy_0 : decode cX1_knotsBy 0 = .ok (.iconst 0, 1) := by decide +kernel
theorem dX1_knotsBy_1 : decode cX1_knotsBy 1 = .ok (.istore_n 2, 1) := by decide +kernel
theorem dX1_knotsBy_2 : decode cX1_knotsBy 2 = .ok (.iconst 0, 1) := by decide +kernel
theorem dX1_knotsBy_3 : decode cX1_knotsBy 3 = .ok (.istore_n 3, 1) := by decide +kernel
theorem dX1_knotsBy_4 : decode cX1_knotsBy 4 = .ok (.iload_n 3, 1) := by decide +kernel
theorem dX1_knotsBy_5 : decode cX1_knotsBy 5 = .ok (.aload_n 0, 1) := by decide +kernel
theorem dX1_knotsBy_6 : decode cX1_knotsBy 6 = .ok (.getfield 30, 3) := by decide +kernel
theorem dX1_knotsBy_9 : decode cX1_knotsBy 9 = .ok (.if_icmp .ge 21, 3) := by decide +kernel
theorem dX1_knotsBy_12 : decode cX1_knotsBy 12 = .ok (.aload_n 0, 1) := by decide +kernel
theorem dX1_knotsBy_13 : decode cX1_knotsBy 13 = .ok (.iload_n 3, 1) := by decide +kernel
theorem dX1_knotsBy_14 : decode cX1_knotsBy 14 = .ok (.invokevirtual 88, 3) := by decide +kernel
theorem dX1_knotsBy_17 : decode cX1_knotsBy 17 = .ok (.iload_n 1, 1) := by decide +kernel
theorem dX1_knotsBy_18 : decode cX1_knotsBy 18 = .ok (.if_icmp .ne 6, 3) := by decide +kernel
theorem dX1_knotsBy_21 : decode cX1_knotsBy 21 = .ok (.iinc 2 1, 3) := by decide +kernel
theorem dX1_knotsBy_24 : decode cX1_knotsBy 24 = .ok (.iinc 3 1, 3) := by decide +kernel
theorem dX1_knotsBy_27 : decode cX1_knotsBy 27 = .ok (.goto (-23), 3) := by decide +kernel
theorem dX1_knotsBy_30 : decode cX1_knotsBy 30 = .ok (.iload_n 2, 1) := by decide +kernel
theorem dX1_knotsBy_31 : decode cX1_knotsBy 31 = .ok (.aload_n 0, 1) := by decide +kernel
theorem dX1_knotsBy_32 : decode cX1_knotsBy 32 = .ok (.getfield 38, 3) := by decide +kernel
theorem dX1_knotsBy_35 : decode cX1_knotsBy 35 = .ok (.imul, 1) := by decide +kernel
theorem dX1_knotsBy_36 : decode cX1_knotsBy 36 = .ok (.ireturn, 1) := by decide +kernel
theorem dX1_faultsBy_0 : decode cX1_faultsBy 0 = .ok (.iconst 0, 1) := by decide +kernel
theorem dX1_faultsBy_1 : decode cX1_faultsBy 1 = .ok (.istore_n 2, 1) := by decide +kernel
theorem dX1_faultsBy_2 : decode cX1_faultsBy 2 = .ok (.iconst 0, 1) := by decide +kernel
theorem dX1_faultsBy_3 : decode cX1_faultsBy 3 = .ok (.istore_n 3, 1) := by decide +kernel
theorem dX1_faultsBy_4 : decode cX1_faultsBy 4 = .ok (.iload_n 3, 1) := by decide +kernel
theorem dX1_faultsBy_5 : decode cX1_faultsBy 5 = .ok (.aload_n 0, 1) := by decide +kernel
theorem dX1_faultsBy_6 : decode cX1_faultsBy 6 = .ok (.getfield 30, 3) := by decide +kernel
theorem dX1_faultsBy_9 : decode cX1_faultsBy 9 = .ok (.if_icmp .ge 26, 3) := by decide +kernel
theorem dX1_faultsBy_12 : decode cX1_faultsBy 12 = .ok (.aload_n 0, 1) := by decide +kernel
theorem dX1_faultsBy_13 : decode cX1_faultsBy 13 = .ok (.iload_n 3, 1) := by decide +kernel
theorem dX1_faultsBy_14 : decode cX1_faultsBy 14 = .ok (.invokevirtual 88, 3) := by decide +kernel
theorem dX1_faultsBy_17 : decode cX1_faultsBy 17 = .ok (.iload_n 1, 1) := by decide +kernel
theorem dX1_faultsBy_18 : decode cX1_faultsBy 18 = .ok (.if_icmp .ne 11, 3) := by decide +kernel
theorem dX1_faultsBy_21 : decode cX1_faultsBy 21 = .ok (.iload_n 2, 1) := by decide +kernel
theorem dX1_faultsBy_22 : decode cX1_faultsBy 22 = .ok (.aload_n 0, 1) := by decide +kernel
theorem dX1_faultsBy_23 : decode cX1_faultsBy 23 = .ok (.iload_n 3, 1) := by decide +kernel
theorem dX1_faultsBy_24 : decode cX1_faultsBy 24 = .ok (.invokevirtual 110, 3) := by decide +kernel
theorem dX1_faultsBy_27 : decode cX1_faultsBy 27 = .ok (.iadd, 1) := by decide +kernel
theorem dX1_faultsBy_28 : decode cX1_faultsBy 28 = .ok (.istore_n 2, 1) := by decide +kernel
theorem dX1_faultsBy_29 : decode cX1_faultsBy 29 = .ok (.iinc 3 1, 3) := by decide +kernel
theorem dX1_faultsBy_32 : decode cX1_faultsBy 32 = .ok (.goto (-28), 3) := by decide +kernel
theorem dX1_faultsBy_35 : decode cX1_faultsBy 35 = .ok (.iload_n 2, 1) := by decide +kernel
theorem dX1_faultsBy_36 : decode cX1_faultsBy 36 = .ok (.ireturn, 1) := by decide +kernel
theorem dX1_faultsInAll_0 : decode cX1_faultsInAll 0 = .ok (.iconst 0, 1) := by decide +kernel
theorem dX1_faultsInAll_1 : decode cX1_faultsInAll 1 = .ok (.istore_n 1, 1) := by decide +kernel
theorem dX1_faultsInAll_2 : decode cX1_faultsInAll 2 = .ok (.iconst 0, 1) := by decide +kernel
theorem dX1_faultsInAll_3 : decode cX1_faultsInAll 3 = .ok (.istore_n 2, 1) := by decide +kernel
theorem dX1_faultsInAll_4 : decode cX1_faultsInAll 4 = .ok (.iload_n 2, 1) := by decide +kernel
theorem dX1_faultsInAll_5 : decode cX1_faultsInAll 5 = .ok (.aload_n 0, 1) := by decide +kernel
theorem dX1_faultsInAll_6 : decode cX1_faultsInAll 6 = .ok (.getfield 30, 3) := by decide +kernel
theorem dX1_faultsInAll_9 : decode cX1_faultsInAll 9 = .ok (.if_icmp .ge 17, 3) := by decide +kernel
theorem dX1_faultsInAll_12 : decode cX1_faultsInAll 12 = .ok (.iload_n 1, 1) := by decide +kernel
theorem dX1_faultsInAll_13 : decode cX1_faultsInAll 13 = .ok (.aload_n 0, 1) := by decide +kernel
theorem dX1_faultsInAll_14 : decode cX1_faultsInAll 14 = .ok (.iload_n 2, 1) := by decide +kernel
theorem dX1_faultsInAll_15 : decode cX1_faultsInAll 15 = .ok (.invokevirtual 110, 3) := by decide +kernel
theorem dX1_faultsInAll_18 : decode cX1_faultsInAll 18 = .ok (.iadd, 1) := by decide +kernel
theorem dX1_faultsInAll_19 : decode cX1_faultsInAll 19 = .ok (.istore_n 1, 1) := by decide +kernel
theorem dX1_faultsInAll_20 : decode cX1_faultsInAll 20 = .ok (.iinc 2 1, 3) := by decide +kernel
theorem dX1_faultsInAll_23 : decode cX1_faultsInAll 23 = .ok (.goto (-19), 3) := by decide +kernel
theorem dX1_faultsInAll_26 : decode cX1_faultsInAll 26 = .ok (.iload_n 1, 1) := by decide +kernel
theorem dX1_faultsInAll_27 : decode cX1_faultsInAll 27 = .ok (.ireturn, 1) := by decide +kernel
theorem dX1_faultsAt_0 : decode cX1_faultsAt 0 = .ok (.iconst 0, 1) := by decide +kernel
theorem dX1_faultsAt_1 : decode cX1_faultsAt 1 = .ok (.istore_n 2, 1) := by decide +kernel
theorem dX1_faultsAt_2 : decode cX1_faultsAt 2 = .ok (.iconst 0, 1) := by decide +kernel
theorem dX1_faultsAt_3 : decode cX1_faultsAt 3 = .ok (.istore_n 3, 1) := by decide +kernel
theorem dX1_faultsAt_4 : decode cX1_faultsAt 4 = .ok (.iload_n 3, 1) := by decide +kernel
theorem dX1_faultsAt_5 : decode cX1_faultsAt 5 = .ok (.aload_n 0, 1) := by decide +kernel
theorem dX1_faultsAt_6 : decode cX1_faultsAt 6 = .ok (.getfield 38, 3) := by decide +kernel
theorem dX1_faultsAt_9 : decode cX1_faultsAt 9 = .ok (.if_icmp .ge 25, 3) := by decide +kernel
theorem dX1_faultsAt_12 : decode cX1_faultsAt 12 = .ok (.aload_n 0, 1) := by decide +kernel
theorem dX1_faultsAt_13 : decode cX1_faultsAt 13 = .ok (.getfield 26, 3) := by decide +kernel
theorem dX1_faultsAt_16 : decode cX1_faultsAt 16 = .ok (.iload_n 3, 1) := by decide +kernel
theorem dX1_faultsAt_17 : decode cX1_faultsAt 17 = .ok (.aaload, 1) := by decide +kernel
theorem dX1_faultsAt_18 : decode cX1_faultsAt 18 = .ok (.iload_n 1, 1) := by decide +kernel
theorem dX1_faultsAt_19 : decode cX1_faultsAt 19 = .ok (.invokevirtual 113, 3) := by decide +kernel
theorem dX1_faultsAt_22 : decode cX1_faultsAt 22 = .ok (.ifCond .eq 6, 3) := by decide +kernel
theorem dX1_faultsAt_25 : decode cX1_faultsAt 25 = .ok (.iinc 2 1, 3) := by decide +kernel
theorem dX1_faultsAt_28 : decode cX1_faultsAt 28 = .ok (.iinc 3 1, 3) := by decide +kernel
theorem dX1_faultsAt_31 : decode cX1_faultsAt 31 = .ok (.goto (-27), 3) := by decide +kernel
theorem dX1_faultsAt_34 : decode cX1_faultsAt 34 = .ok (.iload_n 2, 1) := by decide +kernel
theorem dX1_faultsAt_35 : decode cX1_faultsAt 35 = .ok (.ireturn, 1) := by decide +kernel
theorem dX1_wagesOf_0 : decode cX1_wagesOf 0 = .ok (.iconst 0, 1) := by decide +kernel
theorem dX1_wagesOf_1 : decode cX1_wagesOf 1 = .ok (.iconst 5, 1) := by decide +kernel
theorem dX1_wagesOf_2 : decode cX1_wagesOf 2 = .ok (.aload_n 0, 1) := by decide +kernel
theorem dX1_wagesOf_3 : decode cX1_wagesOf 3 = .ok (.iload_n 1, 1) := by decide +kernel
theorem dX1_wagesOf_4 : decode cX1_wagesOf 4 = .ok (.invokevirtual 116, 3) := by decide +kernel
theorem dX1_wagesOf_7 : decode cX1_wagesOf 7 = .ok (.bipush 10, 2) := by decide +kernel
theorem dX1_wagesOf_9 : decode cX1_wagesOf 9 = .ok (.idiv, 1) := by decide +kernel
theorem dX1_wagesOf_10 : decode cX1_wagesOf 10 = .ok (.imul, 1) := by decide +kernel
theorem dX1_wagesOf_11 : decode cX1_wagesOf 11 = .ok (.bipush 20, 2) := by decide +kernel
theorem dX1_wagesOf_13 : decode cX1_wagesOf 13 = .ok (.aload_n 0, 1) := by decide +kernel
theorem dX1_wagesOf_14 : decode cX1_wagesOf 14 = .ok (.iload_n 1, 1) := by decide +kernel
theorem dX1_wagesOf_15 : decode cX1_wagesOf 15 = .ok (.invokevirtual 119, 3) := by decide +kernel
theorem dX1_wagesOf_18 : decode cX1_wagesOf 18 = .ok (.imul, 1) := by decide +kernel
theorem dX1_wagesOf_19 : decode cX1_wagesOf 19 = .ok (.isub, 1) := by decide +kernel
theorem dX1_wagesOf_20 : decode cX1_wagesOf 20 = .ok (.invokestatic 98, 3) := by decide +kernel
theorem dX1_wagesOf_23 : decode cX1_wagesOf 23 = .ok (.ireturn, 1) := by decide +kernel
theorem dX1_unlikeRows_0 : decode cX1_unlikeRows 0 = .ok (.iconst 0, 1) := by decide +kernel
theorem dX1_unlikeRows_1 : decode cX1_unlikeRows 1 = .ok (.istore_n 3, 1) := by decide +kernel
theorem dX1_unlikeRows_2 : decode cX1_unlikeRows 2 = .ok (.iconst 0, 1) := by decide +kernel
theorem dX1_unlikeRows_3 : decode cX1_unlikeRows 3 = .ok (.istore 4, 2) := by decide +kernel
theorem dX1_unlikeRows_5 : decode cX1_unlikeRows 5 = .ok (.iload 4, 2) := by decide +kernel
theorem dX1_unlikeRows_7 : decode cX1_unlikeRows 7 = .ok (.aload_n 0, 1) := by decide +kernel
theorem dX1_unlikeRows_8 : decode cX1_unlikeRows 8 = .ok (.getfield 30, 3) := by decide +kernel
theorem dX1_unlikeRows_11 : decode cX1_unlikeRows 11 = .ok (.if_icmp .ge 39, 3) := by decide +kernel
theorem dX1_unlikeRows_14 : decode cX1_unlikeRows 14 = .ok (.aload_n 0, 1) := by decide +kernel
theorem dX1_unlikeRows_15 : decode cX1_unlikeRows 15 = .ok (.getfield 26, 3) := by decide +kernel
theorem dX1_unlikeRows_18 : decode cX1_unlikeRows 18 = .ok (.iload_n 1, 1) := by decide +kernel
theorem dX1_unlikeRows_19 : decode cX1_unlikeRows 19 = .ok (.aaload, 1) := by decide +kernel
theorem dX1_unlikeRows_20 : decode cX1_unlikeRows 20 = .ok (.getfield 49, 3) := by decide +kernel
theorem dX1_unlikeRows_23 : decode cX1_unlikeRows 23 = .ok (.iload 4, 2) := by decide +kernel
theorem dX1_unlikeRows_25 : decode cX1_unlikeRows 25 = .ok (.baload, 1) := by decide +kernel
theorem dX1_unlikeRows_26 : decode cX1_unlikeRows 26 = .ok (.aload_n 0, 1) := by decide +kernel
theorem dX1_unlikeRows_27 : decode cX1_unlikeRows 27 = .ok (.getfield 26, 3) := by decide +kernel
theorem dX1_unlikeRows_30 : decode cX1_unlikeRows 30 = .ok (.iload_n 2, 1) := by decide +kernel
theorem dX1_unlikeRows_31 : decode cX1_unlikeRows 31 = .ok (.aaload, 1) := by decide +kernel
theorem dX1_unlikeRows_32 : decode cX1_unlikeRows 32 = .ok (.getfield 49, 3) := by decide +kernel
theorem dX1_unlikeRows_35 : decode cX1_unlikeRows 35 = .ok (.iload 4, 2) := by decide +kernel
theorem dX1_unlikeRows_37 : decode cX1_unlikeRows 37 = .ok (.baload, 1) := by decide +kernel
theorem dX1_unlikeRows_38 : decode cX1_unlikeRows 38 = .ok (.if_icmp .eq 6, 3) := by decide +kernel
theorem dX1_unlikeRows_41 : decode cX1_unlikeRows 41 = .ok (.iinc 3 1, 3) := by decide +kernel
theorem dX1_unlikeRows_44 : decode cX1_unlikeRows 44 = .ok (.iinc 4 1, 3) := by decide +kernel
theorem dX1_unlikeRows_47 : decode cX1_unlikeRows 47 = .ok (.goto (-42), 3) := by decide +kernel
theorem dX1_unlikeRows_50 : decode cX1_unlikeRows 50 = .ok (.iload_n 3, 1) := by decide +kernel
theorem dX1_unlikeRows_51 : decode cX1_unlikeRows 51 = .ok (.ireturn, 1) := by decide +kernel
theorem dX1_unlikeMirrored_0 : decode cX1_unlikeMirrored 0 = .ok (.aload_n 0, 1) := by decide +kernel
theorem dX1_unlikeMirrored_1 : decode cX1_unlikeMirrored 1 = .ok (.getfield 26, 3) := by decide +kernel
theorem dX1_unlikeMirrored_4 : decode cX1_unlikeMirrored 4 = .ok (.iload_n 1, 1) := by decide +kernel
theorem dX1_unlikeMirrored_5 : decode cX1_unlikeMirrored 5 = .ok (.aaload, 1) := by decide +kernel
theorem dX1_unlikeMirrored_6 : decode cX1_unlikeMirrored 6 = .ok (.getfield 49, 3) := by decide +kernel
theorem dX1_unlikeMirrored_9 : decode cX1_unlikeMirrored 9 = .ok (.astore_n 2, 1) := by decide +kernel
theorem dX1_unlikeMirrored_10 : decode cX1_unlikeMirrored 10 = .ok (.iconst 0, 1) := by decide +kernel
theorem dX1_unlikeMirrored_11 : decode cX1_unlikeMirrored 11 = .ok (.istore_n 3, 1) := by decide +kernel
theorem dX1_unlikeMirrored_12 : decode cX1_unlikeMirrored 12 = .ok (.iconst 0, 1) := by decide +kernel
theorem dX1_unlikeMirrored_13 : decode cX1_unlikeMirrored 13 = .ok (.istore 4, 2) := by decide +kernel
theorem dX1_unlikeMirrored_15 : decode cX1_unlikeMirrored 15 = .ok (.iload 4, 2) := by decide +kernel
theorem dX1_unlikeMirrored_17 : decode cX1_unlikeMirrored 17 = .ok (.aload_n 0, 1) := by decide +kernel
theorem dX1_unlikeMirrored_18 : decode cX1_unlikeMirrored 18 = .ok (.getfield 30, 3) := by decide +kernel
theorem dX1_unlikeMirrored_21 : decode cX1_unlikeMirrored 21 = .ok (.if_icmp .ge 30, 3) := by decide +kernel
theorem dX1_unlikeMirrored_24 : decode cX1_unlikeMirrored 24 = .ok (.aload_n 2, 1) := by decide +kernel
theorem dX1_unlikeMirrored_25 : decode cX1_unlikeMirrored 25 = .ok (.iload 4, 2) := by decide +kernel
theorem dX1_unlikeMirrored_27 : decode cX1_unlikeMirrored 27 = .ok (.baload, 1) := by decide +kernel
theorem dX1_unlikeMirrored_28 : decode cX1_unlikeMirrored 28 = .ok (.aload_n 2, 1) := by decide +kernel
theorem dX1_unlikeMirrored_29 : decode cX1_unlikeMirrored 29 = .ok (.aload_n 0, 1) := by decide +kernel
theorem dX1_unlikeMirrored_30 : decode cX1_unlikeMirrored 30 = .ok (.getfield 30, 3) := by decide +kernel
theorem dX1_unlikeMirrored_33 : decode cX1_unlikeMirrored 33 = .ok (.iconst 1, 1) := by decide +kernel
theorem dX1_unlikeMirrored_34 : decode cX1_unlikeMirrored 34 = .ok (.isub, 1) := by decide +kernel
theorem dX1_unlikeMirrored_35 : decode cX1_unlikeMirrored 35 = .ok (.iload 4, 2) := by decide +kernel
theorem dX1_unlikeMirrored_37 : decode cX1_unlikeMirrored 37 = .ok (.isub, 1) := by decide +kernel
theorem dX1_unlikeMirrored_38 : decode cX1_unlikeMirrored 38 = .ok (.baload, 1) := by decide +kernel
theorem dX1_unlikeMirrored_39 : decode cX1_unlikeMirrored 39 = .ok (.if_icmp .eq 6, 3) := by decide +kernel
theorem dX1_unlikeMirrored_42 : decode cX1_unlikeMirrored 42 = .ok (.iinc 3 1, 3) := by decide +kernel
theorem dX1_unlikeMirrored_45 : decode cX1_unlikeMirrored 45 = .ok (.iinc 4 1, 3) := by decide +kernel
theorem dX1_unlikeMirrored_48 : decode cX1_unlikeMirrored 48 = .ok (.goto (-33), 3) := by decide +kernel
end
section
theorem dX1_unlikeMirrored_51 : decode cX1_unlikeMirrored 51 = .ok (.iload_n 3, 1) := by decide +kernel
theorem dX1_unlikeMirrored_52 : decode cX1_unlikeMirrored 52 = .ok (.ireturn, 1) := by decide +kernel
end
section
theorem dX2_init_0 : decode cX2_init 0 = .ok (.aload_n 0, 1) := by decide +kernel
theorem dX2_init_1 : decode cX2_init 1 = .ok (.invokespecial 1, 3) := by decide +kernel
theorem dX2_init_4 : decode cX2_init 4 = .ok (.aload_n 0, 1) := by decide +kernel
theorem dX2_init_5 : decode cX2_init 5 = .ok (.new 7, 3) := by decide +kernel
theorem dX2_init_8 : decode cX2_init 8 = .ok (.dup, 1) := by decide +kernel
theorem dX2_init_9 : decode cX2_init 9 = .ok (.invokespecial 9, 3) := by decide +kernel
theorem dX2_init_12 : decode cX2_init 12 = .ok (.putfield 10, 3) := by decide +kernel
theorem dX2_init_15 : decode cX2_init 15 = .ok (.return_, 1) := by decide +kernel
end
section
theorem dX3_init_0 : decode cX3_init 0 = .ok (.aload_n 0, 1) := by decide +kernel
theorem dX3_init_1 : decode cX3_init 1 = .ok (.invokespecial 1, 3) := by decide +kernel
theorem dX3_init_4 : decode cX3_init 4 = .ok (.aload_n 0, 1) := by decide +kernel
theorem dX3_init_5 : decode cX3_init 5 = .ok (.iload_n 1, 1) := by decide +kernel
theorem dX3_init_6 : decode cX3_init 6 = .ok (.newarray .byte, 2) := by decide +kernel
theorem dX3_init_8 : decode cX3_init 8 = .ok (.putfield 7, 3) := by decide +kernel
theorem dX3_init_11 : decode cX3_init 11 = .ok (.aload_n 0, 1) := by decide +kernel
theorem dX3_init_12 : decode cX3_init 12 = .ok (.iload_n 1, 1) := by decide +kernel
theorem dX3_init_13 : decode cX3_init 13 = .ok (.newarray .byte, 2) := by decide +kernel
theorem dX3_init_15 : decode cX3_init 15 = .ok (.putfield 13, 3) := by decide +kernel
theorem dX3_init_18 : decode cX3_init 18 = .ok (.aload_n 0, 1) := by decide +kernel
theorem dX3_init_19 : decode cX3_init 19 = .ok (.iload_n 1, 1) := by decide +kernel
theorem dX3_init_20 : decode cX3_init 20 = .ok (.newarray .byte, 2) := by decide +kernel
theorem dX3_init_22 : decode cX3_init 22 = .ok (.putfield 16, 3) := by decide +kernel
theorem dX3_init_25 : decode cX3_init 25 = .ok (.aload_n 0, 1) := by decide +kernel
theorem dX3_init_26 : decode cX3_init 26 = .ok (.iload_n 1, 1) := by decide +kernel
theorem dX3_init_27 : decode cX3_init 27 = .ok (.newarray .byte, 2) := by decide +kernel
theorem dX3_init_29 : decode cX3_init 29 = .ok (.putfield 19, 3) := by decide +kernel
theorem dX3_init_32 : decode cX3_init 32 = .ok (.return_, 1) := by decide +kernel
theorem dX3_lay_0 : decode cX3_lay 0 = .ok (.aload_n 0, 1) := by decide +kernel
theorem dX3_lay_1 : decode cX3_lay 1 = .ok (.getfield 7, 3) := by decide +kernel
theorem dX3_lay_4 : decode cX3_lay 4 = .ok (.iload_n 1, 1) := by decide +kernel
theorem dX3_lay_5 : decode cX3_lay 5 = .ok (.iload_n 2, 1) := by decide +kernel
theorem dX3_lay_6 : decode cX3_lay 6 = .ok (.i2b, 1) := by decide +kernel
theorem dX3_lay_7 : decode cX3_lay 7 = .ok (.bastore, 1) := by decide +kernel
theorem dX3_lay_8 : decode cX3_lay 8 = .ok (.aload_n 0, 1) := by decide +kernel
theorem dX3_lay_9 : decode cX3_lay 9 = .ok (.getfield 13, 3) := by decide +kernel
theorem dX3_lay_12 : decode cX3_lay 12 = .ok (.iload_n 1, 1) := by decide +kernel
theorem dX3_lay_13 : decode cX3_lay 13 = .ok (.iload_n 2, 1) := by decide +kernel
theorem dX3_lay_14 : decode cX3_lay 14 = .ok (.i2b, 1) := by decide +kernel
theorem dX3_lay_15 : decode cX3_lay 15 = .ok (.bastore, 1) := by decide +kernel
theorem dX3_lay_16 : decode cX3_lay 16 = .ok (.aload_n 0, 1) := by decide +kernel
theorem dX3_lay_17 : decode cX3_lay 17 = .ok (.getfield 16, 3) := by decide +kernel
theorem dX3_lay_20 : decode cX3_lay 20 = .ok (.iload_n 1, 1) := by decide +kernel
theorem dX3_lay_21 : decode cX3_lay 21 = .ok (.iload_n 3, 1) := by decide +kernel
theorem dX3_lay_22 : decode cX3_lay 22 = .ok (.i2b, 1) := by decide +kernel
theorem dX3_lay_23 : decode cX3_lay 23 = .ok (.bastore, 1) := by decide +kernel
theorem dX3_lay_24 : decode cX3_lay 24 = .ok (.aload_n 0, 1) := by decide +kernel
theorem dX3_lay_25 : decode cX3_lay 25 = .ok (.getfield 19, 3) := by decide +kernel
theorem dX3_lay_28 : decode cX3_lay 28 = .ok (.iload_n 1, 1) := by decide +kernel
theorem dX3_lay_29 : decode cX3_lay 29 = .ok (.iload 4, 2) := by decide +kernel
theorem dX3_lay_31 : decode cX3_lay 31 = .ok (.i2b, 1) := by decide +kernel
theorem dX3_lay_32 : decode cX3_lay 32 = .ok (.bastore, 1) := by decide +kernel
theorem dX3_lay_33 : decode cX3_lay 33 = .ok (.return_, 1) := by decide +kernel
theorem dX3_isFault_0 : decode cX3_isFault 0 = .ok (.aload_n 0, 1) := by decide +kernel
theorem dX3_isFault_1 : decode cX3_isFault 1 = .ok (.getfield 13, 3) := by decide +kernel
theorem dX3_isFault_4 : decode cX3_isFault 4 = .ok (.iload_n 1, 1) := by decide +kernel
theorem dX3_isFault_5 : decode cX3_isFault 5 = .ok (.baload, 1) := by decide +kernel
theorem dX3_isFault_6 : decode cX3_isFault 6 = .ok (.aload_n 0, 1) := by decide +kernel
theorem dX3_isFault_7 : decode cX3_isFault 7 = .ok (.getfield 7, 3) := by decide +kernel
theorem dX3_isFault_10 : decode cX3_isFault 10 = .ok (.iload_n 1, 1) := by decide +kernel
theorem dX3_isFault_11 : decode cX3_isFault 11 = .ok (.baload, 1) := by decide +kernel
theorem dX3_isFault_12 : decode cX3_isFault 12 = .ok (.if_icmp .eq 7, 3) := by decide +kernel
theorem dX3_isFault_15 : decode cX3_isFault 15 = .ok (.iconst 1, 1) := by decide +kernel
theorem dX3_isFault_16 : decode cX3_isFault 16 = .ok (.goto 4, 3) := by decide +kernel
theorem dX3_isFault_19 : decode cX3_isFault 19 = .ok (.iconst 0, 1) := by decide +kernel
theorem dX3_isFault_20 : decode cX3_isFault 20 = .ok (.ireturn, 1) := by decide +kernel
end
section
theorem dX4_init_0 : decode cX4_init 0 = .ok (.aload_n 0, 1) := by decide +kernel
theorem dX4_init_1 : decode cX4_init 1 = .ok (.invokespecial 3, 3) := by decide +kernel
theorem dX4_init_4 : decode cX4_init 4 = .ok (.aload_n 0, 1) := by decide +kernel
theorem dX4_init_5 : decode cX4_init 5 = .ok (.bipush 60, 2) := by decide +kernel
theorem dX4_init_7 : decode cX4_init 7 = .ok (.newarray .short, 2) := by decide +kernel
theorem dX4_init_9 : decode cX4_init 9 = .ok (.putfield 9, 3) := by decide +kernel
theorem dX4_init_12 : decode cX4_init 12 = .ok (.aload_n 0, 1) := by decide +kernel
theorem dX4_init_13 : decode cX4_init 13 = .ok (.iconst 0, 1) := by decide +kernel
theorem dX4_init_14 : decode cX4_init 14 = .ok (.putfield 15, 3) := by decide +kernel
theorem dX4_init_17 : decode cX4_init 17 = .ok (.return_, 1) := by decide +kernel
theorem dX4_holdNothing_0 : decode cX4_holdNothing 0 = .ok (.aload_n 0, 1) := by decide +kernel
theorem dX4_holdNothing_1 : decode cX4_holdNothing 1 = .ok (.iconst 0, 1) := by decide +kernel
theorem dX4_holdNothing_2 : decode cX4_holdNothing 2 = .ok (.putfield 15, 3) := by decide +kernel
theorem dX4_holdNothing_5 : decode cX4_holdNothing 5 = .ok (.aload_n 0, 1) := by decide +kernel
theorem dX4_holdNothing_6 : decode cX4_holdNothing 6 = .ok (.iconst 0, 1) := by decide +kernel
theorem dX4_holdNothing_7 : decode cX4_holdNothing 7 = .ok (.putfield 19, 3) := by decide +kernel
theorem dX4_holdNothing_10 : decode cX4_holdNothing 10 = .ok (.aload_n 0, 1) := by decide +kernel
theorem dX4_holdNothing_11 : decode cX4_holdNothing 11 = .ok (.aconst_null, 1) := by decide +kernel
theorem dX4_holdNothing_12 : decode cX4_holdNothing 12 = .ok (.putfield 22, 3) := by decide +kernel
theorem dX4_holdNothing_15 : decode cX4_holdNothing 15 = .ok (.return_, 1) := by decide +kernel
theorem dX4_holdStep_0 : decode cX4_holdStep 0 = .ok (.aload_n 0, 1) := by decide +kernel
theorem dX4_holdStep_1 : decode cX4_holdStep 1 = .ok (.iconst 1, 1) := by decide +kernel
theorem dX4_holdStep_2 : decode cX4_holdStep 2 = .ok (.putfield 15, 3) := by decide +kernel
theorem dX4_holdStep_5 : decode cX4_holdStep 5 = .ok (.aload_n 0, 1) := by decide +kernel
theorem dX4_holdStep_6 : decode cX4_holdStep 6 = .ok (.iconst 0, 1) := by decide +kernel
theorem dX4_holdStep_7 : decode cX4_holdStep 7 = .ok (.putfield 19, 3) := by decide +kernel
theorem dX4_holdStep_10 : decode cX4_holdStep 10 = .ok (.aload_n 0, 1) := by decide +kernel
theorem dX4_holdStep_11 : decode cX4_holdStep 11 = .ok (.aload_n 1, 1) := by decide +kernel
theorem dX4_holdStep_12 : decode cX4_holdStep 12 = .ok (.putfield 22, 3) := by decide +kernel
theorem dX4_holdStep_15 : decode cX4_holdStep 15 = .ok (.return_, 1) := by decide +kernel
theorem dX4_holdZeros_0 : decode cX4_holdZeros 0 = .ok (.aload_n 0, 1) := by decide +kernel
theorem dX4_holdZeros_1 : decode cX4_holdZeros 1 = .ok (.iload_n 1, 1) := by decide +kernel
theorem dX4_holdZeros_2 : decode cX4_holdZeros 2 = .ok (.putfield 15, 3) := by decide +kernel
theorem dX4_holdZeros_5 : decode cX4_holdZeros 5 = .ok (.aload_n 0, 1) := by decide +kernel
theorem dX4_holdZeros_6 : decode cX4_holdZeros 6 = .ok (.iconst 0, 1) := by decide +kernel
theorem dX4_holdZeros_7 : decode cX4_holdZeros 7 = .ok (.iload_n 2, 1) := by decide +kernel
theorem dX4_holdZeros_8 : decode cX4_holdZeros 8 = .ok (.aload_n 0, 1) := by decide +kernel
theorem dX4_holdZeros_9 : decode cX4_holdZeros 9 = .ok (.getfield 9, 3) := by decide +kernel
theorem dX4_holdZeros_12 : decode cX4_holdZeros 12 = .ok (.arraylength, 1) := by decide +kernel
theorem dX4_holdZeros_13 : decode cX4_holdZeros 13 = .ok (.invokestatic 26, 3) := by decide +kernel
theorem dX4_holdZeros_16 : decode cX4_holdZeros 16 = .ok (.invokestatic 32, 3) := by decide +kernel
theorem dX4_holdZeros_19 : decode cX4_holdZeros 19 = .ok (.putfield 19, 3) := by decide +kernel
theorem dX4_holdZeros_22 : decode cX4_holdZeros 22 = .ok (.aload_n 0, 1) := by decide +kernel
theorem dX4_holdZeros_23 : decode cX4_holdZeros 23 = .ok (.aconst_null, 1) := by decide +kernel
theorem dX4_holdZeros_24 : decode cX4_holdZeros 24 = .ok (.putfield 22, 3) := by decide +kernel
theorem dX4_holdZeros_27 : decode cX4_holdZeros 27 = .ok (.iconst 0, 1) := by decide +kernel
theorem dX4_holdZeros_28 : decode cX4_holdZeros 28 = .ok (.istore_n 3, 1) := by decide +kernel
theorem dX4_holdZeros_29 : decode cX4_holdZeros 29 = .ok (.iload_n 3, 1) := by decide +kernel
theorem dX4_holdZeros_30 : decode cX4_holdZeros 30 = .ok (.aload_n 0, 1) := by decide +kernel
theorem dX4_holdZeros_31 : decode cX4_holdZeros 31 = .ok (.getfield 19, 3) := by decide +kernel
theorem dX4_holdZeros_34 : decode cX4_holdZeros 34 = .ok (.if_icmp .ge 16, 3) := by decide +kernel
theorem dX4_holdZeros_37 : decode cX4_holdZeros 37 = .ok (.aload_n 0, 1) := by decide +kernel
theorem dX4_holdZeros_38 : decode cX4_holdZeros 38 = .ok (.getfield 9, 3) := by decide +kernel
theorem dX4_holdZeros_41 : decode cX4_holdZeros 41 = .ok (.iload_n 3, 1) := by decide +kernel
theorem dX4_holdZeros_42 : decode cX4_holdZeros 42 = .ok (.iconst 0, 1) := by decide +kernel
theorem dX4_holdZeros_43 : decode cX4_holdZeros 43 = .ok (.sastore, 1) := by decide +kernel
theorem dX4_holdZeros_44 : decode cX4_holdZeros 44 = .ok (.iinc 3 1, 3) := by decide +kernel
theorem dX4_holdZeros_47 : decode cX4_holdZeros 47 = .ok (.goto (-18), 3) := by decide +kernel
theorem dX4_holdZeros_50 : decode cX4_holdZeros 50 = .ok (.return_, 1) := by decide +kernel
theorem dX4_holdsRow_0 : decode cX4_holdsRow 0 = .ok (.aload_n 0, 1) := by decide +kernel
theorem dX4_holdsRow_1 : decode cX4_holdsRow 1 = .ok (.getfield 15, 3) := by decide +kernel
theorem dX4_holdsRow_4 : decode cX4_holdsRow 4 = .ok (.iconst 3, 1) := by decide +kernel
theorem dX4_holdsRow_5 : decode cX4_holdsRow 5 = .ok (.if_icmp .eq 11, 3) := by decide +kernel
theorem dX4_holdsRow_8 : decode cX4_holdsRow 8 = .ok (.aload_n 0, 1) := by decide +kernel
theorem dX4_holdsRow_9 : decode cX4_holdsRow 9 = .ok (.getfield 15, 3) := by decide +kernel
theorem dX4_holdsRow_12 : decode cX4_holdsRow 12 = .ok (.iconst 4, 1) := by decide +kernel
theorem dX4_holdsRow_13 : decode cX4_holdsRow 13 = .ok (.if_icmp .ne 7, 3) := by decide +kernel
theorem dX4_holdsRow_16 : decode cX4_holdsRow 16 = .ok (.iconst 1, 1) := by decide +kernel
theorem dX4_holdsRow_17 : decode cX4_holdsRow 17 = .ok (.goto 4, 3) := by decide +kernel
theorem dX4_holdsRow_20 : decode cX4_holdsRow 20 = .ok (.iconst 0, 1) := by decide +kernel
theorem dX4_holdsRow_21 : decode cX4_holdsRow 21 = .ok (.ireturn, 1) := by decide +kernel
theorem dX4_hasPlaces_0 : decode cX4_hasPlaces 0 = .ok (.iload_n 2, 1) := by decide +kernel
theorem dX4_hasPlaces_1 : decode cX4_hasPlaces 1 = .ok (.ifCond .lt 29, 3) := by decide +kernel
theorem dX4_hasPlaces_4 : decode cX4_hasPlaces 4 = .ok (.iload_n 2, 1) := by decide +kernel
theorem dX4_hasPlaces_5 : decode cX4_hasPlaces 5 = .ok (.aload_n 0, 1) := by decide +kernel
theorem dX4_hasPlaces_6 : decode cX4_hasPlaces 6 = .ok (.getfield 19, 3) := by decide +kernel
theorem dX4_hasPlaces_9 : decode cX4_hasPlaces 9 = .ok (.if_icmp .gt 21, 3) := by decide +kernel
theorem dX4_hasPlaces_12 : decode cX4_hasPlaces 12 = .ok (.iload_n 1, 1) := by decide +kernel
theorem dX4_hasPlaces_13 : decode cX4_hasPlaces 13 = .ok (.ifCond .lt 17, 3) := by decide +kernel
theorem dX4_hasPlaces_16 : decode cX4_hasPlaces 16 = .ok (.iload_n 1, 1) := by decide +kernel
theorem dX4_hasPlaces_17 : decode cX4_hasPlaces 17 = .ok (.aload_n 0, 1) := by decide +kernel
theorem dX4_hasPlaces_18 : decode cX4_hasPlaces 18 = .ok (.getfield 19, 3) := by decide +kernel
theorem dX4_hasPlaces_21 : decode cX4_hasPlaces 21 = .ok (.iload_n 2, 1) := by decide +kernel
theorem dX4_hasPlaces_22 : decode cX4_hasPlaces 22 = .ok (.isub, 1) := by decide +kernel
theorem dX4_hasPlaces_23 : decode cX4_hasPlaces 23 = .ok (.if_icmp .gt 7, 3) := by decide +kernel
theorem dX4_hasPlaces_26 : decode cX4_hasPlaces 26 = .ok (.iconst 1, 1) := by decide +kernel
theorem dX4_hasPlaces_27 : decode cX4_hasPlaces 27 = .ok (.goto 4, 3) := by decide +kernel
theorem dX4_hasPlaces_30 : decode cX4_hasPlaces 30 = .ok (.iconst 0, 1) := by decide +kernel
theorem dX4_hasPlaces_31 : decode cX4_hasPlaces 31 = .ok (.ireturn, 1) := by decide +kernel
end
section
theorem dX5_init_0 : decode cX5_init 0 = .ok (.aload_n 0, 1) := by decide +kernel
theorem dX5_init_1 : decode cX5_init 1 = .ok (.invokespecial 3, 3) := by decide +kernel
theorem dX5_init_4 : decode cX5_init 4 = .ok (.aload_n 0, 1) := by decide +kernel
theorem dX5_init_5 : decode cX5_init 5 = .ok (.iload_n 1, 1) := by decide +kernel
theorem dX5_init_6 : decode cX5_init 6 = .ok (.putfield 9, 3) := by decide +kernel
theorem dX5_init_9 : decode cX5_init 9 = .ok (.aload_n 0, 1) := by decide +kernel
theorem dX5_init_10 : decode cX5_init 10 = .ok (.iload_n 2, 1) := by decide +kernel
theorem dX5_init_11 : decode cX5_init 11 = .ok (.putfield 15, 3) := by decide +kernel
theorem dX5_init_14 : decode cX5_init 14 = .ok (.aload_n 0, 1) := by decide +kernel
theorem dX5_init_15 : decode cX5_init 15 = .ok (.iload_n 3, 1) := by decide +kernel
theorem dX5_init_16 : decode cX5_init 16 = .ok (.putfield 18, 3) := by decide +kernel
theorem dX5_init_19 : decode cX5_init 19 = .ok (.return_, 1) := by decide +kernel
theorem dX5_hasN_0 : decode cX5_hasN 0 = .ok (.aload_n 0, 1) := by decide +kernel
theorem dX5_hasN_1 : decode cX5_hasN 1 = .ok (.getfield 9, 3) := by decide +kernel
theorem dX5_hasN_4 : decode cX5_hasN 4 = .ok (.iconst 1, 1) := by decide +kernel
theorem dX5_hasN_5 : decode cX5_hasN 5 = .ok (.if_icmp .eq 15, 3) := by decide +kernel
theorem dX5_hasN_8 : decode cX5_hasN 8 = .ok (.aload_n 0, 1) := by decide +kernel
theorem dX5_hasN_9 : decode cX5_hasN 9 = .ok (.getfield 9, 3) := by decide +kernel
theorem dX5_hasN_12 : decode cX5_hasN 12 = .ok (.iconst 2, 1) := by decide +kernel
theorem dX5_hasN_13 : decode cX5_hasN 13 = .ok (.if_icmp .eq 7, 3) := by decide +kernel
theorem dX5_hasN_16 : decode cX5_hasN 16 = .ok (.iconst 1, 1) := by decide +kernel
theorem dX5_hasN_17 : decode cX5_hasN 17 = .ok (.goto 4, 3) := by decide +kernel
theorem dX5_hasN_20 : decode cX5_hasN 20 = .ok (.iconst 0, 1) := by decide +kernel
theorem dX5_hasN_21 : decode cX5_hasN 21 = .ok (.ireturn, 1) := by decide +kernel
theorem dX5_hasColour_0 : decode cX5_hasColour 0 = .ok (.aload_n 0, 1) := by decide +kernel
theorem dX5_hasColour_1 : decode cX5_hasColour 1 = .ok (.getfield 9, 3) := by decide +kernel
theorem dX5_hasColour_4 : decode cX5_hasColour 4 = .ok (.ifCond .eq 11, 3) := by decide +kernel
theorem dX5_hasColour_7 : decode cX5_hasColour 7 = .ok (.aload_n 0, 1) := by decide +kernel
theorem dX5_hasColour_8 : decode cX5_hasColour 8 = .ok (.getfield 9, 3) := by decide +kernel
theorem dX5_hasColour_11 : decode cX5_hasColour 11 = .ok (.iconst 1, 1) := by decide +kernel
theorem dX5_hasColour_12 : decode cX5_hasColour 12 = .ok (.if_icmp .ne 7, 3) := by decide +kernel
theorem dX5_hasColour_15 : decode cX5_hasColour 15 = .ok (.iconst 1, 1) := by decide +kernel
theorem dX5_hasColour_16 : decode cX5_hasColour 16 = .ok (.goto 4, 3) := by decide +kernel
theorem dX5_hasColour_19 : decode cX5_hasColour 19 = .ok (.iconst 0, 1) := by decide +kernel
theorem dX5_hasColour_20 : decode cX5_hasColour 20 = .ok (.ireturn, 1) := by decide +kernel
theorem dX5_heft_0 : decode cX5_heft 0 = .ok (.bipush 10, 2) := by decide +kernel
theorem dX5_heft_2 : decode cX5_heft 2 = .ok (.aload_n 0, 1) := by decide +kernel
theorem dX5_heft_3 : decode cX5_heft 3 = .ok (.getfield 9, 3) := by decide +kernel
theorem dX5_heft_6 : decode cX5_heft 6 = .ok (.iadd, 1) := by decide +kernel
theorem dX5_heft_7 : decode cX5_heft 7 = .ok (.istore_n 1, 1) := by decide +kernel
theorem dX5_heft_8 : decode cX5_heft 8 = .ok (.aload_n 0, 1) := by decide +kernel
theorem dX5_heft_9 : decode cX5_heft 9 = .ok (.invokevirtual 21, 3) := by decide +kernel
theorem dX5_heft_12 : decode cX5_heft 12 = .ok (.ifCond .eq 10, 3) := by decide +kernel
theorem dX5_heft_15 : decode cX5_heft 15 = .ok (.iload_n 1, 1) := by decide +kernel
theorem dX5_heft_16 : decode cX5_heft 16 = .ok (.aload_n 0, 1) := by decide +kernel
theorem dX5_heft_17 : decode cX5_heft 17 = .ok (.getfield 18, 3) := by decide +kernel
theorem dX5_heft_20 : decode cX5_heft 20 = .ok (.iadd, 1) := by decide +kernel
theorem dX5_heft_21 : decode cX5_heft 21 = .ok (.istore_n 1, 1) := by decide +kernel
theorem dX5_heft_22 : decode cX5_heft 22 = .ok (.aload_n 0, 1) := by decide +kernel
theorem dX5_heft_23 : decode cX5_heft 23 = .ok (.invokevirtual 25, 3) := by decide +kernel
theorem dX5_heft_26 : decode cX5_heft 26 = .ok (.ifCond .eq 10, 3) := by decide +kernel
theorem dX5_heft_29 : decode cX5_heft 29 = .ok (.iload_n 1, 1) := by decide +kernel
theorem dX5_heft_30 : decode cX5_heft 30 = .ok (.aload_n 0, 1) := by decide +kernel
theorem dX5_heft_31 : decode cX5_heft 31 = .ok (.getfield 15, 3) := by decide +kernel
theorem dX5_heft_34 : decode cX5_heft 34 = .ok (.iadd, 1) := by decide +kernel
theorem dX5_heft_35 : decode cX5_heft 35 = .ok (.istore_n 1, 1) := by decide +kernel
theorem dX5_heft_36 : decode cX5_heft 36 = .ok (.aload_n 0, 1) := by decide +kernel
theorem dX5_heft_37 : decode cX5_heft 37 = .ok (.getfield 9, 3) := by decide +kernel
theorem dX5_heft_40 : decode cX5_heft 40 = .ok (.tableswitch 47 1 3 #[28, 33, 39], 28) := by decide +kernel
theorem dX5_heft_68 : decode cX5_heft 68 = .ok (.iload_n 1, 1) := by decide +kernel
theorem dX5_heft_69 : decode cX5_heft 69 = .ok (.bipush 100, 2) := by decide +kernel
theorem dX5_heft_71 : decode cX5_heft 71 = .ok (.iadd, 1) := by decide +kernel
theorem dX5_heft_72 : decode cX5_heft 72 = .ok (.ireturn, 1) := by decide +kernel
theorem dX5_heft_73 : decode cX5_heft 73 = .ok (.iload_n 1, 1) := by decide +kernel
theorem dX5_heft_74 : decode cX5_heft 74 = .ok (.sipush 1000, 3) := by decide +kernel
theorem dX5_heft_77 : decode cX5_heft 77 = .ok (.iadd, 1) := by decide +kernel
theorem dX5_heft_78 : decode cX5_heft 78 = .ok (.ireturn, 1) := by decide +kernel
theorem dX5_heft_79 : decode cX5_heft 79 = .ok (.iconst 2, 1) := by decide +kernel
theorem dX5_heft_80 : decode cX5_heft 80 = .ok (.iload_n 1, 1) := by decide +kernel
theorem dX5_heft_81 : decode cX5_heft 81 = .ok (.sipush 1000, 3) := by decide +kernel
theorem dX5_heft_84 : decode cX5_heft 84 = .ok (.iadd, 1) := by decide +kernel
theorem dX5_heft_85 : decode cX5_heft 85 = .ok (.imul, 1) := by decide +kernel
theorem dX5_heft_86 : decode cX5_heft 86 = .ok (.ireturn, 1) := by decide +kernel
theorem dX5_heft_87 : decode cX5_heft 87 = .ok (.iload_n 1, 1) := by decide +kernel
theorem dX5_heft_88 : decode cX5_heft 88 = .ok (.ireturn, 1) := by decide +kernel
theorem dX5_fail_0 : decode cX5_fail 0 = .ok (.aload_n 0, 1) := by decide +kernel
theorem dX5_fail_1 : decode cX5_fail 1 = .ok (.invokevirtual 25, 3) := by decide +kernel
theorem dX5_fail_4 : decode cX5_fail 4 = .ok (.ifCond .eq 13, 3) := by decide +kernel
theorem dX5_fail_7 : decode cX5_fail 7 = .ok (.new 28, 3) := by decide +kernel
theorem dX5_fail_10 : decode cX5_fail 10 = .ok (.dup, 1) := by decide +kernel
theorem dX5_fail_11 : decode cX5_fail 11 = .ok (.ldc 30, 2) := by decide +kernel
theorem dX5_fail_13 : decode cX5_fail 13 = .ok (.invokespecial 32, 3) := by decide +kernel
theorem dX5_fail_16 : decode cX5_fail 16 = .ok (.athrow, 1) := by decide +kernel
theorem dX5_fail_17 : decode cX5_fail 17 = .ok (.return_, 1) := by decide +kernel
end
section
theorem dX6_init_0 : decode cX6_init 0 = .ok (.aload_n 0, 1) := by decide +kernel
theorem dX6_init_1 : decode cX6_init 1 = .ok (.invokespecial 3, 3) := by decide +kernel
theorem dX6_init_4 : decode cX6_init 4 = .ok (.aload_n 0, 1) := by decide +kernel
theorem dX6_init_5 : decode cX6_init 5 = .ok (.bipush 8, 2) := by decide +kernel
theorem dX6_init_7 : decode cX6_init 7 = .ok (.newarray .int, 2) := by decide +kernel
theorem dX6_init_9 : decode cX6_init 9 = .ok (.putfield 9, 3) := by decide +kernel
theorem dX6_init_12 : decode cX6_init 12 = .ok (.aload_n 0, 1) := by decide +kernel
theorem dX6_init_13 : decode cX6_init 13 = .ok (.bipush 8, 2) := by decide +kernel
theorem dX6_init_15 : decode cX6_init 15 = .ok (.newarray .int, 2) := by decide +kernel
theorem dX6_init_17 : decode cX6_init 17 = .ok (.putfield 15, 3) := by decide +kernel
theorem dX6_init_20 : decode cX6_init 20 = .ok (.aload_n 0, 1) := by decide +kernel
theorem dX6_init_21 : decode cX6_init 21 = .ok (.bipush 64, 2) := by decide +kernel
theorem dX6_init_23 : decode cX6_init 23 = .ok (.newarray .int, 2) := by decide +kernel
theorem dX6_init_25 : decode cX6_init 25 = .ok (.putfield 18, 3) := by decide +kernel
theorem dX6_init_28 : decode cX6_init 28 = .ok (.aload_n 0, 1) := by decide +kernel
theorem dX6_init_29 : decode cX6_init 29 = .ok (.bipush 64, 2) := by decide +kernel
theorem dX6_init_31 : decode cX6_init 31 = .ok (.newarray .int, 2) := by decide +kernel
theorem dX6_init_33 : decode cX6_init 33 = .ok (.putfield 21, 3) := by decide +kernel
theorem dX6_init_36 : decode cX6_init 36 = .ok (.aload_n 0, 1) := by decide +kernel
theorem dX6_init_37 : decode cX6_init 37 = .ok (.bipush 8, 2) := by decide +kernel
theorem dX6_init_39 : decode cX6_init 39 = .ok (.newarray .int, 2) := by decide +kernel
theorem dX6_init_41 : decode cX6_init 41 = .ok (.putfield 24, 3) := by decide +kernel
theorem dX6_init_44 : decode cX6_init 44 = .ok (.return_, 1) := by decide +kernel
theorem dX6_add_0 : decode cX6_add 0 = .ok (.aload_n 0, 1) := by decide +kernel
theorem dX6_add_1 : decode cX6_add 1 = .ok (.getfield 27, 3) := by decide +kernel
theorem dX6_add_4 : decode cX6_add 4 = .ok (.bipush 8, 2) := by decide +kernel
theorem dX6_add_6 : decode cX6_add 6 = .ok (.if_icmp .lt 6, 3) := by decide +kernel
theorem dX6_add_9 : decode cX6_add 9 = .ok (.bipush (-2), 2) := by decide +kernel
theorem dX6_add_11 : decode cX6_add 11 = .ok (.ireturn, 1) := by decide +kernel
theorem dX6_add_12 : decode cX6_add 12 = .ok (.aload_n 0, 1) := by decide +kernel
theorem dX6_add_13 : decode cX6_add 13 = .ok (.getfield 9, 3) := by decide +kernel
theorem dX6_add_16 : decode cX6_add 16 = .ok (.aload_n 0, 1) := by decide +kernel
theorem dX6_add_17 : decode cX6_add 17 = .ok (.getfield 27, 3) := by decide +kernel
theorem dX6_add_20 : decode cX6_add 20 = .ok (.iload_n 1, 1) := by decide +kernel
theorem dX6_add_21 : decode cX6_add 21 = .ok (.iastore, 1) := by decide +kernel
theorem dX6_add_22 : decode cX6_add 22 = .ok (.aload_n 0, 1) := by decide +kernel
theorem dX6_add_23 : decode cX6_add 23 = .ok (.dup, 1) := by decide +kernel
theorem dX6_add_24 : decode cX6_add 24 = .ok (.getfield 27, 3) := by decide +kernel
theorem dX6_add_27 : decode cX6_add 27 = .ok (.iconst 1, 1) := by decide +kernel
theorem dX6_add_28 : decode cX6_add 28 = .ok (.iadd, 1) := by decide +kernel
theorem dX6_add_29 : decode cX6_add 29 = .ok (.putfield 27, 3) := by decide +kernel
theorem dX6_add_32 : decode cX6_add 32 = .ok (.aload_n 0, 1) := by decide +kernel
theorem dX6_add_33 : decode cX6_add 33 = .ok (.invokevirtual 31, 3) := by decide +kernel
theorem dX6_add_36 : decode cX6_add 36 = .ok (.aload_n 0, 1) := by decide +kernel
theorem dX6_add_37 : decode cX6_add 37 = .ok (.getfield 27, 3) := by decide +kernel
theorem dX6_add_40 : decode cX6_add 40 = .ok (.iconst 1, 1) := by decide +kernel
theorem dX6_add_41 : decode cX6_add 41 = .ok (.isub, 1) := by decide +kernel
theorem dX6_add_42 : decode cX6_add 42 = .ok (.ireturn, 1) := by decide +kernel
theorem dX6_apart_0 : decode cX6_apart 0 = .ok (.aload_n 0, 1) := by decide +kernel
theorem dX6_apart_1 : decode cX6_apart 1 = .ok (.getfield 9, 3) := by decide +kernel
theorem dX6_apart_4 : decode cX6_apart 4 = .ok (.iload_n 1, 1) := by decide +kernel
theorem dX6_apart_5 : decode cX6_apart 5 = .ok (.iaload, 1) := by decide +kernel
theorem dX6_apart_6 : decode cX6_apart 6 = .ok (.aload_n 0, 1) := by decide +kernel
theorem dX6_apart_7 : decode cX6_apart 7 = .ok (.getfield 9, 3) := by decide +kernel
theorem dX6_apart_10 : decode cX6_apart 10 = .ok (.iload_n 2, 1) := by decide +kernel
theorem dX6_apart_11 : decode cX6_apart 11 = .ok (.iaload, 1) := by decide +kernel
theorem dX6_apart_12 : decode cX6_apart 12 = .ok (.ixor, 1) := by decide +kernel
theorem dX6_apart_13 : decode cX6_apart 13 = .ok (.invokestatic 34, 3) := by decide +kernel
theorem dX6_apart_16 : decode cX6_apart 16 = .ok (.ireturn, 1) := by decide +kernel
theorem dX6_growTree_0 : decode cX6_growTree 0 = .ok (.aload_n 0, 1) := by decide +kernel
theorem dX6_growTree_1 : decode cX6_growTree 1 = .ok (.iconst 0, 1) := by decide +kernel
theorem dX6_growTree_2 : decode cX6_growTree 2 = .ok (.putfield 40, 3) := by decide +kernel
theorem dX6_growTree_5 : decode cX6_growTree 5 = .ok (.aload_n 0, 1) := by decide +kernel
theorem dX6_growTree_6 : decode cX6_growTree 6 = .ok (.iconst 0, 1) := by decide +kernel
theorem dX6_growTree_7 : decode cX6_growTree 7 = .ok (.putfield 43, 3) := by decide +kernel
theorem dX6_growTree_10 : decode cX6_growTree 10 = .ok (.iconst 0, 1) := by decide +kernel
theorem dX6_growTree_11 : decode cX6_growTree 11 = .ok (.istore_n 1, 1) := by decide +kernel
theorem dX6_growTree_12 : decode cX6_growTree 12 = .ok (.iload_n 1, 1) := by decide +kernel
theorem dX6_growTree_13 : decode cX6_growTree 13 = .ok (.aload_n 0, 1) := by decide +kernel
theorem dX6_growTree_14 : decode cX6_growTree 14 = .ok (.getfield 27, 3) := by decide +kernel
theorem dX6_growTree_17 : decode cX6_growTree 17 = .ok (.if_icmp .ge 16, 3) := by decide +kernel
theorem dX6_growTree_20 : decode cX6_growTree 20 = .ok (.aload_n 0, 1) := by decide +kernel
theorem dX6_growTree_21 : decode cX6_growTree 21 = .ok (.getfield 15, 3) := by decide +kernel
theorem dX6_growTree_24 : decode cX6_growTree 24 = .ok (.iload_n 1, 1) := by decide +kernel
theorem dX6_growTree_25 : decode cX6_growTree 25 = .ok (.iload_n 1, 1) := by decide +kernel
theorem dX6_growTree_26 : decode cX6_growTree 26 = .ok (.iastore, 1) := by decide +kernel
theorem dX6_growTree_27 : decode cX6_growTree 27 = .ok (.iinc 1 1, 3) := by decide +kernel
theorem dX6_growTree_30 : decode cX6_growTree 30 = .ok (.goto (-18), 3) := by decide +kernel
theorem dX6_growTree_33 : decode cX6_growTree 33 = .ok (.iconst 0, 1) := by decide +kernel
theorem dX6_growTree_34 : decode cX6_growTree 34 = .ok (.istore_n 1, 1) := by decide +kernel
theorem dX6_growTree_35 : decode cX6_growTree 35 = .ok (.iload_n 1, 1) := by decide +kernel
theorem dX6_growTree_36 : decode cX6_growTree 36 = .ok (.bipush 8, 2) := by decide +kernel
theorem dX6_growTree_38 : decode cX6_growTree 38 = .ok (.if_icmp .gt 74, 3) := by decide +kernel
theorem dX6_growTree_41 : decode cX6_growTree 41 = .ok (.iconst 0, 1) := by decide +kernel
theorem dX6_growTree_42 : decode cX6_growTree 42 = .ok (.istore_n 2, 1) := by decide +kernel
theorem dX6_growTree_43 : decode cX6_growTree 43 = .ok (.iload_n 2, 1) := by decide +kernel
theorem dX6_growTree_44 : decode cX6_growTree 44 = .ok (.aload_n 0, 1) := by decide +kernel
theorem dX6_growTree_45 : decode cX6_growTree 45 = .ok (.getfield 27, 3) := by decide +kernel
theorem dX6_growTree_48 : decode cX6_growTree 48 = .ok (.if_icmp .ge 58, 3) := by decide +kernel
theorem dX6_growTree_51 : decode cX6_growTree 51 = .ok (.iload_n 2, 1) := by decide +kernel
theorem dX6_growTree_52 : decode cX6_growTree 52 = .ok (.iconst 1, 1) := by decide +kernel
theorem dX6_growTree_53 : decode cX6_growTree 53 = .ok (.iadd, 1) := by decide +kernel
theorem dX6_growTree_54 : decode cX6_growTree 54 = .ok (.istore_n 3, 1) := by decide +kernel
theorem dX6_growTree_55 : decode cX6_growTree 55 = .ok (.iload_n 3, 1) := by decide +kernel
theorem dX6_growTree_56 : decode cX6_growTree 56 = .ok (.aload_n 0, 1) := by decide +kernel
theorem dX6_growTree_57 : decode cX6_growTree 57 = .ok (.getfield 27, 3) := by decide +kernel
theorem dX6_growTree_60 : decode cX6_growTree 60 = .ok (.if_icmp .ge 40, 3) := by decide +kernel
theorem dX6_growTree_63 : decode cX6_growTree 63 = .ok (.aload_n 0, 1) := by decide +kernel
theorem dX6_growTree_64 : decode cX6_growTree 64 = .ok (.iload_n 2, 1) := by decide +kernel
theorem dX6_growTree_65 : decode cX6_growTree 65 = .ok (.iload_n 3, 1) := by decide +kernel
theorem dX6_growTree_66 : decode cX6_growTree 66 = .ok (.invokevirtual 46, 3) := by decide +kernel
theorem dX6_growTree_69 : decode cX6_growTree 69 = .ok (.iload_n 1, 1) := by decide +kernel
theorem dX6_growTree_70 : decode cX6_growTree 70 = .ok (.if_icmp .ne 24, 3) := by decide +kernel
theorem dX6_growTree_73 : decode cX6_growTree 73 = .ok (.aload_n 0, 1) := by decide +kernel
theorem dX6_growTree_74 : decode cX6_growTree 74 = .ok (.getfield 15, 3) := by decide +kernel
theorem dX6_growTree_77 : decode cX6_growTree 77 = .ok (.iload_n 2, 1) := by decide +kernel
theorem dX6_growTree_78 : decode cX6_growTree 78 = .ok (.iaload, 1) := by decide +kernel
theorem dX6_growTree_79 : decode cX6_growTree 79 = .ok (.aload_n 0, 1) := by decide +kernel
theorem dX6_growTree_80 : decode cX6_growTree 80 = .ok (.getfield 15, 3) := by decide +kernel
theorem dX6_growTree_83 : decode cX6_growTree 83 = .ok (.iload_n 3, 1) := by decide +kernel
theorem dX6_growTree_84 : decode cX6_growTree 84 = .ok (.iaload, 1) := by decide +kernel
theorem dX6_growTree_85 : decode cX6_growTree 85 = .ok (.if_icmp .eq 9, 3) := by decide +kernel
theorem dX6_growTree_88 : decode cX6_growTree 88 = .ok (.aload_n 0, 1) := by decide +kernel
theorem dX6_growTree_89 : decode cX6_growTree 89 = .ok (.iload_n 2, 1) := by decide +kernel
theorem dX6_growTree_90 : decode cX6_growTree 90 = .ok (.iload_n 3, 1) := by decide +kernel
theorem dX6_growTree_91 : decode cX6_growTree 91 = .ok (.invokevirtual 50, 3) := by decide +kernel
theorem dX6_growTree_94 : decode cX6_growTree 94 = .ok (.iinc 3 1, 3) := by decide +kernel
theorem dX6_growTree_97 : decode cX6_growTree 97 = .ok (.goto (-42), 3) := by decide +kernel
theorem dX6_growTree_100 : decode cX6_growTree 100 = .ok (.iinc 2 1, 3) := by decide +kernel
theorem dX6_growTree_103 : decode cX6_growTree 103 = .ok (.goto (-60), 3) := by decide +kernel
theorem dX6_growTree_106 : decode cX6_growTree 106 = .ok (.iinc 1 1, 3) := by decide +kernel
theorem dX6_growTree_109 : decode cX6_growTree 109 = .ok (.goto (-74), 3) := by decide +kernel
theorem dX6_growTree_112 : decode cX6_growTree 112 = .ok (.return_, 1) := by decide +kernel
theorem dX6_join_0 : decode cX6_join 0 = .ok (.aload_n 0, 1) := by decide +kernel
theorem dX6_join_1 : decode cX6_join 1 = .ok (.getfield 40, 3) := by decide +kernel
theorem dX6_join_4 : decode cX6_join 4 = .ok (.aload_n 0, 1) := by decide +kernel
theorem dX6_join_5 : decode cX6_join 5 = .ok (.getfield 24, 3) := by decide +kernel
theorem dX6_join_8 : decode cX6_join 8 = .ok (.arraylength, 1) := by decide +kernel
theorem dX6_join_9 : decode cX6_join 9 = .ok (.if_icmp .ge 28, 3) := by decide +kernel
theorem dX6_join_12 : decode cX6_join 12 = .ok (.aload_n 0, 1) := by decide +kernel
theorem dX6_join_13 : decode cX6_join 13 = .ok (.getfield 24, 3) := by decide +kernel
theorem dX6_join_16 : decode cX6_join 16 = .ok (.aload_n 0, 1) := by decide +kernel
theorem dX6_join_17 : decode cX6_join 17 = .ok (.getfield 40, 3) := by decide +kernel
theorem dX6_join_20 : decode cX6_join 20 = .ok (.bipush 10, 2) := by decide +kernel
theorem dX6_join_22 : decode cX6_join 22 = .ok (.iload_n 1, 1) := by decide +kernel
theorem dX6_join_23 : decode cX6_join 23 = .ok (.imul, 1) := by decide +kernel
theorem dX6_join_24 : decode cX6_join 24 = .ok (.iload_n 2, 1) := by decide +kernel
theorem dX6_join_25 : decode cX6_join 25 = .ok (.iadd, 1) := by decide +kernel
theorem dX6_join_26 : decode cX6_join 26 = .ok (.iastore, 1) := by decide +kernel
theorem dX6_join_27 : decode cX6_join 27 = .ok (.aload_n 0, 1) := by decide +kernel
theorem dX6_join_28 : decode cX6_join 28 = .ok (.dup, 1) := by decide +kernel
theorem dX6_join_29 : decode cX6_join 29 = .ok (.getfield 40, 3) := by decide +kernel
theorem dX6_join_32 : decode cX6_join 32 = .ok (.iconst 1, 1) := by decide +kernel
theorem dX6_join_33 : decode cX6_join 33 = .ok (.iadd, 1) := by decide +kernel
theorem dX6_join_34 : decode cX6_join 34 = .ok (.putfield 40, 3) := by decide +kernel
theorem dX6_join_37 : decode cX6_join 37 = .ok (.aload_n 0, 1) := by decide +kernel
theorem dX6_join_38 : decode cX6_join 38 = .ok (.dup, 1) := by decide +kernel
theorem dX6_join_39 : decode cX6_join 39 = .ok (.getfield 43, 3) := by decide +kernel
theorem dX6_join_42 : decode cX6_join 42 = .ok (.aload_n 0, 1) := by decide +kernel
theorem dX6_join_43 : decode cX6_join 43 = .ok (.iload_n 1, 1) := by decide +kernel
theorem dX6_join_44 : decode cX6_join 44 = .ok (.iload_n 2, 1) := by decide +kernel
theorem dX6_join_45 : decode cX6_join 45 = .ok (.invokevirtual 46, 3) := by decide +kernel
theorem dX6_join_48 : decode cX6_join 48 = .ok (.iadd, 1) := by decide +kernel
theorem dX6_join_49 : decode cX6_join 49 = .ok (.putfield 43, 3) := by decide +kernel
theorem dX6_join_52 : decode cX6_join 52 = .ok (.aload_n 0, 1) := by decide +kernel
theorem dX6_join_53 : decode cX6_join 53 = .ok (.getfield 15, 3) := by decide +kernel
theorem dX6_join_56 : decode cX6_join 56 = .ok (.iload_n 2, 1) := by decide +kernel
theorem dX6_join_57 : decode cX6_join 57 = .ok (.iaload, 1) := by decide +kernel
theorem dX6_join_58 : decode cX6_join 58 = .ok (.istore_n 3, 1) := by decide +kernel
theorem dX6_join_59 : decode cX6_join 59 = .ok (.iconst 0, 1) := by decide +kernel
theorem dX6_join_60 : decode cX6_join 60 = .ok (.istore 4, 2) := by decide +kernel
theorem dX6_join_62 : decode cX6_join 62 = .ok (.iload 4, 2) := by decide +kernel
theorem dX6_join_64 : decode cX6_join 64 = .ok (.aload_n 0, 1) := by decide +kernel
theorem dX6_join_65 : decode cX6_join 65 = .ok (.getfield 27, 3) := by decide +kernel
theorem dX6_join_68 : decode cX6_join 68 = .ok (.if_icmp .ge 33, 3) := by decide +kernel
theorem dX6_join_71 : decode cX6_join 71 = .ok (.aload_n 0, 1) := by decide +kernel
theorem dX6_join_72 : decode cX6_join 72 = .ok (.getfield 15, 3) := by decide +kernel
theorem dX6_join_75 : decode cX6_join 75 = .ok (.iload 4, 2) := by decide +kernel
theorem dX6_join_77 : decode cX6_join 77 = .ok (.iaload, 1) := by decide +kernel
theorem dX6_join_78 : decode cX6_join 78 = .ok (.iload_n 3, 1) := by decide +kernel
theorem dX6_join_79 : decode cX6_join 79 = .ok (.if_icmp .ne 16, 3) := by decide +kernel
theorem dX6_join_82 : decode cX6_join 82 = .ok (.aload_n 0, 1) := by decide +kernel
theorem dX6_join_83 : decode cX6_join 83 = .ok (.getfield 15, 3) := by decide +kernel
theorem dX6_join_86 : decode cX6_join 86 = .ok (.iload 4, 2) := by decide +kernel
theorem dX6_join_88 : decode cX6_join 88 = .ok (.aload_n 0, 1) := by decide +kernel
theorem dX6_join_89 : decode cX6_join 89 = .ok (.getfield 15, 3) := by decide +kernel
theorem dX6_join_92 : decode cX6_join 92 = .ok (.iload_n 1, 1) := by decide +kernel
theorem dX6_join_93 : decode cX6_join 93 = .ok (.iaload, 1) := by decide +kernel
theorem dX6_join_94 : decode cX6_join 94 = .ok (.iastore, 1) := by decide +kernel
theorem dX6_join_95 : decode cX6_join 95 = .ok (.iinc 4 1, 3) := by decide +kernel
theorem dX6_join_98 : decode cX6_join 98 = .ok (.goto (-36), 3) := by decide +kernel
theorem dX6_join_101 : decode cX6_join 101 = .ok (.return_, 1) := by decide +kernel
theorem dX6_rivalTrees_0 : decode cX6_rivalTrees 0 = .ok (.iconst 1, 1) := by decide +kernel
theorem dX6_rivalTrees_1 : decode cX6_rivalTrees 1 = .ok (.aload_n 0, 1) := by decide +kernel
theorem dX6_rivalTrees_2 : decode cX6_rivalTrees 2 = .ok (.getfield 27, 3) := by decide +kernel
theorem dX6_rivalTrees_5 : decode cX6_rivalTrees 5 = .ok (.bipush 6, 2) := by decide +kernel
theorem dX6_rivalTrees_7 : decode cX6_rivalTrees 7 = .ok (.invokestatic 54, 3) := by decide +kernel
theorem dX6_rivalTrees_10 : decode cX6_rivalTrees 10 = .ok (.ishl, 1) := by decide +kernel
theorem dX6_rivalTrees_11 : decode cX6_rivalTrees 11 = .ok (.iconst 1, 1) := by decide +kernel
theorem dX6_rivalTrees_12 : decode cX6_rivalTrees 12 = .ok (.isub, 1) := by decide +kernel
theorem dX6_rivalTrees_13 : decode cX6_rivalTrees 13 = .ok (.istore_n 1, 1) := by decide +kernel
theorem dX6_rivalTrees_14 : decode cX6_rivalTrees 14 = .ok (.iconst 1, 1) := by decide +kernel
theorem dX6_rivalTrees_15 : decode cX6_rivalTrees 15 = .ok (.istore_n 2, 1) := by decide +kernel
theorem dX6_rivalTrees_16 : decode cX6_rivalTrees 16 = .ok (.iload_n 2, 1) := by decide +kernel
theorem dX6_rivalTrees_17 : decode cX6_rivalTrees 17 = .ok (.iload_n 1, 1) := by decide +kernel
theorem dX6_rivalTrees_18 : decode cX6_rivalTrees 18 = .ok (.if_icmp .gt 40, 3) := by decide +kernel
theorem dX6_rivalTrees_21 : decode cX6_rivalTrees 21 = .ok (.aload_n 0, 1) := by decide +kernel
theorem dX6_rivalTrees_22 : decode cX6_rivalTrees 22 = .ok (.getfield 18, 3) := by decide +kernel
theorem dX6_rivalTrees_25 : decode cX6_rivalTrees 25 = .ok (.iload_n 2, 1) := by decide +kernel
theorem dX6_rivalTrees_26 : decode cX6_rivalTrees 26 = .ok (.iconst 0, 1) := by decide +kernel
theorem dX6_rivalTrees_27 : decode cX6_rivalTrees 27 = .ok (.iastore, 1) := by decide +kernel
theorem dX6_rivalTrees_28 : decode cX6_rivalTrees 28 = .ok (.aload_n 0, 1) := by decide +kernel
theorem dX6_rivalTrees_29 : decode cX6_rivalTrees 29 = .ok (.getfield 21, 3) := by decide +kernel
theorem dX6_rivalTrees_32 : decode cX6_rivalTrees 32 = .ok (.iload_n 2, 1) := by decide +kernel
theorem dX6_rivalTrees_33 : decode cX6_rivalTrees 33 = .ok (.iconst 1, 1) := by decide +kernel
theorem dX6_rivalTrees_34 : decode cX6_rivalTrees 34 = .ok (.iastore, 1) := by decide +kernel
theorem dX6_rivalTrees_35 : decode cX6_rivalTrees 35 = .ok (.iload_n 2, 1) := by decide +kernel
theorem dX6_rivalTrees_36 : decode cX6_rivalTrees 36 = .ok (.invokestatic 34, 3) := by decide +kernel
theorem dX6_rivalTrees_39 : decode cX6_rivalTrees 39 = .ok (.iconst 1, 1) := by decide +kernel
theorem dX6_rivalTrees_40 : decode cX6_rivalTrees 40 = .ok (.if_icmp .le 12, 3) := by decide +kernel
theorem dX6_rivalTrees_43 : decode cX6_rivalTrees 43 = .ok (.aload_n 0, 1) := by decide +kernel
theorem dX6_rivalTrees_44 : decode cX6_rivalTrees 44 = .ok (.iload_n 2, 1) := by decide +kernel
theorem dX6_rivalTrees_45 : decode cX6_rivalTrees 45 = .ok (.iload_n 2, 1) := by decide +kernel
theorem dX6_rivalTrees_46 : decode cX6_rivalTrees 46 = .ok (.invokestatic 59, 3) := by decide +kernel
theorem dX6_rivalTrees_49 : decode cX6_rivalTrees 49 = .ok (.invokevirtual 62, 3) := by decide +kernel
theorem dX6_rivalTrees_52 : decode cX6_rivalTrees 52 = .ok (.iinc 2 1, 3) := by decide +kernel
theorem dX6_rivalTrees_55 : decode cX6_rivalTrees 55 = .ok (.goto (-39), 3) := by decide +kernel
theorem dX6_rivalTrees_58 : decode cX6_rivalTrees 58 = .ok (.aload_n 0, 1) := by decide +kernel
theorem dX6_rivalTrees_59 : decode cX6_rivalTrees 59 = .ok (.getfield 21, 3) := by decide +kernel
theorem dX6_rivalTrees_62 : decode cX6_rivalTrees 62 = .ok (.iload_n 1, 1) := by decide +kernel
theorem dX6_rivalTrees_63 : decode cX6_rivalTrees 63 = .ok (.iaload, 1) := by decide +kernel
theorem dX6_rivalTrees_64 : decode cX6_rivalTrees 64 = .ok (.ireturn, 1) := by decide +kernel
theorem dX6_firstOf_0 : decode cX6_firstOf 0 = .ok (.iconst 0, 1) := by decide +kernel
theorem dX6_firstOf_1 : decode cX6_firstOf 1 = .ok (.istore_n 1, 1) := by decide +kernel
theorem dX6_firstOf_2 : decode cX6_firstOf 2 = .ok (.iload_n 1, 1) := by decide +kernel
theorem dX6_firstOf_3 : decode cX6_firstOf 3 = .ok (.bipush 6, 2) := by decide +kernel
theorem dX6_firstOf_5 : decode cX6_firstOf 5 = .ok (.if_icmp .ge 19, 3) := by decide +kernel
theorem dX6_firstOf_8 : decode cX6_firstOf 8 = .ok (.iload_n 0, 1) := by decide +kernel
theorem dX6_firstOf_9 : decode cX6_firstOf 9 = .ok (.iconst 1, 1) := by decide +kernel
theorem dX6_firstOf_10 : decode cX6_firstOf 10 = .ok (.iload_n 1, 1) := by decide +kernel
theorem dX6_firstOf_11 : decode cX6_firstOf 11 = .ok (.ishl, 1) := by decide +kernel
theorem dX6_firstOf_12 : decode cX6_firstOf 12 = .ok (.iand, 1) := by decide +kernel
theorem dX6_firstOf_13 : decode cX6_firstOf 13 = .ok (.ifCond .eq 5, 3) := by decide +kernel
theorem dX6_firstOf_16 : decode cX6_firstOf 16 = .ok (.iload_n 1, 1) := by decide +kernel
theorem dX6_firstOf_17 : decode cX6_firstOf 17 = .ok (.ireturn, 1) := by decide +kernel
theorem dX6_firstOf_18 : decode cX6_firstOf 18 = .ok (.iinc 1 1, 3) := by decide +kernel
theorem dX6_firstOf_21 : decode cX6_firstOf 21 = .ok (.goto (-19), 3) := by decide +kernel
theorem dX6_firstOf_24 : decode cX6_firstOf 24 = .ok (.iconst 0, 1) := by decide +kernel
theorem dX6_firstOf_25 : decode cX6_firstOf 25 = .ok (.ireturn, 1) := by decide +kernel
theorem dX6_splitSet_0 : decode cX6_splitSet 0 = .ok (.iload_n 1, 1) := by decide +kernel
theorem dX6_splitSet_1 : decode cX6_splitSet 1 = .ok (.iconst 1, 1) := by decide +kernel
theorem dX6_splitSet_2 : decode cX6_splitSet 2 = .ok (.iload_n 2, 1) := by decide +kernel
theorem dX6_splitSet_3 : decode cX6_splitSet 3 = .ok (.ishl, 1) := by decide +kernel
theorem dX6_splitSet_4 : decode cX6_splitSet 4 = .ok (.isub, 1) := by decide +kernel
theorem dX6_splitSet_5 : decode cX6_splitSet 5 = .ok (.istore_n 3, 1) := by decide +kernel
theorem dX6_splitSet_6 : decode cX6_splitSet 6 = .ok (.iconst 1, 1) := by decide +kernel
theorem dX6_splitSet_7 : decode cX6_splitSet 7 = .ok (.iload_n 3, 1) := by decide +kernel
theorem dX6_splitSet_8 : decode cX6_splitSet 8 = .ok (.invokestatic 59, 3) := by decide +kernel
theorem dX6_splitSet_11 : decode cX6_splitSet 11 = .ok (.ishl, 1) := by decide +kernel
theorem dX6_splitSet_12 : decode cX6_splitSet 12 = .ok (.istore 4, 2) := by decide +kernel
theorem dX6_splitSet_14 : decode cX6_splitSet 14 = .ok (.aload_n 0, 1) := by decide +kernel
theorem dX6_splitSet_15 : decode cX6_splitSet 15 = .ok (.getfield 18, 3) := by decide +kernel
theorem dX6_splitSet_18 : decode cX6_splitSet 18 = .ok (.iload_n 1, 1) := by decide +kernel
theorem dX6_splitSet_19 : decode cX6_splitSet 19 = .ok (.bipush 64, 2) := by decide +kernel
theorem dX6_splitSet_21 : decode cX6_splitSet 21 = .ok (.iastore, 1) := by decide +kernel
theorem dX6_splitSet_22 : decode cX6_splitSet 22 = .ok (.aload_n 0, 1) := by decide +kernel
theorem dX6_splitSet_23 : decode cX6_splitSet 23 = .ok (.getfield 21, 3) := by decide +kernel
theorem dX6_splitSet_26 : decode cX6_splitSet 26 = .ok (.iload_n 1, 1) := by decide +kernel
theorem dX6_splitSet_27 : decode cX6_splitSet 27 = .ok (.iconst 0, 1) := by decide +kernel
theorem dX6_splitSet_28 : decode cX6_splitSet 28 = .ok (.iastore, 1) := by decide +kernel
theorem dX6_splitSet_29 : decode cX6_splitSet 29 = .ok (.iload 4, 2) := by decide +kernel
theorem dX6_splitSet_31 : decode cX6_splitSet 31 = .ok (.istore 5, 2) := by decide +kernel
theorem dX6_splitSet_33 : decode cX6_splitSet 33 = .ok (.iload 5, 2) := by decide +kernel
theorem dX6_splitSet_35 : decode cX6_splitSet 35 = .ok (.iload_n 3, 1) := by decide +kernel
theorem dX6_splitSet_36 : decode cX6_splitSet 36 = .ok (.if_icmp .gt 34, 3) := by decide +kernel
theorem dX6_splitSet_39 : decode cX6_splitSet 39 = .ok (.iload 5, 2) := by decide +kernel
theorem dX6_splitSet_41 : decode cX6_splitSet 41 = .ok (.iload_n 3, 1) := by decide +kernel
theorem dX6_splitSet_42 : decode cX6_splitSet 42 = .ok (.iand, 1) := by decide +kernel
theorem dX6_splitSet_43 : decode cX6_splitSet 43 = .ok (.iload 5, 2) := by decide +kernel
theorem dX6_splitSet_45 : decode cX6_splitSet 45 = .ok (.if_icmp .ne 19, 3) := by decide +kernel
theorem dX6_splitSet_48 : decode cX6_splitSet 48 = .ok (.iload 5, 2) := by decide +kernel
theorem dX6_splitSet_50 : decode cX6_splitSet 50 = .ok (.iload 4, 2) := by decide +kernel
theorem dX6_splitSet_52 : decode cX6_splitSet 52 = .ok (.iand, 1) := by decide +kernel
theorem dX6_splitSet_53 : decode cX6_splitSet 53 = .ok (.ifCond .eq 11, 3) := by decide +kernel
theorem dX6_splitSet_56 : decode cX6_splitSet 56 = .ok (.aload_n 0, 1) := by decide +kernel
theorem dX6_splitSet_57 : decode cX6_splitSet 57 = .ok (.iload_n 1, 1) := by decide +kernel
theorem dX6_splitSet_58 : decode cX6_splitSet 58 = .ok (.iload_n 2, 1) := by decide +kernel
theorem dX6_splitSet_59 : decode cX6_splitSet 59 = .ok (.iload 5, 2) := by decide +kernel
theorem dX6_splitSet_61 : decode cX6_splitSet 61 = .ok (.invokevirtual 65, 3) := by decide +kernel
theorem dX6_splitSet_64 : decode cX6_splitSet 64 = .ok (.iinc 5 1, 3) := by decide +kernel
theorem dX6_splitSet_67 : decode cX6_splitSet 67 = .ok (.goto (-34), 3) := by decide +kernel
theorem dX6_splitSet_70 : decode cX6_splitSet 70 = .ok (.return_, 1) := by decide +kernel
theorem dX6_linkBranch_0 : decode cX6_linkBranch 0 = .ok (.aload_n 0, 1) := by decide +kernel
theorem dX6_linkBranch_1 : decode cX6_linkBranch 1 = .ok (.getfield 18, 3) := by decide +kernel
theorem dX6_linkBranch_4 : decode cX6_linkBranch 4 = .ok (.iload_n 3, 1) := by decide +kernel
theorem dX6_linkBranch_5 : decode cX6_linkBranch 5 = .ok (.iaload, 1) := by decide +kernel
theorem dX6_linkBranch_6 : decode cX6_linkBranch 6 = .ok (.aload_n 0, 1) := by decide +kernel
theorem dX6_linkBranch_7 : decode cX6_linkBranch 7 = .ok (.getfield 18, 3) := by decide +kernel
theorem dX6_linkBranch_10 : decode cX6_linkBranch 10 = .ok (.iload_n 1, 1) := by decide +kernel
theorem dX6_linkBranch_11 : decode cX6_linkBranch 11 = .ok (.iload_n 3, 1) := by decide +kernel
theorem dX6_linkBranch_12 : decode cX6_linkBranch 12 = .ok (.isub, 1) := by decide +kernel
theorem dX6_linkBranch_13 : decode cX6_linkBranch 13 = .ok (.iaload, 1) := by decide +kernel
theorem dX6_linkBranch_14 : decode cX6_linkBranch 14 = .ok (.iadd, 1) := by decide +kernel
theorem dX6_linkBranch_15 : decode cX6_linkBranch 15 = .ok (.istore 4, 2) := by decide +kernel
theorem dX6_linkBranch_17 : decode cX6_linkBranch 17 = .ok (.aload_n 0, 1) := by decide +kernel
theorem dX6_linkBranch_18 : decode cX6_linkBranch 18 = .ok (.getfield 21, 3) := by decide +kernel
theorem dX6_linkBranch_21 : decode cX6_linkBranch 21 = .ok (.iload_n 3, 1) := by decide +kernel
theorem dX6_linkBranch_22 : decode cX6_linkBranch 22 = .ok (.iaload, 1) := by decide +kernel
theorem dX6_linkBranch_23 : decode cX6_linkBranch 23 = .ok (.aload_n 0, 1) := by decide +kernel
theorem dX6_linkBranch_24 : decode cX6_linkBranch 24 = .ok (.getfield 21, 3) := by decide +kernel
theorem dX6_linkBranch_27 : decode cX6_linkBranch 27 = .ok (.iload_n 1, 1) := by decide +kernel
theorem dX6_linkBranch_28 : decode cX6_linkBranch 28 = .ok (.iload_n 3, 1) := by decide +kernel
theorem dX6_linkBranch_29 : decode cX6_linkBranch 29 = .ok (.isub, 1) := by decide +kernel
theorem dX6_linkBranch_30 : decode cX6_linkBranch 30 = .ok (.iaload, 1) := by decide +kernel
theorem dX6_linkBranch_31 : decode cX6_linkBranch 31 = .ok (.imul, 1) := by decide +kernel
theorem dX6_linkBranch_32 : decode cX6_linkBranch 32 = .ok (.istore 5, 2) := by decide +kernel
theorem dX6_linkBranch_34 : decode cX6_linkBranch 34 = .ok (.iconst 0, 1) := by decide +kernel
theorem dX6_linkBranch_35 : decode cX6_linkBranch 35 = .ok (.istore 6, 2) := by decide +kernel
theorem dX6_linkBranch_37 : decode cX6_linkBranch 37 = .ok (.iload 6, 2) := by decide +kernel
theorem dX6_linkBranch_39 : decode cX6_linkBranch 39 = .ok (.bipush 6, 2) := by decide +kernel
theorem dX6_linkBranch_41 : decode cX6_linkBranch 41 = .ok (.if_icmp .ge 35, 3) := by decide +kernel
theorem dX6_linkBranch_44 : decode cX6_linkBranch 44 = .ok (.iload_n 3, 1) := by decide +kernel
theorem dX6_linkBranch_45 : decode cX6_linkBranch 45 = .ok (.iconst 1, 1) := by decide +kernel
theorem dX6_linkBranch_46 : decode cX6_linkBranch 46 = .ok (.iload 6, 2) := by decide +kernel
theorem dX6_linkBranch_48 : decode cX6_linkBranch 48 = .ok (.ishl, 1) := by decide +kernel
theorem dX6_linkBranch_49 : decode cX6_linkBranch 49 = .ok (.iand, 1) := by decide +kernel
theorem dX6_linkBranch_50 : decode cX6_linkBranch 50 = .ok (.ifCond .eq 20, 3) := by decide +kernel
theorem dX6_linkBranch_53 : decode cX6_linkBranch 53 = .ok (.aload_n 0, 1) := by decide +kernel
theorem dX6_linkBranch_54 : decode cX6_linkBranch 54 = .ok (.iload_n 1, 1) := by decide +kernel
theorem dX6_linkBranch_55 : decode cX6_linkBranch 55 = .ok (.iload 4, 2) := by decide +kernel
theorem dX6_linkBranch_57 : decode cX6_linkBranch 57 = .ok (.aload_n 0, 1) := by decide +kernel
theorem dX6_linkBranch_58 : decode cX6_linkBranch 58 = .ok (.iload_n 2, 1) := by decide +kernel
theorem dX6_linkBranch_59 : decode cX6_linkBranch 59 = .ok (.iload 6, 2) := by decide +kernel
theorem dX6_linkBranch_61 : decode cX6_linkBranch 61 = .ok (.invokevirtual 46, 3) := by decide +kernel
theorem dX6_linkBranch_64 : decode cX6_linkBranch 64 = .ok (.iadd, 1) := by decide +kernel
theorem dX6_linkBranch_65 : decode cX6_linkBranch 65 = .ok (.iload 5, 2) := by decide +kernel
theorem dX6_linkBranch_67 : decode cX6_linkBranch 67 = .ok (.invokevirtual 69, 3) := by decide +kernel
theorem dX6_linkBranch_70 : decode cX6_linkBranch 70 = .ok (.iinc 6 1, 3) := by decide +kernel
theorem dX6_linkBranch_73 : decode cX6_linkBranch 73 = .ok (.goto (-36), 3) := by decide +kernel
theorem dX6_linkBranch_76 : decode cX6_linkBranch 76 = .ok (.return_, 1) := by decide +kernel
theorem dX6_addTrees_0 : decode cX6_addTrees 0 = .ok (.iload_n 2, 1) := by decide +kernel
theorem dX6_addTrees_1 : decode cX6_addTrees 1 = .ok (.aload_n 0, 1) := by decide +kernel
theorem dX6_addTrees_2 : decode cX6_addTrees 2 = .ok (.getfield 18, 3) := by decide +kernel
theorem dX6_addTrees_5 : decode cX6_addTrees 5 = .ok (.iload_n 1, 1) := by decide +kernel
theorem dX6_addTrees_6 : decode cX6_addTrees 6 = .ok (.iaload, 1) := by decide +kernel
theorem dX6_addTrees_7 : decode cX6_addTrees 7 = .ok (.if_icmp .ge 17, 3) := by decide +kernel
theorem dX6_addTrees_10 : decode cX6_addTrees 10 = .ok (.aload_n 0, 1) := by decide +kernel
theorem dX6_addTrees_11 : decode cX6_addTrees 11 = .ok (.getfield 18, 3) := by decide +kernel
theorem dX6_addTrees_14 : decode cX6_addTrees 14 = .ok (.iload_n 1, 1) := by decide +kernel
theorem dX6_addTrees_15 : decode cX6_addTrees 15 = .ok (.iload_n 2, 1) := by decide +kernel
theorem dX6_addTrees_16 : decode cX6_addTrees 16 = .ok (.iastore, 1) := by decide +kernel
theorem dX6_addTrees_17 : decode cX6_addTrees 17 = .ok (.aload_n 0, 1) := by decide +kernel
theorem dX6_addTrees_18 : decode cX6_addTrees 18 = .ok (.getfield 21, 3) := by decide +kernel
theorem dX6_addTrees_21 : decode cX6_addTrees 21 = .ok (.iload_n 1, 1) := by decide +kernel
theorem dX6_addTrees_22 : decode cX6_addTrees 22 = .ok (.iconst 0, 1) := by decide +kernel
theorem dX6_addTrees_23 : decode cX6_addTrees 23 = .ok (.iastore, 1) := by decide +kernel
theorem dX6_addTrees_24 : decode cX6_addTrees 24 = .ok (.iload_n 2, 1) := by decide +kernel
theorem dX6_addTrees_25 : decode cX6_addTrees 25 = .ok (.aload_n 0, 1) := by decide +kernel
theorem dX6_addTrees_26 : decode cX6_addTrees 26 = .ok (.getfield 18, 3) := by decide +kernel
theorem dX6_addTrees_29 : decode cX6_addTrees 29 = .ok (.iload_n 1, 1) := by decide +kernel
theorem dX6_addTrees_30 : decode cX6_addTrees 30 = .ok (.iaload, 1) := by decide +kernel
theorem dX6_addTrees_31 : decode cX6_addTrees 31 = .ok (.if_icmp .ne 13, 3) := by decide +kernel
theorem dX6_addTrees_34 : decode cX6_addTrees 34 = .ok (.aload_n 0, 1) := by decide +kernel
theorem dX6_addTrees_35 : decode cX6_addTrees 35 = .ok (.getfield 21, 3) := by decide +kernel
theorem dX6_addTrees_38 : decode cX6_addTrees 38 = .ok (.iload_n 1, 1) := by decide +kernel
theorem dX6_addTrees_39 : decode cX6_addTrees 39 = .ok (.dup2, 1) := by decide +kernel
theorem dX6_addTrees_40 : decode cX6_addTrees 40 = .ok (.iaload, 1) := by decide +kernel
theorem dX6_addTrees_41 : decode cX6_addTrees 41 = .ok (.iload_n 3, 1) := by decide +kernel
theorem dX6_addTrees_42 : decode cX6_addTrees 42 = .ok (.iadd, 1) := by decide +kernel
theorem dX6_addTrees_43 : decode cX6_addTrees 43 = .ok (.iastore, 1) := by decide +kernel
theorem dX6_addTrees_44 : decode cX6_addTrees 44 = .ok (.return_, 1) := by decide +kernel
end
section
theorem dX7_init_0 : decode cX7_init 0 = .ok (.aload_n 0, 1) := by decide +kernel
theorem dX7_init_1 : decode cX7_init 1 = .ok (.invokespecial 3, 3) := by decide +kernel
theorem dX7_init_4 : decode cX7_init 4 = .ok (.aload_n 0, 1) := by decide +kernel
theorem dX7_init_5 : decode cX7_init 5 = .ok (.bipush 10, 2) := by decide +kernel
theorem dX7_init_7 : decode cX7_init 7 = .ok (.newarray .int, 2) := by decide +kernel
theorem dX7_init_9 : decode cX7_init 9 = .ok (.putfield 9, 3) := by decide +kernel
theorem dX7_init_12 : decode cX7_init 12 = .ok (.aload_n 0, 1) := by decide +kernel
theorem dX7_init_13 : decode cX7_init 13 = .ok (.bipush 10, 2) := by decide +kernel
theorem dX7_init_15 : decode cX7_init 15 = .ok (.newarray .int, 2) := by decide +kernel
theorem dX7_init_17 : decode cX7_init 17 = .ok (.putfield 15, 3) := by decide +kernel
theorem dX7_init_20 : decode cX7_init 20 = .ok (.return_, 1) := by decide +kernel
theorem dX7_addLot_0 : decode cX7_addLot 0 = .ok (.aload_n 0, 1) := by decide +kernel
theorem dX7_addLot_1 : decode cX7_addLot 1 = .ok (.getfield 18, 3) := by decide +kernel
theorem dX7_addLot_4 : decode cX7_addLot 4 = .ok (.bipush 10, 2) := by decide +kernel
theorem dX7_addLot_6 : decode cX7_addLot 6 = .ok (.if_icmp .lt 6, 3) := by decide +kernel
theorem dX7_addLot_9 : decode cX7_addLot 9 = .ok (.bipush (-2), 2) := by decide +kernel
theorem dX7_addLot_11 : decode cX7_addLot 11 = .ok (.ireturn, 1) := by decide +kernel
theorem dX7_addLot_12 : decode cX7_addLot 12 = .ok (.aload_n 0, 1) := by decide +kernel
theorem dX7_addLot_13 : decode cX7_addLot 13 = .ok (.getfield 9, 3) := by decide +kernel
theorem dX7_addLot_16 : decode cX7_addLot 16 = .ok (.aload_n 0, 1) := by decide +kernel
theorem dX7_addLot_17 : decode cX7_addLot 17 = .ok (.getfield 18, 3) := by decide +kernel
theorem dX7_addLot_20 : decode cX7_addLot 20 = .ok (.iload_n 1, 1) := by decide +kernel
theorem dX7_addLot_21 : decode cX7_addLot 21 = .ok (.iastore, 1) := by decide +kernel
theorem dX7_addLot_22 : decode cX7_addLot 22 = .ok (.aload_n 0, 1) := by decide +kernel
theorem dX7_addLot_23 : decode cX7_addLot 23 = .ok (.getfield 15, 3) := by decide +kernel
theorem dX7_addLot_26 : decode cX7_addLot 26 = .ok (.aload_n 0, 1) := by decide +kernel
theorem dX7_addLot_27 : decode cX7_addLot 27 = .ok (.getfield 18, 3) := by decide +kernel
theorem dX7_addLot_30 : decode cX7_addLot 30 = .ok (.iload_n 2, 1) := by decide +kernel
theorem dX7_addLot_31 : decode cX7_addLot 31 = .ok (.iastore, 1) := by decide +kernel
theorem dX7_addLot_32 : decode cX7_addLot 32 = .ok (.aload_n 0, 1) := by decide +kernel
theorem dX7_addLot_33 : decode cX7_addLot 33 = .ok (.dup, 1) := by decide +kernel
theorem dX7_addLot_34 : decode cX7_addLot 34 = .ok (.getfield 18, 3) := by decide +kernel
theorem dX7_addLot_37 : decode cX7_addLot 37 = .ok (.iconst 1, 1) := by decide +kernel
theorem dX7_addLot_38 : decode cX7_addLot 38 = .ok (.iadd, 1) := by decide +kernel
theorem dX7_addLot_39 : decode cX7_addLot 39 = .ok (.putfield 18, 3) := by decide +kernel
theorem dX7_addLot_42 : decode cX7_addLot 42 = .ok (.aload_n 0, 1) := by decide +kernel
theorem dX7_addLot_43 : decode cX7_addLot 43 = .ok (.getfield 18, 3) := by decide +kernel
theorem dX7_addLot_46 : decode cX7_addLot 46 = .ok (.ireturn, 1) := by decide +kernel
theorem dX7_leftInAll_0 : decode cX7_leftInAll 0 = .ok (.iconst 0, 1) := by decide +kernel
theorem dX7_leftInAll_1 : decode cX7_leftInAll 1 = .ok (.istore_n 1, 1) := by decide +kernel
theorem dX7_leftInAll_2 : decode cX7_leftInAll 2 = .ok (.iconst 0, 1) := by decide +kernel
theorem dX7_leftInAll_3 : decode cX7_leftInAll 3 = .ok (.istore_n 2, 1) := by decide +kernel
theorem dX7_leftInAll_4 : decode cX7_leftInAll 4 = .ok (.iload_n 2, 1) := by decide +kernel
theorem dX7_leftInAll_5 : decode cX7_leftInAll 5 = .ok (.aload_n 0, 1) := by decide +kernel
theorem dX7_leftInAll_6 : decode cX7_leftInAll 6 = .ok (.getfield 18, 3) := by decide +kernel
theorem dX7_leftInAll_9 : decode cX7_leftInAll 9 = .ok (.if_icmp .ge 18, 3) := by decide +kernel
theorem dX7_leftInAll_12 : decode cX7_leftInAll 12 = .ok (.iload_n 1, 1) := by decide +kernel
theorem dX7_leftInAll_13 : decode cX7_leftInAll 13 = .ok (.aload_n 0, 1) := by decide +kernel
theorem dX7_leftInAll_14 : decode cX7_leftInAll 14 = .ok (.getfield 15, 3) := by decide +kernel
theorem dX7_leftInAll_17 : decode cX7_leftInAll 17 = .ok (.iload_n 2, 1) := by decide +kernel
theorem dX7_leftInAll_18 : decode cX7_leftInAll 18 = .ok (.iaload, 1) := by decide +kernel
theorem dX7_leftInAll_19 : decode cX7_leftInAll 19 = .ok (.iadd, 1) := by decide +kernel
theorem dX7_leftInAll_20 : decode cX7_leftInAll 20 = .ok (.istore_n 1, 1) := by decide +kernel
theorem dX7_leftInAll_21 : decode cX7_leftInAll 21 = .ok (.iinc 2 1, 3) := by decide +kernel
theorem dX7_leftInAll_24 : decode cX7_leftInAll 24 = .ok (.goto (-20), 3) := by decide +kernel
theorem dX7_leftInAll_27 : decode cX7_leftInAll 27 = .ok (.iload_n 1, 1) := by decide +kernel
theorem dX7_leftInAll_28 : decode cX7_leftInAll 28 = .ok (.ireturn, 1) := by decide +kernel
theorem dX7_take_0 : decode cX7_take 0 = .ok (.iconst 0, 1) := by decide +kernel
theorem dX7_take_1 : decode cX7_take 1 = .ok (.istore_n 1, 1) := by decide +kernel
theorem dX7_take_2 : decode cX7_take 2 = .ok (.iload_n 1, 1) := by decide +kernel
theorem dX7_take_3 : decode cX7_take 3 = .ok (.aload_n 0, 1) := by decide +kernel
theorem dX7_take_4 : decode cX7_take 4 = .ok (.getfield 18, 3) := by decide +kernel
theorem dX7_take_7 : decode cX7_take 7 = .ok (.if_icmp .ge 35, 3) := by decide +kernel
theorem dX7_take_10 : decode cX7_take 10 = .ok (.aload_n 0, 1) := by decide +kernel
theorem dX7_take_11 : decode cX7_take 11 = .ok (.getfield 15, 3) := by decide +kernel
theorem dX7_take_14 : decode cX7_take 14 = .ok (.iload_n 1, 1) := by decide +kernel
theorem dX7_take_15 : decode cX7_take 15 = .ok (.iaload, 1) := by decide +kernel
theorem dX7_take_16 : decode cX7_take 16 = .ok (.ifCond .le 20, 3) := by decide +kernel
theorem dX7_take_19 : decode cX7_take 19 = .ok (.aload_n 0, 1) := by decide +kernel
theorem dX7_take_20 : decode cX7_take 20 = .ok (.getfield 15, 3) := by decide +kernel
theorem dX7_take_23 : decode cX7_take 23 = .ok (.iload_n 1, 1) := by decide +kernel
theorem dX7_take_24 : decode cX7_take 24 = .ok (.dup2, 1) := by decide +kernel
theorem dX7_take_25 : decode cX7_take 25 = .ok (.iaload, 1) := by decide +kernel
theorem dX7_take_26 : decode cX7_take 26 = .ok (.iconst 1, 1) := by decide +kernel
theorem dX7_take_27 : decode cX7_take 27 = .ok (.isub, 1) := by decide +kernel
theorem dX7_take_28 : decode cX7_take 28 = .ok (.iastore, 1) := by decide +kernel
theorem dX7_take_29 : decode cX7_take 29 = .ok (.aload_n 0, 1) := by decide +kernel
theorem dX7_take_30 : decode cX7_take 30 = .ok (.getfield 9, 3) := by decide +kernel
theorem dX7_take_33 : decode cX7_take 33 = .ok (.iload_n 1, 1) := by decide +kernel
theorem dX7_take_34 : decode cX7_take 34 = .ok (.iaload, 1) := by decide +kernel
theorem dX7_take_35 : decode cX7_take 35 = .ok (.ireturn, 1) := by decide +kernel
theorem dX7_take_36 : decode cX7_take 36 = .ok (.iinc 1 1, 3) := by decide +kernel
theorem dX7_take_39 : decode cX7_take 39 = .ok (.goto (-37), 3) := by decide +kernel
theorem dX7_take_42 : decode cX7_take 42 = .ok (.iconst 0, 1) := by decide +kernel
theorem dX7_take_43 : decode cX7_take 43 = .ok (.ireturn, 1) := by decide +kernel
end
section
theorem dX8_init_0 : decode cX8_init 0 = .ok (.aload_n 0, 1) := by decide +kernel
theorem dX8_init_1 : decode cX8_init 1 = .ok (.invokespecial 3, 3) := by decide +kernel
theorem dX8_init_4 : decode cX8_init 4 = .ok (.aload_n 0, 1) := by decide +kernel
theorem dX8_init_5 : decode cX8_init 5 = .ok (.iconst 4, 1) := by decide +kernel
theorem dX8_init_6 : decode cX8_init 6 = .ok (.iload_n 1, 1) := by decide +kernel
theorem dX8_init_7 : decode cX8_init 7 = .ok (.bipush 37, 2) := by decide +kernel
theorem dX8_init_9 : decode cX8_init 9 = .ok (.invokestatic 9, 3) := by decide +kernel
theorem dX8_init_12 : decode cX8_init 12 = .ok (.iadd, 1) := by decide +kernel
theorem dX8_init_13 : decode cX8_init 13 = .ok (.putfield 15, 3) := by decide +kernel
theorem dX8_init_16 : decode cX8_init 16 = .ok (.aload_n 0, 1) := by decide +kernel
theorem dX8_init_17 : decode cX8_init 17 = .ok (.new 19, 3) := by decide +kernel
theorem dX8_init_20 : decode cX8_init 20 = .ok (.dup, 1) := by decide +kernel
theorem dX8_init_21 : decode cX8_init 21 = .ok (.aload_n 0, 1) := by decide +kernel
theorem dX8_init_22 : decode cX8_init 22 = .ok (.getfield 15, 3) := by decide +kernel
theorem dX8_init_25 : decode cX8_init 25 = .ok (.invokespecial 21, 3) := by decide +kernel
theorem dX8_init_28 : decode cX8_init 28 = .ok (.putfield 24, 3) := by decide +kernel
theorem dX8_init_31 : decode cX8_init 31 = .ok (.aload_n 0, 1) := by decide +kernel
theorem dX8_init_32 : decode cX8_init 32 = .ok (.new 28, 3) := by decide +kernel
theorem dX8_init_35 : decode cX8_init 35 = .ok (.dup, 1) := by decide +kernel
theorem dX8_init_36 : decode cX8_init 36 = .ok (.aload_n 0, 1) := by decide +kernel
theorem dX8_init_37 : decode cX8_init 37 = .ok (.getfield 15, 3) := by decide +kernel
theorem dX8_init_40 : decode cX8_init 40 = .ok (.aload_n 0, 1) := by decide +kernel
theorem dX8_init_41 : decode cX8_init 41 = .ok (.getfield 24, 3) := by decide +kernel
theorem dX8_init_44 : decode cX8_init 44 = .ok (.invokespecial 30, 3) := by decide +kernel
theorem dX8_init_47 : decode cX8_init 47 = .ok (.putfield 33, 3) := by decide +kernel
theorem dX8_init_50 : decode cX8_init 50 = .ok (.aload_n 0, 1) := by decide +kernel
theorem dX8_init_51 : decode cX8_init 51 = .ok (.new 37, 3) := by decide +kernel
theorem dX8_init_54 : decode cX8_init 54 = .ok (.dup, 1) := by decide +kernel
theorem dX8_init_55 : decode cX8_init 55 = .ok (.invokespecial 39, 3) := by decide +kernel
theorem dX8_init_58 : decode cX8_init 58 = .ok (.putfield 40, 3) := by decide +kernel
theorem dX8_init_61 : decode cX8_init 61 = .ok (.aload_n 0, 1) := by decide +kernel
theorem dX8_init_62 : decode cX8_init 62 = .ok (.bipush 8, 2) := by decide +kernel
theorem dX8_init_64 : decode cX8_init 64 = .ok (.anewarray 44, 3) := by decide +kernel
theorem dX8_init_67 : decode cX8_init 67 = .ok (.putfield 46, 3) := by decide +kernel
theorem dX8_init_70 : decode cX8_init 70 = .ok (.iconst 0, 1) := by decide +kernel
theorem dX8_init_71 : decode cX8_init 71 = .ok (.istore_n 2, 1) := by decide +kernel
theorem dX8_init_72 : decode cX8_init 72 = .ok (.iload_n 2, 1) := by decide +kernel
theorem dX8_init_73 : decode cX8_init 73 = .ok (.bipush 8, 2) := by decide +kernel
theorem dX8_init_75 : decode cX8_init 75 = .ok (.if_icmp .ge 22, 3) := by decide +kernel
theorem dX8_init_78 : decode cX8_init 78 = .ok (.aload_n 0, 1) := by decide +kernel
theorem dX8_init_79 : decode cX8_init 79 = .ok (.getfield 46, 3) := by decide +kernel
theorem dX8_init_82 : decode cX8_init 82 = .ok (.iload_n 2, 1) := by decide +kernel
theorem dX8_init_83 : decode cX8_init 83 = .ok (.new 44, 3) := by decide +kernel
theorem dX8_init_86 : decode cX8_init 86 = .ok (.dup, 1) := by decide +kernel
theorem dX8_init_87 : decode cX8_init 87 = .ok (.invokespecial 50, 3) := by decide +kernel
theorem dX8_init_90 : decode cX8_init 90 = .ok (.aastore, 1) := by decide +kernel
theorem dX8_init_91 : decode cX8_init 91 = .ok (.iinc 2 1, 3) := by decide +kernel
theorem dX8_init_94 : decode cX8_init 94 = .ok (.goto (-22), 3) := by decide +kernel
theorem dX8_init_97 : decode cX8_init 97 = .ok (.return_, 1) := by decide +kernel
theorem dX8_chant_0 : decode cX8_chant 0 = .ok (.aload_n 0, 1) := by decide +kernel
theorem dX8_chant_1 : decode cX8_chant 1 = .ok (.getfield 33, 3) := by decide +kernel
theorem dX8_chant_4 : decode cX8_chant 4 = .ok (.invokevirtual 51, 3) := by decide +kernel
theorem dX8_chant_7 : decode cX8_chant 7 = .ok (.ireturn, 1) := by decide +kernel
theorem dX8_step_0 : decode cX8_step 0 = .ok (.aload_n 0, 1) := by decide +kernel
theorem dX8_step_1 : decode cX8_step 1 = .ok (.iload_n 1, 1) := by decide +kernel
theorem dX8_step_2 : decode cX8_step 2 = .ok (.iload_n 2, 1) := by decide +kernel
theorem dX8_step_3 : decode cX8_step 3 = .ok (.iload_n 3, 1) := by decide +kernel
theorem dX8_step_4 : decode cX8_step 4 = .ok (.invokevirtual 55, 3) := by decide +kernel
theorem dX8_step_7 : decode cX8_step 7 = .ok (.ifCond .ne 5, 3) := by decide +kernel
theorem dX8_step_10 : decode cX8_step 10 = .ok (.iconst (-1), 1) := by decide +kernel
theorem dX8_step_11 : decode cX8_step 11 = .ok (.ireturn, 1) := by decide +kernel
theorem dX8_step_12 : decode cX8_step 12 = .ok (.aload_n 0, 1) := by decide +kernel
theorem dX8_step_13 : decode cX8_step 13 = .ok (.getfield 33, 3) := by decide +kernel
theorem dX8_step_16 : decode cX8_step 16 = .ok (.iload_n 1, 1) := by decide +kernel
theorem dX8_step_17 : decode cX8_step 17 = .ok (.iload_n 2, 1) := by decide +kernel
theorem dX8_step_18 : decode cX8_step 18 = .ok (.iload_n 3, 1) := by decide +kernel
theorem dX8_step_19 : decode cX8_step 19 = .ok (.invokevirtual 59, 3) := by decide +kernel
theorem dX8_step_22 : decode cX8_step 22 = .ok (.ireturn, 1) := by decide +kernel
theorem dX8_length_0 : decode cX8_length 0 = .ok (.aload_n 0, 1) := by decide +kernel
theorem dX8_length_1 : decode cX8_length 1 = .ok (.getfield 33, 3) := by decide +kernel
theorem dX8_length_4 : decode cX8_length 4 = .ok (.iload_n 1, 1) := by decide +kernel
theorem dX8_length_5 : decode cX8_length 5 = .ok (.invokevirtual 63, 3) := by decide +kernel
theorem dX8_length_8 : decode cX8_length 8 = .ok (.ifCond .eq 14, 3) := by decide +kernel
theorem dX8_length_11 : decode cX8_length 11 = .ok (.aload_n 0, 1) := by decide +kernel
theorem dX8_length_12 : decode cX8_length 12 = .ok (.getfield 33, 3) := by decide +kernel
theorem dX8_length_15 : decode cX8_length 15 = .ok (.iload_n 1, 1) := by decide +kernel
theorem dX8_length_16 : decode cX8_length 16 = .ok (.invokevirtual 67, 3) := by decide +kernel
theorem dX8_length_19 : decode cX8_length 19 = .ok (.goto 4, 3) := by decide +kernel
theorem dX8_length_22 : decode cX8_length 22 = .ok (.iconst (-1), 1) := by decide +kernel
theorem dX8_length_23 : decode cX8_length 23 = .ok (.ireturn, 1) := by decide +kernel
theorem dX8_colour_0 : decode cX8_colour 0 = .ok (.aload_n 0, 1) := by decide +kernel
theorem dX8_colour_1 : decode cX8_colour 1 = .ok (.getfield 33, 3) := by decide +kernel
theorem dX8_colour_4 : decode cX8_colour 4 = .ok (.iload_n 1, 1) := by decide +kernel
theorem dX8_colour_5 : decode cX8_colour 5 = .ok (.invokevirtual 63, 3) := by decide +kernel
theorem dX8_colour_8 : decode cX8_colour 8 = .ok (.ifCond .ne 5, 3) := by decide +kernel
theorem dX8_colour_11 : decode cX8_colour 11 = .ok (.iconst (-1), 1) := by decide +kernel
theorem dX8_colour_12 : decode cX8_colour 12 = .ok (.ireturn, 1) := by decide +kernel
theorem dX8_colour_13 : decode cX8_colour 13 = .ok (.aload_n 0, 1) := by decide +kernel
theorem dX8_colour_14 : decode cX8_colour 14 = .ok (.getfield 33, 3) := by decide +kernel
theorem dX8_colour_17 : decode cX8_colour 17 = .ok (.iload_n 1, 1) := by decide +kernel
theorem dX8_colour_18 : decode cX8_colour 18 = .ok (.invokevirtual 71, 3) := by decide +kernel
theorem dX8_colour_21 : decode cX8_colour 21 = .ok (.istore_n 3, 1) := by decide +kernel
theorem dX8_colour_22 : decode cX8_colour 22 = .ok (.iload_n 3, 1) := by decide +kernel
theorem dX8_colour_23 : decode cX8_colour 23 = .ok (.ifCond .ge 6, 3) := by decide +kernel
theorem dX8_colour_26 : decode cX8_colour 26 = .ok (.bipush (-6), 2) := by decide +kernel
theorem dX8_colour_28 : decode cX8_colour 28 = .ok (.ireturn, 1) := by decide +kernel
theorem dX8_colour_29 : decode cX8_colour 29 = .ok (.iload_n 2, 1) := by decide +kernel
theorem dX8_colour_30 : decode cX8_colour 30 = .ok (.iconst 0, 1) := by decide +kernel
theorem dX8_colour_31 : decode cX8_colour 31 = .ok (.iload_n 3, 1) := by decide +kernel
theorem dX8_colour_32 : decode cX8_colour 32 = .ok (.iconst 1, 1) := by decide +kernel
theorem dX8_colour_33 : decode cX8_colour 33 = .ok (.isub, 1) := by decide +kernel
theorem dX8_colour_34 : decode cX8_colour 34 = .ok (.invokestatic 74, 3) := by decide +kernel
theorem dX8_colour_37 : decode cX8_colour 37 = .ok (.ifCond .eq 14, 3) := by decide +kernel
theorem dX8_colour_40 : decode cX8_colour 40 = .ok (.aload_n 0, 1) := by decide +kernel
theorem dX8_colour_41 : decode cX8_colour 41 = .ok (.getfield 33, 3) := by decide +kernel
theorem dX8_colour_44 : decode cX8_colour 44 = .ok (.iload_n 2, 1) := by decide +kernel
theorem dX8_colour_45 : decode cX8_colour 45 = .ok (.invokevirtual 77, 3) := by decide +kernel
theorem dX8_colour_48 : decode cX8_colour 48 = .ok (.goto 5, 3) := by decide +kernel
theorem dX8_colour_51 : decode cX8_colour 51 = .ok (.bipush (-4), 2) := by decide +kernel
theorem dX8_colour_53 : decode cX8_colour 53 = .ok (.ireturn, 1) := by decide +kernel
theorem dX8_closes_0 : decode cX8_closes 0 = .ok (.aload_n 0, 1) := by decide +kernel
theorem dX8_closes_1 : decode cX8_closes 1 = .ok (.getfield 33, 3) := by decide +kernel
theorem dX8_closes_4 : decode cX8_closes 4 = .ok (.iload_n 1, 1) := by decide +kernel
theorem dX8_closes_5 : decode cX8_closes 5 = .ok (.invokevirtual 63, 3) := by decide +kernel
theorem dX8_closes_8 : decode cX8_closes 8 = .ok (.ifCond .ne 5, 3) := by decide +kernel
theorem dX8_closes_11 : decode cX8_closes 11 = .ok (.iconst (-1), 1) := by decide +kernel
theorem dX8_closes_12 : decode cX8_closes 12 = .ok (.ireturn, 1) := by decide +kernel
theorem dX8_closes_13 : decode cX8_closes 13 = .ok (.aload_n 0, 1) := by decide +kernel
theorem dX8_closes_14 : decode cX8_closes 14 = .ok (.getfield 33, 3) := by decide +kernel
theorem dX8_closes_17 : decode cX8_closes 17 = .ok (.iload_n 1, 1) := by decide +kernel
theorem dX8_closes_18 : decode cX8_closes 18 = .ok (.invokevirtual 67, 3) := by decide +kernel
theorem dX8_closes_21 : decode cX8_closes 21 = .ok (.istore_n 2, 1) := by decide +kernel
theorem dX8_closes_22 : decode cX8_closes 22 = .ok (.iload_n 2, 1) := by decide +kernel
theorem dX8_closes_23 : decode cX8_closes 23 = .ok (.ifCond .ge 6, 3) := by decide +kernel
theorem dX8_closes_26 : decode cX8_closes 26 = .ok (.bipush (-6), 2) := by decide +kernel
theorem dX8_closes_28 : decode cX8_closes 28 = .ok (.ireturn, 1) := by decide +kernel
theorem dX8_closes_29 : decode cX8_closes 29 = .ok (.iload_n 2, 1) := by decide +kernel
theorem dX8_closes_30 : decode cX8_closes 30 = .ok (.aload_n 0, 1) := by decide +kernel
theorem dX8_closes_31 : decode cX8_closes 31 = .ok (.getfield 15, 3) := by decide +kernel
theorem dX8_closes_34 : decode cX8_closes 34 = .ok (.if_icmp .ne 7, 3) := by decide +kernel
theorem dX8_closes_37 : decode cX8_closes 37 = .ok (.iconst 1, 1) := by decide +kernel
theorem dX8_closes_38 : decode cX8_closes 38 = .ok (.goto 4, 3) := by decide +kernel
theorem dX8_closes_41 : decode cX8_closes 41 = .ok (.iconst 0, 1) := by decide +kernel
theorem dX8_closes_42 : decode cX8_closes 42 = .ok (.ireturn, 1) := by decide +kernel
theorem dX8_mend_0 : decode cX8_mend 0 = .ok (.aload_n 0, 1) := by decide +kernel
theorem dX8_mend_1 : decode cX8_mend 1 = .ok (.getfield 33, 3) := by decide +kernel
theorem dX8_mend_4 : decode cX8_mend 4 = .ok (.iload_n 1, 1) := by decide +kernel
theorem dX8_mend_5 : decode cX8_mend 5 = .ok (.invokevirtual 63, 3) := by decide +kernel
theorem dX8_mend_8 : decode cX8_mend 8 = .ok (.ifCond .eq 12, 3) := by decide +kernel
theorem dX8_mend_11 : decode cX8_mend 11 = .ok (.iload_n 2, 1) := by decide +kernel
theorem dX8_mend_12 : decode cX8_mend 12 = .ok (.iconst 0, 1) := by decide +kernel
theorem dX8_mend_13 : decode cX8_mend 13 = .ok (.iconst 1, 1) := by decide +kernel
theorem dX8_mend_14 : decode cX8_mend 14 = .ok (.invokestatic 74, 3) := by decide +kernel
theorem dX8_mend_17 : decode cX8_mend 17 = .ok (.ifCond .ne 5, 3) := by decide +kernel
theorem dX8_mend_20 : decode cX8_mend 20 = .ok (.iconst (-1), 1) := by decide +kernel
theorem dX8_mend_21 : decode cX8_mend 21 = .ok (.ireturn, 1) := by decide +kernel
theorem dX8_mend_22 : decode cX8_mend 22 = .ok (.aload_n 0, 1) := by decide +kernel
theorem dX8_mend_23 : decode cX8_mend 23 = .ok (.getfield 33, 3) := by decide +kernel
theorem dX8_mend_26 : decode cX8_mend 26 = .ok (.iload_n 1, 1) := by decide +kernel
theorem dX8_mend_27 : decode cX8_mend 27 = .ok (.invokevirtual 80, 3) := by decide +kernel
theorem dX8_mend_30 : decode cX8_mend 30 = .ok (.istore_n 3, 1) := by decide +kernel
theorem dX8_mend_31 : decode cX8_mend 31 = .ok (.iload_n 3, 1) := by decide +kernel
theorem dX8_mend_32 : decode cX8_mend 32 = .ok (.ifCond .ge 5, 3) := by decide +kernel
theorem dX8_mend_35 : decode cX8_mend 35 = .ok (.iload_n 3, 1) := by decide +kernel
theorem dX8_mend_36 : decode cX8_mend 36 = .ok (.ireturn, 1) := by decide +kernel
theorem dX8_mend_37 : decode cX8_mend 37 = .ok (.iload_n 2, 1) := by decide +kernel
theorem dX8_mend_38 : decode cX8_mend 38 = .ok (.ifCond .ne 13, 3) := by decide +kernel
theorem dX8_mend_41 : decode cX8_mend 41 = .ok (.aload_n 0, 1) := by decide +kernel
theorem dX8_mend_42 : decode cX8_mend 42 = .ok (.getfield 33, 3) := by decide +kernel
theorem dX8_mend_45 : decode cX8_mend 45 = .ok (.getfield 83, 3) := by decide +kernel
theorem dX8_mend_48 : decode cX8_mend 48 = .ok (.goto 10, 3) := by decide +kernel
theorem dX8_mend_51 : decode cX8_mend 51 = .ok (.aload_n 0, 1) := by decide +kernel
theorem dX8_mend_52 : decode cX8_mend 52 = .ok (.getfield 33, 3) := by decide +kernel
theorem dX8_mend_55 : decode cX8_mend 55 = .ok (.getfield 86, 3) := by decide +kernel
theorem dX8_mend_58 : decode cX8_mend 58 = .ok (.ireturn, 1) := by decide +kernel
theorem dX8_mended_0 : decode cX8_mended 0 = .ok (.aload_n 0, 1) := by decide +kernel
theorem dX8_mended_1 : decode cX8_mended 1 = .ok (.getfield 33, 3) := by decide +kernel
theorem dX8_mended_4 : decode cX8_mended 4 = .ok (.iload_n 1, 1) := by decide +kernel
theorem dX8_mended_5 : decode cX8_mended 5 = .ok (.invokevirtual 63, 3) := by decide +kernel
theorem dX8_mended_8 : decode cX8_mended 8 = .ok (.ifCond .ne 5, 3) := by decide +kernel
theorem dX8_mended_11 : decode cX8_mended 11 = .ok (.iconst (-1), 1) := by decide +kernel
theorem dX8_mended_12 : decode cX8_mended 12 = .ok (.ireturn, 1) := by decide +kernel
theorem dX8_mended_13 : decode cX8_mended 13 = .ok (.aload_n 0, 1) := by decide +kernel
theorem dX8_mended_14 : decode cX8_mended 14 = .ok (.getfield 33, 3) := by decide +kernel
theorem dX8_mended_17 : decode cX8_mended 17 = .ok (.iload_n 1, 1) := by decide +kernel
theorem dX8_mended_18 : decode cX8_mended 18 = .ok (.invokevirtual 80, 3) := by decide +kernel
theorem dX8_mended_21 : decode cX8_mended 21 = .ok (.istore_n 2, 1) := by decide +kernel
theorem dX8_mended_22 : decode cX8_mended 22 = .ok (.iload_n 2, 1) := by decide +kernel
theorem dX8_mended_23 : decode cX8_mended 23 = .ok (.ifCond .ge 5, 3) := by decide +kernel
theorem dX8_mended_26 : decode cX8_mended 26 = .ok (.iload_n 2, 1) := by decide +kernel
theorem dX8_mended_27 : decode cX8_mended 27 = .ok (.ireturn, 1) := by decide +kernel
theorem dX8_mended_28 : decode cX8_mended 28 = .ok (.aload_n 0, 1) := by decide +kernel
theorem dX8_mended_29 : decode cX8_mended 29 = .ok (.getfield 33, 3) := by decide +kernel
theorem dX8_mended_32 : decode cX8_mended 32 = .ok (.iload_n 1, 1) := by decide +kernel
theorem dX8_mended_33 : decode cX8_mended 33 = .ok (.invokevirtual 89, 3) := by decide +kernel
theorem dX8_mended_36 : decode cX8_mended 36 = .ok (.aload_n 0, 1) := by decide +kernel
theorem dX8_mended_37 : decode cX8_mended 37 = .ok (.getfield 33, 3) := by decide +kernel
theorem dX8_mended_40 : decode cX8_mended 40 = .ok (.iload_n 1, 1) := by decide +kernel
theorem dX8_mended_41 : decode cX8_mended 41 = .ok (.invokevirtual 67, 3) := by decide +kernel
theorem dX8_mended_44 : decode cX8_mended 44 = .ok (.ireturn, 1) := by decide +kernel
theorem dX8_told_0 : decode cX8_told 0 = .ok (.aload_n 0, 1) := by decide +kernel
theorem dX8_told_1 : decode cX8_told 1 = .ok (.getfield 33, 3) := by decide +kernel
theorem dX8_told_4 : decode cX8_told 4 = .ok (.iload_n 1, 1) := by decide +kernel
theorem dX8_told_5 : decode cX8_told 5 = .ok (.iload_n 2, 1) := by decide +kernel
theorem dX8_told_6 : decode cX8_told 6 = .ok (.invokevirtual 92, 3) := by decide +kernel
theorem dX8_told_9 : decode cX8_told 9 = .ok (.ifCond .ne 5, 3) := by decide +kernel
theorem dX8_told_12 : decode cX8_told 12 = .ok (.iconst (-1), 1) := by decide +kernel
theorem dX8_told_13 : decode cX8_told 13 = .ok (.ireturn, 1) := by decide +kernel
theorem dX8_told_14 : decode cX8_told 14 = .ok (.aload_n 0, 1) := by decide +kernel
theorem dX8_told_15 : decode cX8_told 15 = .ok (.getfield 33, 3) := by decide +kernel
theorem dX8_told_18 : decode cX8_told 18 = .ok (.iload_n 1, 1) := by decide +kernel
theorem dX8_told_19 : decode cX8_told 19 = .ok (.iload_n 2, 1) := by decide +kernel
theorem dX8_told_20 : decode cX8_told 20 = .ok (.invokevirtual 96, 3) := by decide +kernel
theorem dX8_told_23 : decode cX8_told 23 = .ok (.astore 4, 2) := by decide +kernel
theorem dX8_told_25 : decode cX8_told 25 = .ok (.iload_n 3, 1) := by decide +kernel
theorem dX8_told_26 : decode cX8_told 26 = .ok (.tableswitch 99 0 3 #[30, 36, 55, 74], 30) := by decide +kernel
theorem dX8_told_56 : decode cX8_told 56 = .ok (.aload 4, 2) := by decide +kernel
theorem dX8_told_58 : decode cX8_told 58 = .ok (.getfield 100, 3) := by decide +kernel
theorem dX8_told_61 : decode cX8_told 61 = .ok (.ireturn, 1) := by decide +kernel
theorem dX8_told_62 : decode cX8_told 62 = .ok (.aload 4, 2) := by decide +kernel
theorem dX8_told_64 : decode cX8_told 64 = .ok (.invokevirtual 105, 3) := by decide +kernel
theorem dX8_told_67 : decode cX8_told 67 = .ok (.ifCond .eq 11, 3) := by decide +kernel
theorem dX8_told_70 : decode cX8_told 70 = .ok (.aload 4, 2) := by decide +kernel
theorem dX8_told_72 : decode cX8_told 72 = .ok (.getfield 109, 3) := by decide +kernel
theorem dX8_told_75 : decode cX8_told 75 = .ok (.goto 5, 3) := by decide +kernel
theorem dX8_told_78 : decode cX8_told 78 = .ok (.bipush (-2), 2) := by decide +kernel
theorem dX8_told_80 : decode cX8_told 80 = .ok (.ireturn, 1) := by decide +kernel
theorem dX8_told_81 : decode cX8_told 81 = .ok (.aload 4, 2) := by decide +kernel
theorem dX8_told_83 : decode cX8_told 83 = .ok (.invokevirtual 112, 3) := by decide +kernel
theorem dX8_told_86 : decode cX8_told 86 = .ok (.ifCond .eq 11, 3) := by decide +kernel
theorem dX8_told_89 : decode cX8_told 89 = .ok (.aload 4, 2) := by decide +kernel
theorem dX8_told_91 : decode cX8_told 91 = .ok (.getfield 115, 3) := by decide +kernel
theorem dX8_told_94 : decode cX8_told 94 = .ok (.goto 5, 3) := by decide +kernel
theorem dX8_told_97 : decode cX8_told 97 = .ok (.bipush (-2), 2) := by decide +kernel
theorem dX8_told_99 : decode cX8_told 99 = .ok (.ireturn, 1) := by decide +kernel
theorem dX8_told_100 : decode cX8_told 100 = .ok (.aload_n 0, 1) := by decide +kernel
theorem dX8_told_101 : decode cX8_told 101 = .ok (.getfield 33, 3) := by decide +kernel
theorem dX8_told_104 : decode cX8_told 104 = .ok (.iload_n 1, 1) := by decide +kernel
theorem dX8_told_105 : decode cX8_told 105 = .ok (.invokevirtual 67, 3) := by decide +kernel
theorem dX8_told_108 : decode cX8_told 108 = .ok (.ifCond .ge 8, 3) := by decide +kernel
theorem dX8_told_111 : decode cX8_told 111 = .ok (.bipush (-6), 2) := by decide +kernel
theorem dX8_told_113 : decode cX8_told 113 = .ok (.goto 11, 3) := by decide +kernel
theorem dX8_told_116 : decode cX8_told 116 = .ok (.aload_n 0, 1) := by decide +kernel
theorem dX8_told_117 : decode cX8_told 117 = .ok (.getfield 33, 3) := by decide +kernel
theorem dX8_told_120 : decode cX8_told 120 = .ok (.iload_n 2, 1) := by decide +kernel
theorem dX8_told_121 : decode cX8_told 121 = .ok (.invokevirtual 118, 3) := by decide +kernel
theorem dX8_told_124 : decode cX8_told 124 = .ok (.ireturn, 1) := by decide +kernel
theorem dX8_told_125 : decode cX8_told 125 = .ok (.iconst (-1), 1) := by decide +kernel
theorem dX8_told_126 : decode cX8_told 126 = .ok (.ireturn, 1) := by decide +kernel
theorem dX8_isStepAsTold_0 : decode cX8_isStepAsTold 0 = .ok (.iload_n 1, 1) := by decide +kernel
theorem dX8_isStepAsTold_1 : decode cX8_isStepAsTold 1 = .ok (.tableswitch 92 0 5 #[39, 62, 67, 69, 77, 69], 39) := by decide +kernel
theorem dX8_isStepAsTold_40 : decode cX8_isStepAsTold 40 = .ok (.iload_n 2, 1) := by decide +kernel
theorem dX8_isStepAsTold_41 : decode cX8_isStepAsTold 41 = .ok (.iconst 1, 1) := by decide +kernel
theorem dX8_isStepAsTold_42 : decode cX8_isStepAsTold 42 = .ok (.bipush 40, 2) := by decide +kernel
theorem dX8_isStepAsTold_44 : decode cX8_isStepAsTold 44 = .ok (.invokestatic 74, 3) := by decide +kernel
theorem dX8_isStepAsTold_47 : decode cX8_isStepAsTold 47 = .ok (.ifCond .eq 14, 3) := by decide +kernel
theorem dX8_isStepAsTold_50 : decode cX8_isStepAsTold 50 = .ok (.iload_n 3, 1) := by decide +kernel
theorem dX8_isStepAsTold_51 : decode cX8_isStepAsTold 51 = .ok (.invokestatic 121, 3) := by decide +kernel
theorem dX8_isStepAsTold_54 : decode cX8_isStepAsTold 54 = .ok (.ifCond .eq 7, 3) := by decide +kernel
theorem dX8_isStepAsTold_57 : decode cX8_isStepAsTold 57 = .ok (.iconst 1, 1) := by decide +kernel
theorem dX8_isStepAsTold_58 : decode cX8_isStepAsTold 58 = .ok (.goto 4, 3) := by decide +kernel
theorem dX8_isStepAsTold_61 : decode cX8_isStepAsTold 61 = .ok (.iconst 0, 1) := by decide +kernel
theorem dX8_isStepAsTold_62 : decode cX8_isStepAsTold 62 = .ok (.ireturn, 1) := by decide +kernel
theorem dX8_isStepAsTold_63 : decode cX8_isStepAsTold 63 = .ok (.iload_n 3, 1) := by decide +kernel
theorem dX8_isStepAsTold_64 : decode cX8_isStepAsTold 64 = .ok (.invokestatic 121, 3) := by decide +kernel
theorem dX8_isStepAsTold_67 : decode cX8_isStepAsTold 67 = .ok (.ireturn, 1) := by decide +kernel
theorem dX8_isStepAsTold_68 : decode cX8_isStepAsTold 68 = .ok (.iconst 1, 1) := by decide +kernel
theorem dX8_isStepAsTold_69 : decode cX8_isStepAsTold 69 = .ok (.ireturn, 1) := by decide +kernel
theorem dX8_isStepAsTold_70 : decode cX8_isStepAsTold 70 = .ok (.iload_n 2, 1) := by decide +kernel
theorem dX8_isStepAsTold_71 : decode cX8_isStepAsTold 71 = .ok (.iconst 1, 1) := by decide +kernel
theorem dX8_isStepAsTold_72 : decode cX8_isStepAsTold 72 = .ok (.bipush 9, 2) := by decide +kernel
theorem dX8_isStepAsTold_74 : decode cX8_isStepAsTold 74 = .ok (.invokestatic 74, 3) := by decide +kernel
theorem dX8_isStepAsTold_77 : decode cX8_isStepAsTold 77 = .ok (.ireturn, 1) := by decide +kernel
theorem dX8_isStepAsTold_78 : decode cX8_isStepAsTold 78 = .ok (.iload_n 2, 1) := by decide +kernel
theorem dX8_isStepAsTold_79 : decode cX8_isStepAsTold 79 = .ok (.iconst 0, 1) := by decide +kernel
theorem dX8_isStepAsTold_80 : decode cX8_isStepAsTold 80 = .ok (.aload_n 0, 1) := by decide +kernel
theorem dX8_isStepAsTold_81 : decode cX8_isStepAsTold 81 = .ok (.getfield 33, 3) := by decide +kernel
theorem dX8_isStepAsTold_84 : decode cX8_isStepAsTold 84 = .ok (.invokevirtual 124, 3) := by decide +kernel
theorem dX8_isStepAsTold_87 : decode cX8_isStepAsTold 87 = .ok (.iconst 2, 1) := by decide +kernel
theorem dX8_isStepAsTold_88 : decode cX8_isStepAsTold 88 = .ok (.isub, 1) := by decide +kernel
theorem dX8_isStepAsTold_89 : decode cX8_isStepAsTold 89 = .ok (.invokestatic 74, 3) := by decide +kernel
theorem dX8_isStepAsTold_92 : decode cX8_isStepAsTold 92 = .ok (.ireturn, 1) := by decide +kernel
theorem dX8_isStepAsTold_93 : decode cX8_isStepAsTold 93 = .ok (.iconst 0, 1) := by decide +kernel
theorem dX8_isStepAsTold_94 : decode cX8_isStepAsTold 94 = .ok (.ireturn, 1) := by decide +kernel
theorem dX8_hand_0 : decode cX8_hand 0 = .ok (.iload_n 1, 1) := by decide +kernel
theorem dX8_hand_1 : decode cX8_hand 1 = .ok (.invokestatic 127, 3) := by decide +kernel
theorem dX8_hand_4 : decode cX8_hand 4 = .ok (.ifCond .eq 23, 3) := by decide +kernel
theorem dX8_hand_7 : decode cX8_hand 7 = .ok (.iload_n 2, 1) := by decide +kernel
theorem dX8_hand_8 : decode cX8_hand 8 = .ok (.iconst 1, 1) := by decide +kernel
theorem dX8_hand_9 : decode cX8_hand 9 = .ok (.bipush 40, 2) := by decide +kernel
theorem dX8_hand_11 : decode cX8_hand 11 = .ok (.invokestatic 74, 3) := by decide +kernel
theorem dX8_hand_14 : decode cX8_hand 14 = .ok (.ifCond .eq 13, 3) := by decide +kernel
theorem dX8_hand_17 : decode cX8_hand 17 = .ok (.iload_n 3, 1) := by decide +kernel
theorem dX8_hand_18 : decode cX8_hand 18 = .ok (.iconst 1, 1) := by decide +kernel
theorem dX8_hand_19 : decode cX8_hand 19 = .ok (.bipush 20, 2) := by decide +kernel
theorem dX8_hand_21 : decode cX8_hand 21 = .ok (.invokestatic 74, 3) := by decide +kernel
theorem dX8_hand_24 : decode cX8_hand 24 = .ok (.ifCond .ne 5, 3) := by decide +kernel
theorem dX8_hand_27 : decode cX8_hand 27 = .ok (.iconst (-1), 1) := by decide +kernel
theorem dX8_hand_28 : decode cX8_hand 28 = .ok (.ireturn, 1) := by decide +kernel
theorem dX8_hand_29 : decode cX8_hand 29 = .ok (.aload_n 0, 1) := by decide +kernel
theorem dX8_hand_30 : decode cX8_hand 30 = .ok (.getfield 24, 3) := by decide +kernel
theorem dX8_hand_33 : decode cX8_hand 33 = .ok (.getfield 130, 3) := by decide +kernel
theorem dX8_hand_36 : decode cX8_hand 36 = .ok (.ifCond .le 6, 3) := by decide +kernel
theorem dX8_hand_39 : decode cX8_hand 39 = .ok (.bipush (-3), 2) := by decide +kernel
theorem dX8_hand_41 : decode cX8_hand 41 = .ok (.ireturn, 1) := by decide +kernel
theorem dX8_hand_42 : decode cX8_hand 42 = .ok (.aload_n 0, 1) := by decide +kernel
theorem dX8_hand_43 : decode cX8_hand 43 = .ok (.getfield 24, 3) := by decide +kernel
theorem dX8_hand_46 : decode cX8_hand 46 = .ok (.iload_n 1, 1) := by decide +kernel
theorem dX8_hand_47 : decode cX8_hand 47 = .ok (.iload_n 2, 1) := by decide +kernel
theorem dX8_hand_48 : decode cX8_hand 48 = .ok (.iload_n 3, 1) := by decide +kernel
theorem dX8_hand_49 : decode cX8_hand 49 = .ok (.invokevirtual 133, 3) := by decide +kernel
theorem dX8_hand_52 : decode cX8_hand 52 = .ok (.ifCond .eq 7, 3) := by decide +kernel
theorem dX8_hand_55 : decode cX8_hand 55 = .ok (.iconst 1, 1) := by decide +kernel
theorem dX8_hand_56 : decode cX8_hand 56 = .ok (.goto 4, 3) := by decide +kernel
theorem dX8_hand_59 : decode cX8_hand 59 = .ok (.iconst 0, 1) := by decide +kernel
theorem dX8_hand_60 : decode cX8_hand 60 = .ok (.ireturn, 1) := by decide +kernel
theorem dX8_dye_0 : decode cX8_dye 0 = .ok (.iload_n 1, 1) := by decide +kernel
theorem dX8_dye_1 : decode cX8_dye 1 = .ok (.invokestatic 121, 3) := by decide +kernel
theorem dX8_dye_4 : decode cX8_dye 4 = .ok (.ifCond .eq 24, 3) := by decide +kernel
theorem dX8_dye_7 : decode cX8_dye 7 = .ok (.iload_n 2, 1) := by decide +kernel
theorem dX8_dye_8 : decode cX8_dye 8 = .ok (.iconst 0, 1) := by decide +kernel
theorem dX8_dye_9 : decode cX8_dye 9 = .ok (.bipush 9, 2) := by decide +kernel
theorem dX8_dye_11 : decode cX8_dye 11 = .ok (.invokestatic 74, 3) := by decide +kernel
theorem dX8_dye_14 : decode cX8_dye 14 = .ok (.ifCond .eq 14, 3) := by decide +kernel
theorem dX8_dye_17 : decode cX8_dye 17 = .ok (.iload_n 3, 1) := by decide +kernel
theorem dX8_dye_18 : decode cX8_dye 18 = .ok (.iconst 1, 1) := by decide +kernel
theorem dX8_dye_19 : decode cX8_dye 19 = .ok (.sipush 1000, 3) := by decide +kernel
theorem dX8_dye_22 : decode cX8_dye 22 = .ok (.invokestatic 74, 3) := by decide +kernel
theorem dX8_dye_25 : decode cX8_dye 25 = .ok (.ifCond .ne 5, 3) := by decide +kernel
theorem dX8_dye_28 : decode cX8_dye 28 = .ok (.iconst (-1), 1) := by decide +kernel
theorem dX8_dye_29 : decode cX8_dye 29 = .ok (.ireturn, 1) := by decide +kernel
theorem dX8_dye_30 : decode cX8_dye 30 = .ok (.aload_n 0, 1) := by decide +kernel
theorem dX8_dye_31 : decode cX8_dye 31 = .ok (.getfield 24, 3) := by decide +kernel
theorem dX8_dye_34 : decode cX8_dye 34 = .ok (.getfield 136, 3) := by decide +kernel
theorem dX8_dye_37 : decode cX8_dye 37 = .ok (.iload_n 1, 1) := by decide +kernel
theorem dX8_dye_38 : decode cX8_dye 38 = .ok (.aaload, 1) := by decide +kernel
theorem dX8_dye_39 : decode cX8_dye 39 = .ok (.iload_n 2, 1) := by decide +kernel
theorem dX8_dye_40 : decode cX8_dye 40 = .ok (.iload_n 3, 1) := by decide +kernel
theorem dX8_dye_41 : decode cX8_dye 41 = .ok (.invokevirtual 140, 3) := by decide +kernel
theorem dX8_dye_44 : decode cX8_dye 44 = .ok (.ireturn, 1) := by decide +kernel
theorem dX8_tie_0 : decode cX8_tie 0 = .ok (.aload_n 0, 1) := by decide +kernel
theorem dX8_tie_1 : decode cX8_tie 1 = .ok (.getfield 33, 3) := by decide +kernel
theorem dX8_tie_4 : decode cX8_tie 4 = .ok (.iload_n 1, 1) := by decide +kernel
theorem dX8_tie_5 : decode cX8_tie 5 = .ok (.invokevirtual 63, 3) := by decide +kernel
theorem dX8_tie_8 : decode cX8_tie 8 = .ok (.ifCond .ne 5, 3) := by decide +kernel
theorem dX8_tie_11 : decode cX8_tie 11 = .ok (.iconst (-1), 1) := by decide +kernel
theorem dX8_tie_12 : decode cX8_tie 12 = .ok (.ireturn, 1) := by decide +kernel
theorem dX8_tie_13 : decode cX8_tie 13 = .ok (.aload_n 0, 1) := by decide +kernel
theorem dX8_tie_14 : decode cX8_tie 14 = .ok (.getfield 33, 3) := by decide +kernel
theorem dX8_tie_17 : decode cX8_tie 17 = .ok (.iload_n 1, 1) := by decide +kernel
theorem dX8_tie_18 : decode cX8_tie 18 = .ok (.invokevirtual 71, 3) := by decide +kernel
theorem dX8_tie_21 : decode cX8_tie 21 = .ok (.istore_n 2, 1) := by decide +kernel
theorem dX8_tie_22 : decode cX8_tie 22 = .ok (.iload_n 2, 1) := by decide +kernel
theorem dX8_tie_23 : decode cX8_tie 23 = .ok (.ifCond .ge 6, 3) := by decide +kernel
theorem dX8_tie_26 : decode cX8_tie 26 = .ok (.bipush (-6), 2) := by decide +kernel
theorem dX8_tie_28 : decode cX8_tie 28 = .ok (.ireturn, 1) := by decide +kernel
theorem dX8_tie_29 : decode cX8_tie 29 = .ok (.iload_n 2, 1) := by decide +kernel
theorem dX8_tie_30 : decode cX8_tie 30 = .ok (.aload_n 0, 1) := by decide +kernel
theorem dX8_tie_31 : decode cX8_tie 31 = .ok (.getfield 15, 3) := by decide +kernel
theorem dX8_tie_34 : decode cX8_tie 34 = .ok (.if_icmp .ne 17, 3) := by decide +kernel
theorem dX8_tie_37 : decode cX8_tie 37 = .ok (.aload_n 0, 1) := by decide +kernel
theorem dX8_tie_38 : decode cX8_tie 38 = .ok (.getfield 24, 3) := by decide +kernel
theorem dX8_tie_41 : decode cX8_tie 41 = .ok (.aload_n 0, 1) := by decide +kernel
theorem dX8_tie_42 : decode cX8_tie 42 = .ok (.getfield 33, 3) := by decide +kernel
theorem dX8_tie_45 : decode cX8_tie 45 = .ok (.invokevirtual 145, 3) := by decide +kernel
theorem dX8_tie_48 : decode cX8_tie 48 = .ok (.goto 5, 3) := by decide +kernel
theorem dX8_tie_51 : decode cX8_tie 51 = .ok (.bipush (-4), 2) := by decide +kernel
theorem dX8_tie_53 : decode cX8_tie 53 = .ok (.ireturn, 1) := by decide +kernel
theorem dX8_knot_0 : decode cX8_knot 0 = .ok (.aload_n 0, 1) := by decide +kernel
theorem dX8_knot_1 : decode cX8_knot 1 = .ok (.getfield 24, 3) := by decide +kernel
theorem dX8_knot_4 : decode cX8_knot 4 = .ok (.iload_n 1, 1) := by decide +kernel
theorem dX8_knot_5 : decode cX8_knot 5 = .ok (.iload_n 2, 1) := by decide +kernel
theorem dX8_knot_6 : decode cX8_knot 6 = .ok (.invokevirtual 149, 3) := by decide +kernel
theorem dX8_knot_9 : decode cX8_knot 9 = .ok (.ifCond .eq 20, 3) := by decide +kernel
theorem dX8_knot_12 : decode cX8_knot 12 = .ok (.aload_n 0, 1) := by decide +kernel
theorem dX8_knot_13 : decode cX8_knot 13 = .ok (.getfield 24, 3) := by decide +kernel
theorem dX8_knot_16 : decode cX8_knot 16 = .ok (.getfield 152, 3) := by decide +kernel
theorem dX8_knot_19 : decode cX8_knot 19 = .ok (.iload_n 1, 1) := by decide +kernel
theorem dX8_knot_20 : decode cX8_knot 20 = .ok (.aaload, 1) := by decide +kernel
theorem dX8_knot_21 : decode cX8_knot 21 = .ok (.getfield 156, 3) := by decide +kernel
theorem dX8_knot_24 : decode cX8_knot 24 = .ok (.iload_n 2, 1) := by decide +kernel
theorem dX8_knot_25 : decode cX8_knot 25 = .ok (.baload, 1) := by decide +kernel
theorem dX8_knot_26 : decode cX8_knot 26 = .ok (.goto 4, 3) := by decide +kernel
theorem dX8_knot_29 : decode cX8_knot 29 = .ok (.iconst (-1), 1) := by decide +kernel
theorem dX8_knot_30 : decode cX8_knot 30 = .ok (.ireturn, 1) := by decide +kernel
theorem dX8_look_0 : decode cX8_look 0 = .ok (.aload_n 0, 1) := by decide +kernel
theorem dX8_look_1 : decode cX8_look 1 = .ok (.getfield 24, 3) := by decide +kernel
theorem dX8_look_4 : decode cX8_look 4 = .ok (.iload_n 1, 1) := by decide +kernel
theorem dX8_look_5 : decode cX8_look 5 = .ok (.iload_n 2, 1) := by decide +kernel
theorem dX8_look_6 : decode cX8_look 6 = .ok (.invokevirtual 149, 3) := by decide +kernel
theorem dX8_look_9 : decode cX8_look 9 = .ok (.ifCond .ne 5, 3) := by decide +kernel
theorem dX8_look_12 : decode cX8_look 12 = .ok (.iconst (-1), 1) := by decide +kernel
theorem dX8_look_13 : decode cX8_look 13 = .ok (.ireturn, 1) := by decide +kernel
theorem dX8_look_14 : decode cX8_look 14 = .ok (.aload_n 0, 1) := by decide +kernel
theorem dX8_look_15 : decode cX8_look 15 = .ok (.getfield 24, 3) := by decide +kernel
theorem dX8_look_18 : decode cX8_look 18 = .ok (.getfield 152, 3) := by decide +kernel
theorem dX8_look_21 : decode cX8_look 21 = .ok (.iload_n 1, 1) := by decide +kernel
theorem dX8_look_22 : decode cX8_look 22 = .ok (.aaload, 1) := by decide +kernel
theorem dX8_look_23 : decode cX8_look 23 = .ok (.astore 4, 2) := by decide +kernel
theorem dX8_look_25 : decode cX8_look 25 = .ok (.iload_n 3, 1) := by decide +kernel
theorem dX8_look_26 : decode cX8_look 26 = .ok (.tableswitch 82 0 4 #[34, 43, 51, 59, 67], 34) := by decide +kernel
theorem dX8_look_60 : decode cX8_look 60 = .ok (.aload_n 0, 1) := by decide +kernel
theorem dX8_look_61 : decode cX8_look 61 = .ok (.getfield 24, 3) := by decide +kernel
theorem dX8_look_64 : decode cX8_look 64 = .ok (.iload_n 2, 1) := by decide +kernel
theorem dX8_look_65 : decode cX8_look 65 = .ok (.invokevirtual 162, 3) := by decide +kernel
theorem dX8_look_68 : decode cX8_look 68 = .ok (.ireturn, 1) := by decide +kernel
theorem dX8_look_69 : decode cX8_look 69 = .ok (.aload 4, 2) := by decide +kernel
theorem dX8_look_71 : decode cX8_look 71 = .ok (.getfield 165, 3) := by decide +kernel
theorem dX8_look_74 : decode cX8_look 74 = .ok (.iload_n 2, 1) := by decide +kernel
theorem dX8_look_75 : decode cX8_look 75 = .ok (.baload, 1) := by decide +kernel
theorem dX8_look_76 : decode cX8_look 76 = .ok (.ireturn, 1) := by decide +kernel
theorem dX8_look_77 : decode cX8_look 77 = .ok (.aload 4, 2) := by decide +kernel
theorem dX8_look_79 : decode cX8_look 79 = .ok (.getfield 168, 3) := by decide +kernel
theorem dX8_look_82 : decode cX8_look 82 = .ok (.iload_n 2, 1) := by decide +kernel
theorem dX8_look_83 : decode cX8_look 83 = .ok (.baload, 1) := by decide +kernel
theorem dX8_look_84 : decode cX8_look 84 = .ok (.ireturn, 1) := by decide +kernel
theorem dX8_look_85 : decode cX8_look 85 = .ok (.aload 4, 2) := by decide +kernel
theorem dX8_look_87 : decode cX8_look 87 = .ok (.getfield 171, 3) := by decide +kernel
theorem dX8_look_90 : decode cX8_look 90 = .ok (.iload_n 2, 1) := by decide +kernel
theorem dX8_look_91 : decode cX8_look 91 = .ok (.baload, 1) := by decide +kernel
theorem dX8_look_92 : decode cX8_look 92 = .ok (.ireturn, 1) := by decide +kernel
theorem dX8_look_93 : decode cX8_look 93 = .ok (.aload 4, 2) := by decide +kernel
theorem dX8_look_95 : decode cX8_look 95 = .ok (.iload_n 2, 1) := by decide +kernel
theorem dX8_look_96 : decode cX8_look 96 = .ok (.invokevirtual 174, 3) := by decide +kernel
theorem dX8_look_99 : decode cX8_look 99 = .ok (.ifCond .eq 7, 3) := by decide +kernel
theorem dX8_look_102 : decode cX8_look 102 = .ok (.iconst 1, 1) := by decide +kernel
theorem dX8_look_103 : decode cX8_look 103 = .ok (.goto 4, 3) := by decide +kernel
theorem dX8_look_106 : decode cX8_look 106 = .ok (.iconst 0, 1) := by decide +kernel
theorem dX8_look_107 : decode cX8_look 107 = .ok (.ireturn, 1) := by decide +kernel
theorem dX8_look_108 : decode cX8_look 108 = .ok (.iconst (-1), 1) := by decide +kernel
theorem dX8_look_109 : decode cX8_look 109 = .ok (.ireturn, 1) := by decide +kernel
theorem dX8_found_0 : decode cX8_found 0 = .ok (.aload_n 0, 1) := by decide +kernel
theorem dX8_found_1 : decode cX8_found 1 = .ok (.getfield 24, 3) := by decide +kernel
theorem dX8_found_4 : decode cX8_found 4 = .ok (.iload_n 1, 1) := by decide +kernel
theorem dX8_found_5 : decode cX8_found 5 = .ok (.iload_n 2, 1) := by decide +kernel
theorem dX8_found_6 : decode cX8_found 6 = .ok (.invokevirtual 149, 3) := by decide +kernel
theorem dX8_found_9 : decode cX8_found 9 = .ok (.ifCond .eq 10, 3) := by decide +kernel
theorem dX8_found_12 : decode cX8_found 12 = .ok (.iload_n 3, 1) := by decide +kernel
theorem dX8_found_13 : decode cX8_found 13 = .ok (.invokestatic 121, 3) := by decide +kernel
theorem dX8_found_16 : decode cX8_found 16 = .ok (.ifCond .ne 5, 3) := by decide +kernel
theorem dX8_found_19 : decode cX8_found 19 = .ok (.iconst (-1), 1) := by decide +kernel
theorem dX8_found_20 : decode cX8_found 20 = .ok (.ireturn, 1) := by decide +kernel
theorem dX8_found_21 : decode cX8_found 21 = .ok (.aload_n 0, 1) := by decide +kernel
theorem dX8_found_22 : decode cX8_found 22 = .ok (.getfield 24, 3) := by decide +kernel
theorem dX8_found_25 : decode cX8_found 25 = .ok (.getfield 152, 3) := by decide +kernel
theorem dX8_found_28 : decode cX8_found 28 = .ok (.iload_n 1, 1) := by decide +kernel
theorem dX8_found_29 : decode cX8_found 29 = .ok (.aaload, 1) := by decide +kernel
theorem dX8_found_30 : decode cX8_found 30 = .ok (.astore 4, 2) := by decide +kernel
theorem dX8_found_32 : decode cX8_found 32 = .ok (.aload 4, 2) := by decide +kernel
theorem dX8_found_34 : decode cX8_found 34 = .ok (.getfield 156, 3) := by decide +kernel
theorem dX8_found_37 : decode cX8_found 37 = .ok (.iload_n 2, 1) := by decide +kernel
theorem dX8_found_38 : decode cX8_found 38 = .ok (.iload_n 3, 1) := by decide +kernel
theorem dX8_found_39 : decode cX8_found 39 = .ok (.i2b, 1) := by decide +kernel
theorem dX8_found_40 : decode cX8_found 40 = .ok (.bastore, 1) := by decide +kernel
theorem dX8_found_41 : decode cX8_found 41 = .ok (.aload 4, 2) := by decide +kernel
theorem dX8_found_43 : decode cX8_found 43 = .ok (.iload_n 2, 1) := by decide +kernel
theorem dX8_found_44 : decode cX8_found 44 = .ok (.invokevirtual 174, 3) := by decide +kernel
theorem dX8_found_47 : decode cX8_found 47 = .ok (.ifCond .eq 7, 3) := by decide +kernel
theorem dX8_found_50 : decode cX8_found 50 = .ok (.iconst 1, 1) := by decide +kernel
theorem dX8_found_51 : decode cX8_found 51 = .ok (.goto 4, 3) := by decide +kernel
theorem dX8_found_54 : decode cX8_found 54 = .ok (.iconst 0, 1) := by decide +kernel
theorem dX8_found_55 : decode cX8_found 55 = .ok (.ireturn, 1) := by decide +kernel
theorem dX8_cut_0 : decode cX8_cut 0 = .ok (.aload_n 0, 1) := by decide +kernel
theorem dX8_cut_1 : decode cX8_cut 1 = .ok (.getfield 24, 3) := by decide +kernel
theorem dX8_cut_4 : decode cX8_cut 4 = .ok (.getfield 130, 3) := by decide +kernel
theorem dX8_cut_7 : decode cX8_cut 7 = .ok (.ifCond .ne 6, 3) := by decide +kernel
theorem dX8_cut_10 : decode cX8_cut 10 = .ok (.bipush (-3), 2) := by decide +kernel
theorem dX8_cut_12 : decode cX8_cut 12 = .ok (.ireturn, 1) := by decide +kernel
theorem dX8_cut_13 : decode cX8_cut 13 = .ok (.aload_n 0, 1) := by decide +kernel
theorem dX8_cut_14 : decode cX8_cut 14 = .ok (.getfield 24, 3) := by decide +kernel
theorem dX8_cut_17 : decode cX8_cut 17 = .ok (.dup, 1) := by decide +kernel
theorem dX8_cut_18 : decode cX8_cut 18 = .ok (.getfield 130, 3) := by decide +kernel
theorem dX8_cut_21 : decode cX8_cut 21 = .ok (.iconst 1, 1) := by decide +kernel
theorem dX8_cut_22 : decode cX8_cut 22 = .ok (.isub, 1) := by decide +kernel
theorem dX8_cut_23 : decode cX8_cut 23 = .ok (.putfield 130, 3) := by decide +kernel
theorem dX8_cut_26 : decode cX8_cut 26 = .ok (.aload_n 0, 1) := by decide +kernel
theorem dX8_cut_27 : decode cX8_cut 27 = .ok (.getfield 24, 3) := by decide +kernel
theorem dX8_cut_30 : decode cX8_cut 30 = .ok (.getfield 130, 3) := by decide +kernel
theorem dX8_cut_33 : decode cX8_cut 33 = .ok (.ireturn, 1) := by decide +kernel
theorem dX8_minutes_0 : decode cX8_minutes 0 = .ok (.aload_n 0, 1) := by decide +kernel
theorem dX8_minutes_1 : decode cX8_minutes 1 = .ok (.getfield 24, 3) := by decide +kernel
theorem dX8_minutes_4 : decode cX8_minutes 4 = .ok (.iload_n 1, 1) := by decide +kernel
theorem dX8_minutes_5 : decode cX8_minutes 5 = .ok (.invokevirtual 177, 3) := by decide +kernel
theorem dX8_minutes_8 : decode cX8_minutes 8 = .ok (.ifCond .eq 18, 3) := by decide +kernel
theorem dX8_minutes_11 : decode cX8_minutes 11 = .ok (.aload_n 0, 1) := by decide +kernel
theorem dX8_minutes_12 : decode cX8_minutes 12 = .ok (.getfield 24, 3) := by decide +kernel
theorem dX8_minutes_15 : decode cX8_minutes 15 = .ok (.getfield 152, 3) := by decide +kernel
theorem dX8_minutes_18 : decode cX8_minutes 18 = .ok (.iload_n 1, 1) := by decide +kernel
theorem dX8_minutes_19 : decode cX8_minutes 19 = .ok (.aaload, 1) := by decide +kernel
theorem dX8_minutes_20 : decode cX8_minutes 20 = .ok (.getfield 180, 3) := by decide +kernel
theorem dX8_minutes_23 : decode cX8_minutes 23 = .ok (.goto 4, 3) := by decide +kernel
theorem dX8_minutes_26 : decode cX8_minutes 26 = .ok (.iconst (-1), 1) := by decide +kernel
theorem dX8_minutes_27 : decode cX8_minutes 27 = .ok (.ireturn, 1) := by decide +kernel
theorem dX8_shifts_0 : decode cX8_shifts 0 = .ok (.iload_n 1, 1) := by decide +kernel
theorem dX8_shifts_1 : decode cX8_shifts 1 = .ok (.iconst 0, 1) := by decide +kernel
theorem dX8_shifts_2 : decode cX8_shifts 2 = .ok (.iconst 1, 1) := by decide +kernel
theorem dX8_shifts_3 : decode cX8_shifts 3 = .ok (.invokestatic 74, 3) := by decide +kernel
theorem dX8_shifts_6 : decode cX8_shifts 6 = .ok (.ifCond .eq 23, 3) := by decide +kernel
theorem dX8_shifts_9 : decode cX8_shifts 9 = .ok (.aload_n 0, 1) := by decide +kernel
theorem dX8_shifts_10 : decode cX8_shifts 10 = .ok (.getfield 24, 3) := by decide +kernel
theorem dX8_shifts_13 : decode cX8_shifts 13 = .ok (.iload_n 1, 1) := by decide +kernel
theorem dX8_shifts_14 : decode cX8_shifts 14 = .ok (.iconst 1, 1) := by decide +kernel
theorem dX8_shifts_15 : decode cX8_shifts 15 = .ok (.if_icmp .ne 7, 3) := by decide +kernel
theorem dX8_shifts_18 : decode cX8_shifts 18 = .ok (.iconst 1, 1) := by decide +kernel
theorem dX8_shifts_19 : decode cX8_shifts 19 = .ok (.goto 4, 3) := by decide +kernel
theorem dX8_shifts_22 : decode cX8_shifts 22 = .ok (.iconst 0, 1) := by decide +kernel
theorem dX8_shifts_23 : decode cX8_shifts 23 = .ok (.invokevirtual 183, 3) := by decide +kernel
theorem dX8_shifts_26 : decode cX8_shifts 26 = .ok (.goto 4, 3) := by decide +kernel
theorem dX8_shifts_29 : decode cX8_shifts 29 = .ok (.iconst (-1), 1) := by decide +kernel
theorem dX8_shifts_30 : decode cX8_shifts 30 = .ok (.ireturn, 1) := by decide +kernel
theorem dX8_wool_0 : decode cX8_wool 0 = .ok (.iload_n 1, 1) := by decide +kernel
theorem dX8_wool_1 : decode cX8_wool 1 = .ok (.invokestatic 121, 3) := by decide +kernel
theorem dX8_wool_4 : decode cX8_wool 4 = .ok (.ifCond .eq 18, 3) := by decide +kernel
theorem dX8_wool_7 : decode cX8_wool 7 = .ok (.aload_n 0, 1) := by decide +kernel
theorem dX8_wool_8 : decode cX8_wool 8 = .ok (.getfield 24, 3) := by decide +kernel
theorem dX8_wool_11 : decode cX8_wool 11 = .ok (.getfield 136, 3) := by decide +kernel
theorem dX8_wool_14 : decode cX8_wool 14 = .ok (.iload_n 1, 1) := by decide +kernel
theorem dX8_wool_15 : decode cX8_wool 15 = .ok (.aaload, 1) := by decide +kernel
theorem dX8_wool_16 : decode cX8_wool 16 = .ok (.invokevirtual 187, 3) := by decide +kernel
theorem dX8_wool_19 : decode cX8_wool 19 = .ok (.goto 4, 3) := by decide +kernel
theorem dX8_wool_22 : decode cX8_wool 22 = .ok (.iconst (-1), 1) := by decide +kernel
theorem dX8_wool_23 : decode cX8_wool 23 = .ok (.ireturn, 1) := by decide +kernel
theorem dX8_hands_0 : decode cX8_hands 0 = .ok (.iload_n 1, 1) := by decide +kernel
theorem dX8_hands_1 : decode cX8_hands 1 = .ok (.invokestatic 127, 3) := by decide +kernel
theorem dX8_hands_4 : decode cX8_hands 4 = .ok (.ifCond .ne 5, 3) := by decide +kernel
theorem dX8_hands_7 : decode cX8_hands 7 = .ok (.iconst (-1), 1) := by decide +kernel
theorem dX8_hands_8 : decode cX8_hands 8 = .ok (.ireturn, 1) := by decide +kernel
theorem dX8_hands_9 : decode cX8_hands 9 = .ok (.iload_n 2, 1) := by decide +kernel
theorem dX8_hands_10 : decode cX8_hands 10 = .ok (.tableswitch 53 0 2 #[26, 35, 44], 26) := by decide +kernel
theorem dX8_hands_36 : decode cX8_hands 36 = .ok (.aload_n 0, 1) := by decide +kernel
theorem dX8_hands_37 : decode cX8_hands 37 = .ok (.getfield 24, 3) := by decide +kernel
theorem dX8_hands_40 : decode cX8_hands 40 = .ok (.iload_n 1, 1) := by decide +kernel
theorem dX8_hands_41 : decode cX8_hands 41 = .ok (.invokevirtual 190, 3) := by decide +kernel
theorem dX8_hands_44 : decode cX8_hands 44 = .ok (.ireturn, 1) := by decide +kernel
theorem dX8_hands_45 : decode cX8_hands 45 = .ok (.aload_n 0, 1) := by decide +kernel
theorem dX8_hands_46 : decode cX8_hands 46 = .ok (.getfield 24, 3) := by decide +kernel
theorem dX8_hands_49 : decode cX8_hands 49 = .ok (.iload_n 1, 1) := by decide +kernel
theorem dX8_hands_50 : decode cX8_hands 50 = .ok (.invokevirtual 193, 3) := by decide +kernel
theorem dX8_hands_53 : decode cX8_hands 53 = .ok (.ireturn, 1) := by decide +kernel
theorem dX8_hands_54 : decode cX8_hands 54 = .ok (.aload_n 0, 1) := by decide +kernel
theorem dX8_hands_55 : decode cX8_hands 55 = .ok (.getfield 24, 3) := by decide +kernel
theorem dX8_hands_58 : decode cX8_hands 58 = .ok (.iload_n 1, 1) := by decide +kernel
theorem dX8_hands_59 : decode cX8_hands 59 = .ok (.invokevirtual 196, 3) := by decide +kernel
theorem dX8_hands_62 : decode cX8_hands 62 = .ok (.ireturn, 1) := by decide +kernel
theorem dX8_hands_63 : decode cX8_hands 63 = .ok (.iconst (-1), 1) := by decide +kernel
theorem dX8_hands_64 : decode cX8_hands 64 = .ok (.ireturn, 1) := by decide +kernel
theorem dX8_unlike_0 : decode cX8_unlike 0 = .ok (.aload_n 0, 1) := by decide +kernel
theorem dX8_unlike_1 : decode cX8_unlike 1 = .ok (.getfield 24, 3) := by decide +kernel
theorem dX8_unlike_4 : decode cX8_unlike 4 = .ok (.iload_n 1, 1) := by decide +kernel
theorem dX8_unlike_5 : decode cX8_unlike 5 = .ok (.invokevirtual 177, 3) := by decide +kernel
theorem dX8_unlike_8 : decode cX8_unlike 8 = .ok (.ifCond .ne 5, 3) := by decide +kernel
theorem dX8_unlike_11 : decode cX8_unlike 11 = .ok (.iconst (-1), 1) := by decide +kernel
theorem dX8_unlike_12 : decode cX8_unlike 12 = .ok (.ireturn, 1) := by decide +kernel
theorem dX8_unlike_13 : decode cX8_unlike 13 = .ok (.iload_n 2, 1) := by decide +kernel
theorem dX8_unlike_14 : decode cX8_unlike 14 = .ok (.iconst (-1), 1) := by decide +kernel
theorem dX8_unlike_15 : decode cX8_unlike 15 = .ok (.if_icmp .ne 12, 3) := by decide +kernel
theorem dX8_unlike_18 : decode cX8_unlike 18 = .ok (.aload_n 0, 1) := by decide +kernel
theorem dX8_unlike_19 : decode cX8_unlike 19 = .ok (.getfield 24, 3) := by decide +kernel
theorem dX8_unlike_22 : decode cX8_unlike 22 = .ok (.iload_n 1, 1) := by decide +kernel
theorem dX8_unlike_23 : decode cX8_unlike 23 = .ok (.invokevirtual 199, 3) := by decide +kernel
theorem dX8_unlike_26 : decode cX8_unlike 26 = .ok (.ireturn, 1) := by decide +kernel
theorem dX8_unlike_27 : decode cX8_unlike 27 = .ok (.aload_n 0, 1) := by decide +kernel
theorem dX8_unlike_28 : decode cX8_unlike 28 = .ok (.getfield 24, 3) := by decide +kernel
theorem dX8_unlike_31 : decode cX8_unlike 31 = .ok (.iload_n 2, 1) := by decide +kernel
theorem dX8_unlike_32 : decode cX8_unlike 32 = .ok (.invokevirtual 177, 3) := by decide +kernel
theorem dX8_unlike_35 : decode cX8_unlike 35 = .ok (.ifCond .eq 15, 3) := by decide +kernel
theorem dX8_unlike_38 : decode cX8_unlike 38 = .ok (.aload_n 0, 1) := by decide +kernel
theorem dX8_unlike_39 : decode cX8_unlike 39 = .ok (.getfield 24, 3) := by decide +kernel
theorem dX8_unlike_42 : decode cX8_unlike 42 = .ok (.iload_n 1, 1) := by decide +kernel
theorem dX8_unlike_43 : decode cX8_unlike 43 = .ok (.iload_n 2, 1) := by decide +kernel
theorem dX8_unlike_44 : decode cX8_unlike 44 = .ok (.invokevirtual 202, 3) := by decide +kernel
theorem dX8_unlike_47 : decode cX8_unlike 47 = .ok (.goto 4, 3) := by decide +kernel
theorem dX8_unlike_50 : decode cX8_unlike 50 = .ok (.iconst (-1), 1) := by decide +kernel
theorem dX8_unlike_51 : decode cX8_unlike 51 = .ok (.ireturn, 1) := by decide +kernel
theorem dX8_side_0 : decode cX8_side 0 = .ok (.iload_n 1, 1) := by decide +kernel
theorem dX8_side_1 : decode cX8_side 1 = .ok (.invokestatic 205, 3) := by decide +kernel
theorem dX8_side_4 : decode cX8_side 4 = .ok (.ifCond .eq 20, 3) := by decide +kernel
theorem dX8_side_7 : decode cX8_side 7 = .ok (.iload_n 2, 1) := by decide +kernel
theorem dX8_side_8 : decode cX8_side 8 = .ok (.iload_n 3, 1) := by decide +kernel
theorem dX8_side_9 : decode cX8_side 9 = .ok (.invokestatic 208, 3) := by decide +kernel
theorem dX8_side_12 : decode cX8_side 12 = .ok (.ifCond .eq 12, 3) := by decide +kernel
theorem dX8_side_15 : decode cX8_side 15 = .ok (.iload_n 1, 1) := by decide +kernel
theorem dX8_side_16 : decode cX8_side 16 = .ok (.iload_n 2, 1) := by decide +kernel
theorem dX8_side_17 : decode cX8_side 17 = .ok (.iload_n 3, 1) := by decide +kernel
theorem dX8_side_18 : decode cX8_side 18 = .ok (.invokestatic 211, 3) := by decide +kernel
theorem dX8_side_21 : decode cX8_side 21 = .ok (.goto 4, 3) := by decide +kernel
theorem dX8_side_24 : decode cX8_side 24 = .ok (.iconst (-1), 1) := by decide +kernel
theorem dX8_side_25 : decode cX8_side 25 = .ok (.ireturn, 1) := by decide +kernel
theorem dX8_corner_0 : decode cX8_corner 0 = .ok (.iload_n 1, 1) := by decide +kernel
theorem dX8_corner_1 : decode cX8_corner 1 = .ok (.invokestatic 205, 3) := by decide +kernel
theorem dX8_corner_4 : decode cX8_corner 4 = .ok (.ifCond .eq 19, 3) := by decide +kernel
theorem dX8_corner_7 : decode cX8_corner 7 = .ok (.iload_n 2, 1) := by decide +kernel
theorem dX8_corner_8 : decode cX8_corner 8 = .ok (.invokestatic 205, 3) := by decide +kernel
theorem dX8_corner_11 : decode cX8_corner 11 = .ok (.ifCond .eq 12, 3) := by decide +kernel
theorem dX8_corner_14 : decode cX8_corner 14 = .ok (.iload_n 3, 1) := by decide +kernel
theorem dX8_corner_15 : decode cX8_corner 15 = .ok (.iload 4, 2) := by decide +kernel
theorem dX8_corner_17 : decode cX8_corner 17 = .ok (.invokestatic 208, 3) := by decide +kernel
theorem dX8_corner_20 : decode cX8_corner 20 = .ok (.ifCond .ne 5, 3) := by decide +kernel
theorem dX8_corner_23 : decode cX8_corner 23 = .ok (.iconst (-1), 1) := by decide +kernel
theorem dX8_corner_24 : decode cX8_corner 24 = .ok (.ireturn, 1) := by decide +kernel
theorem dX8_corner_25 : decode cX8_corner 25 = .ok (.iload_n 1, 1) := by decide +kernel
theorem dX8_corner_26 : decode cX8_corner 26 = .ok (.iload_n 3, 1) := by decide +kernel
theorem dX8_corner_27 : decode cX8_corner 27 = .ok (.iload 4, 2) := by decide +kernel
theorem dX8_corner_29 : decode cX8_corner 29 = .ok (.invokestatic 211, 3) := by decide +kernel
theorem dX8_corner_32 : decode cX8_corner 32 = .ok (.istore 5, 2) := by decide +kernel
theorem dX8_corner_34 : decode cX8_corner 34 = .ok (.iload_n 2, 1) := by decide +kernel
theorem dX8_corner_35 : decode cX8_corner 35 = .ok (.iload_n 3, 1) := by decide +kernel
theorem dX8_corner_36 : decode cX8_corner 36 = .ok (.iload 4, 2) := by decide +kernel
theorem dX8_corner_38 : decode cX8_corner 38 = .ok (.invokestatic 211, 3) := by decide +kernel
theorem dX8_corner_41 : decode cX8_corner 41 = .ok (.istore 6, 2) := by decide +kernel
end
section
theorem dX8_corner_43 : decode cX8_corner 43 = .ok (.iload 5, 2) := by decide +kernel
theorem dX8_corner_45 : decode cX8_corner 45 = .ok (.ifCond .lt 8, 3) := by decide +kernel
theorem dX8_corner_48 : decode cX8_corner 48 = .ok (.iload 6, 2) := by decide +kernel
theorem dX8_corner_50 : decode cX8_corner 50 = .ok (.ifCond .ge 6, 3) := by decide +kernel
theorem dX8_corner_53 : decode cX8_corner 53 = .ok (.bipush (-4), 2) := by decide +kernel
theorem dX8_corner_55 : decode cX8_corner 55 = .ok (.ireturn, 1) := by decide +kernel
theorem dX8_corner_56 : decode cX8_corner 56 = .ok (.iload 5, 2) := by decide +kernel
theorem dX8_corner_58 : decode cX8_corner 58 = .ok (.iload 6, 2) := by decide +kernel
theorem dX8_corner_60 : decode cX8_corner 60 = .ok (.invokestatic 214, 3) := by decide +kernel
theorem dX8_corner_63 : decode cX8_corner 63 = .ok (.ifCond .eq 7, 3) := by decide +kernel
theorem dX8_corner_66 : decode cX8_corner 66 = .ok (.iconst 1, 1) := by decide +kernel
theorem dX8_corner_67 : decode cX8_corner 67 = .ok (.goto 4, 3) := by decide +kernel
theorem dX8_corner_70 : decode cX8_corner 70 = .ok (.iconst 0, 1) := by decide +kernel
theorem dX8_corner_71 : decode cX8_corner 71 = .ok (.ireturn, 1) := by decide +kernel
theorem dX8_fits_0 : decode cX8_fits 0 = .ok (.iload_n 1, 1) := by decide +kernel
theorem dX8_fits_1 : decode cX8_fits 1 = .ok (.invokestatic 205, 3) := by decide +kernel
theorem dX8_fits_4 : decode cX8_fits 4 = .ok (.ifCond .eq 11, 3) := by decide +kernel
theorem dX8_fits_7 : decode cX8_fits 7 = .ok (.iload_n 2, 1) := by decide +kernel
theorem dX8_fits_8 : decode cX8_fits 8 = .ok (.iload_n 3, 1) := by decide +kernel
theorem dX8_fits_9 : decode cX8_fits 9 = .ok (.invokestatic 208, 3) := by decide +kernel
theorem dX8_fits_12 : decode cX8_fits 12 = .ok (.ifCond .ne 5, 3) := by decide +kernel
theorem dX8_fits_15 : decode cX8_fits 15 = .ok (.iconst (-1), 1) := by decide +kernel
theorem dX8_fits_16 : decode cX8_fits 16 = .ok (.ireturn, 1) := by decide +kernel
theorem dX8_fits_17 : decode cX8_fits 17 = .ok (.iload_n 1, 1) := by decide +kernel
theorem dX8_fits_18 : decode cX8_fits 18 = .ok (.istore 4, 2) := by decide +kernel
theorem dX8_fits_20 : decode cX8_fits 20 = .ok (.iload 4, 2) := by decide +kernel
theorem dX8_fits_22 : decode cX8_fits 22 = .ok (.sipush 400, 3) := by decide +kernel
theorem dX8_fits_25 : decode cX8_fits 25 = .ok (.if_icmp .gt 36, 3) := by decide +kernel
theorem dX8_fits_28 : decode cX8_fits 28 = .ok (.iload 4, 2) := by decide +kernel
theorem dX8_fits_30 : decode cX8_fits 30 = .ok (.iload_n 2, 1) := by decide +kernel
theorem dX8_fits_31 : decode cX8_fits 31 = .ok (.iload_n 3, 1) := by decide +kernel
theorem dX8_fits_32 : decode cX8_fits 32 = .ok (.invokestatic 211, 3) := by decide +kernel
theorem dX8_fits_35 : decode cX8_fits 35 = .ok (.istore 5, 2) := by decide +kernel
theorem dX8_fits_37 : decode cX8_fits 37 = .ok (.iload 5, 2) := by decide +kernel
theorem dX8_fits_39 : decode cX8_fits 39 = .ok (.ifCond .lt 16, 3) := by decide +kernel
theorem dX8_fits_42 : decode cX8_fits 42 = .ok (.iload 5, 2) := by decide +kernel
theorem dX8_fits_44 : decode cX8_fits 44 = .ok (.iload 5, 2) := by decide +kernel
theorem dX8_fits_46 : decode cX8_fits 46 = .ok (.invokestatic 214, 3) := by decide +kernel
theorem dX8_fits_49 : decode cX8_fits 49 = .ok (.ifCond .eq 6, 3) := by decide +kernel
theorem dX8_fits_52 : decode cX8_fits 52 = .ok (.iload 4, 2) := by decide +kernel
theorem dX8_fits_54 : decode cX8_fits 54 = .ok (.ireturn, 1) := by decide +kernel
theorem dX8_fits_55 : decode cX8_fits 55 = .ok (.iinc 4 1, 3) := by decide +kernel
theorem dX8_fits_58 : decode cX8_fits 58 = .ok (.goto (-38), 3) := by decide +kernel
theorem dX8_fits_61 : decode cX8_fits 61 = .ok (.bipush (-4), 2) := by decide +kernel
theorem dX8_fits_63 : decode cX8_fits 63 = .ok (.ireturn, 1) := by decide +kernel
theorem dX8_village_0 : decode cX8_village 0 = .ok (.iload_n 1, 1) := by decide +kernel
theorem dX8_village_1 : decode cX8_village 1 = .ok (.iconst 0, 1) := by decide +kernel
theorem dX8_village_2 : decode cX8_village 2 = .ok (.sipush 255, 3) := by decide +kernel
theorem dX8_village_5 : decode cX8_village 5 = .ok (.invokestatic 74, 3) := by decide +kernel
theorem dX8_village_8 : decode cX8_village 8 = .ok (.ifCond .eq 14, 3) := by decide +kernel
theorem dX8_village_11 : decode cX8_village 11 = .ok (.aload_n 0, 1) := by decide +kernel
theorem dX8_village_12 : decode cX8_village 12 = .ok (.getfield 40, 3) := by decide +kernel
theorem dX8_village_15 : decode cX8_village 15 = .ok (.iload_n 1, 1) := by decide +kernel
theorem dX8_village_16 : decode cX8_village 16 = .ok (.invokevirtual 217, 3) := by decide +kernel
theorem dX8_village_19 : decode cX8_village 19 = .ok (.goto 4, 3) := by decide +kernel
theorem dX8_village_22 : decode cX8_village 22 = .ok (.iconst (-1), 1) := by decide +kernel
theorem dX8_village_23 : decode cX8_village 23 = .ok (.ireturn, 1) := by decide +kernel
theorem dX8_tree_0 : decode cX8_tree 0 = .ok (.aload_n 0, 1) := by decide +kernel
theorem dX8_tree_1 : decode cX8_tree 1 = .ok (.getfield 40, 3) := by decide +kernel
theorem dX8_tree_4 : decode cX8_tree 4 = .ok (.getfield 220, 3) := by decide +kernel
theorem dX8_tree_7 : decode cX8_tree 7 = .ok (.ifCond .ne 8, 3) := by decide +kernel
theorem dX8_tree_10 : decode cX8_tree 10 = .ok (.bipush (-3), 2) := by decide +kernel
theorem dX8_tree_12 : decode cX8_tree 12 = .ok (.goto 10, 3) := by decide +kernel
theorem dX8_tree_15 : decode cX8_tree 15 = .ok (.aload_n 0, 1) := by decide +kernel
theorem dX8_tree_16 : decode cX8_tree 16 = .ok (.getfield 40, 3) := by decide +kernel
theorem dX8_tree_19 : decode cX8_tree 19 = .ok (.getfield 223, 3) := by decide +kernel
theorem dX8_tree_22 : decode cX8_tree 22 = .ok (.ireturn, 1) := by decide +kernel
theorem dX8_link_0 : decode cX8_link 0 = .ok (.iload_n 1, 1) := by decide +kernel
theorem dX8_link_1 : decode cX8_link 1 = .ok (.ifCond .ge 5, 3) := by decide +kernel
theorem dX8_link_4 : decode cX8_link 4 = .ok (.iconst (-1), 1) := by decide +kernel
theorem dX8_link_5 : decode cX8_link 5 = .ok (.ireturn, 1) := by decide +kernel
theorem dX8_link_6 : decode cX8_link 6 = .ok (.iload_n 1, 1) := by decide +kernel
theorem dX8_link_7 : decode cX8_link 7 = .ok (.aload_n 0, 1) := by decide +kernel
theorem dX8_link_8 : decode cX8_link 8 = .ok (.getfield 40, 3) := by decide +kernel
theorem dX8_link_11 : decode cX8_link 11 = .ok (.getfield 226, 3) := by decide +kernel
theorem dX8_link_14 : decode cX8_link 14 = .ok (.if_icmp .ge 15, 3) := by decide +kernel
theorem dX8_link_17 : decode cX8_link 17 = .ok (.aload_n 0, 1) := by decide +kernel
theorem dX8_link_18 : decode cX8_link 18 = .ok (.getfield 40, 3) := by decide +kernel
theorem dX8_link_21 : decode cX8_link 21 = .ok (.getfield 229, 3) := by decide +kernel
theorem dX8_link_24 : decode cX8_link 24 = .ok (.iload_n 1, 1) := by decide +kernel
theorem dX8_link_25 : decode cX8_link 25 = .ok (.iaload, 1) := by decide +kernel
theorem dX8_link_26 : decode cX8_link 26 = .ok (.goto 5, 3) := by decide +kernel
theorem dX8_link_29 : decode cX8_link 29 = .ok (.bipush (-3), 2) := by decide +kernel
theorem dX8_link_31 : decode cX8_link 31 = .ok (.ireturn, 1) := by decide +kernel
theorem dX8_rivals_0 : decode cX8_rivals 0 = .ok (.aload_n 0, 1) := by decide +kernel
theorem dX8_rivals_1 : decode cX8_rivals 1 = .ok (.getfield 40, 3) := by decide +kernel
theorem dX8_rivals_4 : decode cX8_rivals 4 = .ok (.getfield 220, 3) := by decide +kernel
theorem dX8_rivals_7 : decode cX8_rivals 7 = .ok (.ifCond .ne 6, 3) := by decide +kernel
theorem dX8_rivals_10 : decode cX8_rivals 10 = .ok (.bipush (-3), 2) := by decide +kernel
theorem dX8_rivals_12 : decode cX8_rivals 12 = .ok (.ireturn, 1) := by decide +kernel
theorem dX8_rivals_13 : decode cX8_rivals 13 = .ok (.aload_n 0, 1) := by decide +kernel
theorem dX8_rivals_14 : decode cX8_rivals 14 = .ok (.getfield 40, 3) := by decide +kernel
theorem dX8_rivals_17 : decode cX8_rivals 17 = .ok (.getfield 220, 3) := by decide +kernel
theorem dX8_rivals_20 : decode cX8_rivals 20 = .ok (.bipush 6, 2) := by decide +kernel
theorem dX8_rivals_22 : decode cX8_rivals 22 = .ok (.if_icmp .le 8, 3) := by decide +kernel
theorem dX8_rivals_25 : decode cX8_rivals 25 = .ok (.bipush (-5), 2) := by decide +kernel
theorem dX8_rivals_27 : decode cX8_rivals 27 = .ok (.goto 10, 3) := by decide +kernel
theorem dX8_rivals_30 : decode cX8_rivals 30 = .ok (.aload_n 0, 1) := by decide +kernel
theorem dX8_rivals_31 : decode cX8_rivals 31 = .ok (.getfield 40, 3) := by decide +kernel
theorem dX8_rivals_34 : decode cX8_rivals 34 = .ok (.invokevirtual 233, 3) := by decide +kernel
theorem dX8_rivals_37 : decode cX8_rivals 37 = .ok (.ireturn, 1) := by decide +kernel
theorem dX8_count_0 : decode cX8_count 0 = .ok (.iload_n 1, 1) := by decide +kernel
theorem dX8_count_1 : decode cX8_count 1 = .ok (.tableswitch 84 0 5 #[39, 47, 55, 63, 71, 76], 39) := by decide +kernel
theorem dX8_count_40 : decode cX8_count 40 = .ok (.aload_n 0, 1) := by decide +kernel
theorem dX8_count_41 : decode cX8_count 41 = .ok (.getfield 33, 3) := by decide +kernel
theorem dX8_count_44 : decode cX8_count 44 = .ok (.invokevirtual 124, 3) := by decide +kernel
theorem dX8_count_47 : decode cX8_count 47 = .ok (.ireturn, 1) := by decide +kernel
theorem dX8_count_48 : decode cX8_count 48 = .ok (.aload_n 0, 1) := by decide +kernel
theorem dX8_count_49 : decode cX8_count 49 = .ok (.getfield 24, 3) := by decide +kernel
theorem dX8_count_52 : decode cX8_count 52 = .ok (.getfield 130, 3) := by decide +kernel
theorem dX8_count_55 : decode cX8_count 55 = .ok (.ireturn, 1) := by decide +kernel
theorem dX8_count_56 : decode cX8_count 56 = .ok (.aload_n 0, 1) := by decide +kernel
theorem dX8_count_57 : decode cX8_count 57 = .ok (.getfield 24, 3) := by decide +kernel
theorem dX8_count_60 : decode cX8_count 60 = .ok (.invokevirtual 236, 3) := by decide +kernel
theorem dX8_count_63 : decode cX8_count 63 = .ok (.ireturn, 1) := by decide +kernel
theorem dX8_count_64 : decode cX8_count 64 = .ok (.aload_n 0, 1) := by decide +kernel
theorem dX8_count_65 : decode cX8_count 65 = .ok (.getfield 40, 3) := by decide +kernel
theorem dX8_count_68 : decode cX8_count 68 = .ok (.getfield 220, 3) := by decide +kernel
theorem dX8_count_71 : decode cX8_count 71 = .ok (.ireturn, 1) := by decide +kernel
theorem dX8_count_72 : decode cX8_count 72 = .ok (.aload_n 0, 1) := by decide +kernel
theorem dX8_count_73 : decode cX8_count 73 = .ok (.getfield 15, 3) := by decide +kernel
theorem dX8_count_76 : decode cX8_count 76 = .ok (.ireturn, 1) := by decide +kernel
theorem dX8_count_77 : decode cX8_count 77 = .ok (.aload_n 0, 1) := by decide +kernel
theorem dX8_count_78 : decode cX8_count 78 = .ok (.getfield 24, 3) := by decide +kernel
theorem dX8_count_81 : decode cX8_count 81 = .ok (.invokevirtual 239, 3) := by decide +kernel
theorem dX8_count_84 : decode cX8_count 84 = .ok (.ireturn, 1) := by decide +kernel
theorem dX8_count_85 : decode cX8_count 85 = .ok (.iconst (-1), 1) := by decide +kernel
theorem dX8_count_86 : decode cX8_count 86 = .ok (.ireturn, 1) := by decide +kernel
theorem dX8_keep_0 : decode cX8_keep 0 = .ok (.iload_n 1, 1) := by decide +kernel
theorem dX8_keep_1 : decode cX8_keep 1 = .ok (.invokestatic 242, 3) := by decide +kernel
theorem dX8_keep_4 : decode cX8_keep 4 = .ok (.ifCond .ne 5, 3) := by decide +kernel
theorem dX8_keep_7 : decode cX8_keep 7 = .ok (.iconst (-1), 1) := by decide +kernel
theorem dX8_keep_8 : decode cX8_keep 8 = .ok (.ireturn, 1) := by decide +kernel
theorem dX8_keep_9 : decode cX8_keep 9 = .ok (.iload_n 2, 1) := by decide +kernel
theorem dX8_keep_10 : decode cX8_keep 10 = .ok (.tableswitch 82 0 4 #[34, 45, 82, 59, 71], 34) := by decide +kernel
theorem dX8_keep_44 : decode cX8_keep 44 = .ok (.aload_n 0, 1) := by decide +kernel
theorem dX8_keep_45 : decode cX8_keep 45 = .ok (.getfield 46, 3) := by decide +kernel
theorem dX8_keep_48 : decode cX8_keep 48 = .ok (.iload_n 1, 1) := by decide +kernel
theorem dX8_keep_49 : decode cX8_keep 49 = .ok (.aaload, 1) := by decide +kernel
theorem dX8_keep_50 : decode cX8_keep 50 = .ok (.invokevirtual 245, 3) := by decide +kernel
theorem dX8_keep_53 : decode cX8_keep 53 = .ok (.iconst 0, 1) := by decide +kernel
theorem dX8_keep_54 : decode cX8_keep 54 = .ok (.ireturn, 1) := by decide +kernel
theorem dX8_keep_55 : decode cX8_keep 55 = .ok (.aload_n 0, 1) := by decide +kernel
theorem dX8_keep_56 : decode cX8_keep 56 = .ok (.aload_n 0, 1) := by decide +kernel
theorem dX8_keep_57 : decode cX8_keep 57 = .ok (.getfield 46, 3) := by decide +kernel
theorem dX8_keep_60 : decode cX8_keep 60 = .ok (.iload_n 1, 1) := by decide +kernel
theorem dX8_keep_61 : decode cX8_keep 61 = .ok (.aaload, 1) := by decide +kernel
theorem dX8_keep_62 : decode cX8_keep 62 = .ok (.iload_n 3, 1) := by decide +kernel
theorem dX8_keep_63 : decode cX8_keep 63 = .ok (.iload 4, 2) := by decide +kernel
theorem dX8_keep_65 : decode cX8_keep 65 = .ok (.invokevirtual 248, 3) := by decide +kernel
theorem dX8_keep_68 : decode cX8_keep 68 = .ok (.ireturn, 1) := by decide +kernel
theorem dX8_keep_69 : decode cX8_keep 69 = .ok (.aload_n 0, 1) := by decide +kernel
theorem dX8_keep_70 : decode cX8_keep 70 = .ok (.aload_n 0, 1) := by decide +kernel
theorem dX8_keep_71 : decode cX8_keep 71 = .ok (.getfield 46, 3) := by decide +kernel
theorem dX8_keep_74 : decode cX8_keep 74 = .ok (.iload_n 1, 1) := by decide +kernel
theorem dX8_keep_75 : decode cX8_keep 75 = .ok (.aaload, 1) := by decide +kernel
theorem dX8_keep_76 : decode cX8_keep 76 = .ok (.iload_n 3, 1) := by decide +kernel
theorem dX8_keep_77 : decode cX8_keep 77 = .ok (.invokevirtual 252, 3) := by decide +kernel
theorem dX8_keep_80 : decode cX8_keep 80 = .ok (.ireturn, 1) := by decide +kernel
theorem dX8_keep_81 : decode cX8_keep 81 = .ok (.aload_n 0, 1) := by decide +kernel
theorem dX8_keep_82 : decode cX8_keep 82 = .ok (.aload_n 0, 1) := by decide +kernel
theorem dX8_keep_83 : decode cX8_keep 83 = .ok (.getfield 46, 3) := by decide +kernel
theorem dX8_keep_86 : decode cX8_keep 86 = .ok (.iload_n 1, 1) := by decide +kernel
theorem dX8_keep_87 : decode cX8_keep 87 = .ok (.aaload, 1) := by decide +kernel
theorem dX8_keep_88 : decode cX8_keep 88 = .ok (.invokevirtual 256, 3) := by decide +kernel
theorem dX8_keep_91 : decode cX8_keep 91 = .ok (.ireturn, 1) := by decide +kernel
theorem dX8_keep_92 : decode cX8_keep 92 = .ok (.iconst (-1), 1) := by decide +kernel
theorem dX8_keep_93 : decode cX8_keep 93 = .ok (.ireturn, 1) := by decide +kernel
theorem dX8_make_0 : decode cX8_make 0 = .ok (.iload_n 1, 1) := by decide +kernel
theorem dX8_make_1 : decode cX8_make 1 = .ok (.invokestatic 242, 3) := by decide +kernel
theorem dX8_make_4 : decode cX8_make 4 = .ok (.ifCond .eq 19, 3) := by decide +kernel
theorem dX8_make_7 : decode cX8_make 7 = .ok (.iload_n 2, 1) := by decide +kernel
theorem dX8_make_8 : decode cX8_make 8 = .ok (.iconst 3, 1) := by decide +kernel
theorem dX8_make_9 : decode cX8_make 9 = .ok (.if_icmp .eq 8, 3) := by decide +kernel
theorem dX8_make_12 : decode cX8_make 12 = .ok (.iload_n 2, 1) := by decide +kernel
theorem dX8_make_13 : decode cX8_make 13 = .ok (.iconst 4, 1) := by decide +kernel
theorem dX8_make_14 : decode cX8_make 14 = .ok (.if_icmp .ne 9, 3) := by decide +kernel
theorem dX8_make_17 : decode cX8_make 17 = .ok (.iload_n 3, 1) := by decide +kernel
theorem dX8_make_18 : decode cX8_make 18 = .ok (.bipush 60, 2) := by decide +kernel
theorem dX8_make_20 : decode cX8_make 20 = .ok (.if_icmp .le 5, 3) := by decide +kernel
theorem dX8_make_23 : decode cX8_make 23 = .ok (.iconst (-1), 1) := by decide +kernel
theorem dX8_make_24 : decode cX8_make 24 = .ok (.ireturn, 1) := by decide +kernel
theorem dX8_make_25 : decode cX8_make 25 = .ok (.iload_n 3, 1) := by decide +kernel
theorem dX8_make_26 : decode cX8_make 26 = .ok (.ifCond .ge 6, 3) := by decide +kernel
theorem dX8_make_29 : decode cX8_make 29 = .ok (.bipush (-14), 2) := by decide +kernel
theorem dX8_make_31 : decode cX8_make 31 = .ok (.ireturn, 1) := by decide +kernel
theorem dX8_make_32 : decode cX8_make 32 = .ok (.aload_n 0, 1) := by decide +kernel
theorem dX8_make_33 : decode cX8_make 33 = .ok (.getfield 46, 3) := by decide +kernel
theorem dX8_make_36 : decode cX8_make 36 = .ok (.iload_n 1, 1) := by decide +kernel
theorem dX8_make_37 : decode cX8_make 37 = .ok (.aaload, 1) := by decide +kernel
theorem dX8_make_38 : decode cX8_make 38 = .ok (.iload_n 2, 1) := by decide +kernel
theorem dX8_make_39 : decode cX8_make 39 = .ok (.iload_n 3, 1) := by decide +kernel
theorem dX8_make_40 : decode cX8_make 40 = .ok (.invokevirtual 260, 3) := by decide +kernel
theorem dX8_make_43 : decode cX8_make 43 = .ok (.iconst 0, 1) := by decide +kernel
theorem dX8_make_44 : decode cX8_make 44 = .ok (.ireturn, 1) := by decide +kernel
theorem dX8_element_0 : decode cX8_element 0 = .ok (.iload_n 1, 1) := by decide +kernel
theorem dX8_element_1 : decode cX8_element 1 = .ok (.invokestatic 242, 3) := by decide +kernel
theorem dX8_element_4 : decode cX8_element 4 = .ok (.ifCond .ne 14, 3) := by decide +kernel
theorem dX8_element_7 : decode cX8_element 7 = .ok (.new 264, 3) := by decide +kernel
theorem dX8_element_10 : decode cX8_element 10 = .ok (.dup, 1) := by decide +kernel
theorem dX8_element_11 : decode cX8_element 11 = .ok (.ldc_w 266, 3) := by decide +kernel
theorem dX8_element_14 : decode cX8_element 14 = .ok (.invokespecial 268, 3) := by decide +kernel
theorem dX8_element_17 : decode cX8_element 17 = .ok (.athrow, 1) := by decide +kernel
theorem dX8_element_18 : decode cX8_element 18 = .ok (.aload_n 0, 1) := by decide +kernel
theorem dX8_element_19 : decode cX8_element 19 = .ok (.getfield 46, 3) := by decide +kernel
theorem dX8_element_22 : decode cX8_element 22 = .ok (.iload_n 1, 1) := by decide +kernel
theorem dX8_element_23 : decode cX8_element 23 = .ok (.aaload, 1) := by decide +kernel
theorem dX8_element_24 : decode cX8_element 24 = .ok (.astore_n 3, 1) := by decide +kernel
theorem dX8_element_25 : decode cX8_element 25 = .ok (.aload_n 3, 1) := by decide +kernel
theorem dX8_element_26 : decode cX8_element 26 = .ok (.invokevirtual 271, 3) := by decide +kernel
theorem dX8_element_29 : decode cX8_element 29 = .ok (.ifCond .eq 17, 3) := by decide +kernel
theorem dX8_element_32 : decode cX8_element 32 = .ok (.iload_n 2, 1) := by decide +kernel
theorem dX8_element_33 : decode cX8_element 33 = .ok (.iconst 0, 1) := by decide +kernel
theorem dX8_element_34 : decode cX8_element 34 = .ok (.aload_n 3, 1) := by decide +kernel
theorem dX8_element_35 : decode cX8_element 35 = .ok (.getfield 274, 3) := by decide +kernel
theorem dX8_element_38 : decode cX8_element 38 = .ok (.iconst 1, 1) := by decide +kernel
theorem dX8_element_39 : decode cX8_element 39 = .ok (.isub, 1) := by decide +kernel
theorem dX8_element_40 : decode cX8_element 40 = .ok (.invokestatic 74, 3) := by decide +kernel
theorem dX8_element_43 : decode cX8_element 43 = .ok (.ifCond .ne 14, 3) := by decide +kernel
theorem dX8_element_46 : decode cX8_element 46 = .ok (.new 277, 3) := by decide +kernel
theorem dX8_element_49 : decode cX8_element 49 = .ok (.dup, 1) := by decide +kernel
theorem dX8_element_50 : decode cX8_element 50 = .ok (.ldc_w 279, 3) := by decide +kernel
theorem dX8_element_53 : decode cX8_element 53 = .ok (.invokespecial 281, 3) := by decide +kernel
theorem dX8_element_56 : decode cX8_element 56 = .ok (.athrow, 1) := by decide +kernel
theorem dX8_element_57 : decode cX8_element 57 = .ok (.aload_n 3, 1) := by decide +kernel
theorem dX8_element_58 : decode cX8_element 58 = .ok (.getfield 282, 3) := by decide +kernel
theorem dX8_element_61 : decode cX8_element 61 = .ok (.iload_n 2, 1) := by decide +kernel
theorem dX8_element_62 : decode cX8_element 62 = .ok (.saload, 1) := by decide +kernel
theorem dX8_element_63 : decode cX8_element 63 = .ok (.i2l, 1) := by decide +kernel
theorem dX8_element_64 : decode cX8_element 64 = .ok (.lreturn, 1) := by decide +kernel
theorem dX8_copy_0 : decode cX8_copy 0 = .ok (.iload_n 1, 1) := by decide +kernel
theorem dX8_copy_1 : decode cX8_copy 1 = .ok (.invokestatic 242, 3) := by decide +kernel
theorem dX8_copy_4 : decode cX8_copy 4 = .ok (.ifCond .eq 10, 3) := by decide +kernel
theorem dX8_copy_7 : decode cX8_copy 7 = .ok (.iload_n 3, 1) := by decide +kernel
theorem dX8_copy_8 : decode cX8_copy 8 = .ok (.invokestatic 242, 3) := by decide +kernel
theorem dX8_copy_11 : decode cX8_copy 11 = .ok (.ifCond .ne 5, 3) := by decide +kernel
theorem dX8_copy_14 : decode cX8_copy 14 = .ok (.iconst (-1), 1) := by decide +kernel
theorem dX8_copy_15 : decode cX8_copy 15 = .ok (.ireturn, 1) := by decide +kernel
theorem dX8_copy_16 : decode cX8_copy 16 = .ok (.aload_n 0, 1) := by decide +kernel
theorem dX8_copy_17 : decode cX8_copy 17 = .ok (.getfield 46, 3) := by decide +kernel
theorem dX8_copy_20 : decode cX8_copy 20 = .ok (.iload_n 1, 1) := by decide +kernel
theorem dX8_copy_21 : decode cX8_copy 21 = .ok (.aaload, 1) := by decide +kernel
theorem dX8_copy_22 : decode cX8_copy 22 = .ok (.astore 6, 2) := by decide +kernel
theorem dX8_copy_24 : decode cX8_copy 24 = .ok (.aload_n 0, 1) := by decide +kernel
theorem dX8_copy_25 : decode cX8_copy 25 = .ok (.getfield 46, 3) := by decide +kernel
theorem dX8_copy_28 : decode cX8_copy 28 = .ok (.iload_n 3, 1) := by decide +kernel
theorem dX8_copy_29 : decode cX8_copy 29 = .ok (.aaload, 1) := by decide +kernel
theorem dX8_copy_30 : decode cX8_copy 30 = .ok (.astore 7, 2) := by decide +kernel
theorem dX8_copy_32 : decode cX8_copy 32 = .ok (.aload 6, 2) := by decide +kernel
theorem dX8_copy_34 : decode cX8_copy 34 = .ok (.getfield 286, 3) := by decide +kernel
theorem dX8_copy_37 : decode cX8_copy 37 = .ok (.ifCond .eq 11, 3) := by decide +kernel
theorem dX8_copy_40 : decode cX8_copy 40 = .ok (.aload 7, 2) := by decide +kernel
theorem dX8_copy_42 : decode cX8_copy 42 = .ok (.getfield 286, 3) := by decide +kernel
theorem dX8_copy_45 : decode cX8_copy 45 = .ok (.ifCond .ne 6, 3) := by decide +kernel
theorem dX8_copy_48 : decode cX8_copy 48 = .ok (.bipush (-11), 2) := by decide +kernel
theorem dX8_copy_50 : decode cX8_copy 50 = .ok (.ireturn, 1) := by decide +kernel
theorem dX8_copy_51 : decode cX8_copy 51 = .ok (.aload 6, 2) := by decide +kernel
theorem dX8_copy_53 : decode cX8_copy 53 = .ok (.invokevirtual 271, 3) := by decide +kernel
theorem dX8_copy_56 : decode cX8_copy 56 = .ok (.ifCond .eq 16, 3) := by decide +kernel
theorem dX8_copy_59 : decode cX8_copy 59 = .ok (.aload 6, 2) := by decide +kernel
theorem dX8_copy_61 : decode cX8_copy 61 = .ok (.getfield 286, 3) := by decide +kernel
theorem dX8_copy_64 : decode cX8_copy 64 = .ok (.aload 7, 2) := by decide +kernel
theorem dX8_copy_66 : decode cX8_copy 66 = .ok (.getfield 286, 3) := by decide +kernel
theorem dX8_copy_69 : decode cX8_copy 69 = .ok (.if_icmp .eq 6, 3) := by decide +kernel
theorem dX8_copy_72 : decode cX8_copy 72 = .ok (.bipush (-12), 2) := by decide +kernel
theorem dX8_copy_74 : decode cX8_copy 74 = .ok (.ireturn, 1) := by decide +kernel
theorem dX8_copy_75 : decode cX8_copy 75 = .ok (.aload 6, 2) := by decide +kernel
theorem dX8_copy_77 : decode cX8_copy 77 = .ok (.iload_n 2, 1) := by decide +kernel
theorem dX8_copy_78 : decode cX8_copy 78 = .ok (.iload 5, 2) := by decide +kernel
theorem dX8_copy_80 : decode cX8_copy 80 = .ok (.invokevirtual 287, 3) := by decide +kernel
theorem dX8_copy_83 : decode cX8_copy 83 = .ok (.ifCond .eq 15, 3) := by decide +kernel
theorem dX8_copy_86 : decode cX8_copy 86 = .ok (.aload 7, 2) := by decide +kernel
theorem dX8_copy_88 : decode cX8_copy 88 = .ok (.iload 4, 2) := by decide +kernel
theorem dX8_copy_90 : decode cX8_copy 90 = .ok (.iload 5, 2) := by decide +kernel
theorem dX8_copy_92 : decode cX8_copy 92 = .ok (.invokevirtual 287, 3) := by decide +kernel
theorem dX8_copy_95 : decode cX8_copy 95 = .ok (.ifCond .ne 6, 3) := by decide +kernel
theorem dX8_copy_98 : decode cX8_copy 98 = .ok (.bipush (-13), 2) := by decide +kernel
theorem dX8_copy_100 : decode cX8_copy 100 = .ok (.ireturn, 1) := by decide +kernel
theorem dX8_copy_101 : decode cX8_copy 101 = .ok (.aload 6, 2) := by decide +kernel
theorem dX8_copy_103 : decode cX8_copy 103 = .ok (.getfield 282, 3) := by decide +kernel
theorem dX8_copy_106 : decode cX8_copy 106 = .ok (.iload_n 2, 1) := by decide +kernel
theorem dX8_copy_107 : decode cX8_copy 107 = .ok (.aload 7, 2) := by decide +kernel
theorem dX8_copy_109 : decode cX8_copy 109 = .ok (.getfield 282, 3) := by decide +kernel
theorem dX8_copy_112 : decode cX8_copy 112 = .ok (.iload 4, 2) := by decide +kernel
theorem dX8_copy_114 : decode cX8_copy 114 = .ok (.iload 5, 2) := by decide +kernel
theorem dX8_copy_116 : decode cX8_copy 116 = .ok (.invokestatic 290, 3) := by decide +kernel
theorem dX8_copy_119 : decode cX8_copy 119 = .ok (.iload 5, 2) := by decide +kernel
theorem dX8_copy_121 : decode cX8_copy 121 = .ok (.ireturn, 1) := by decide +kernel
theorem dX8_weight_0 : decode cX8_weight 0 = .ok (.aload_n 0, 1) := by decide +kernel
theorem dX8_weight_1 : decode cX8_weight 1 = .ok (.iload_n 1, 1) := by decide +kernel
theorem dX8_weight_2 : decode cX8_weight 2 = .ok (.invokevirtual 296, 3) := by decide +kernel
theorem dX8_weight_5 : decode cX8_weight 5 = .ok (.astore_n 2, 1) := by decide +kernel
theorem dX8_weight_6 : decode cX8_weight 6 = .ok (.aload_n 2, 1) := by decide +kernel
theorem dX8_weight_7 : decode cX8_weight 7 = .ok (.ifnonnull 11, 3) := by decide +kernel
theorem dX8_weight_10 : decode cX8_weight 10 = .ok (.aload_n 0, 1) := by decide +kernel
theorem dX8_weight_11 : decode cX8_weight 11 = .ok (.iload_n 1, 1) := by decide +kernel
theorem dX8_weight_12 : decode cX8_weight 12 = .ok (.invokevirtual 300, 3) := by decide +kernel
theorem dX8_weight_15 : decode cX8_weight 15 = .ok (.goto 7, 3) := by decide +kernel
theorem dX8_weight_18 : decode cX8_weight 18 = .ok (.aload_n 2, 1) := by decide +kernel
theorem dX8_weight_19 : decode cX8_weight 19 = .ok (.invokevirtual 303, 3) := by decide +kernel
theorem dX8_weight_22 : decode cX8_weight 22 = .ok (.ireturn, 1) := by decide +kernel
theorem dX8_toss_0 : decode cX8_toss 0 = .ok (.aload_n 0, 1) := by decide +kernel
theorem dX8_toss_1 : decode cX8_toss 1 = .ok (.iload_n 1, 1) := by decide +kernel
theorem dX8_toss_2 : decode cX8_toss 2 = .ok (.invokevirtual 296, 3) := by decide +kernel
theorem dX8_toss_5 : decode cX8_toss 5 = .ok (.astore_n 2, 1) := by decide +kernel
theorem dX8_toss_6 : decode cX8_toss 6 = .ok (.aload_n 2, 1) := by decide +kernel
theorem dX8_toss_7 : decode cX8_toss 7 = .ok (.ifnonnull 9, 3) := by decide +kernel
theorem dX8_toss_10 : decode cX8_toss 10 = .ok (.aload_n 0, 1) := by decide +kernel
theorem dX8_toss_11 : decode cX8_toss 11 = .ok (.iload_n 1, 1) := by decide +kernel
theorem dX8_toss_12 : decode cX8_toss 12 = .ok (.invokevirtual 300, 3) := by decide +kernel
theorem dX8_toss_15 : decode cX8_toss 15 = .ok (.ireturn, 1) := by decide +kernel
theorem dX8_toss_16 : decode cX8_toss 16 = .ok (.aload_n 2, 1) := by decide +kernel
theorem dX8_toss_17 : decode cX8_toss 17 = .ok (.invokevirtual 306, 3) := by decide +kernel
theorem dX8_toss_20 : decode cX8_toss 20 = .ok (.goto 9, 3) := by decide +kernel
theorem dX8_toss_23 : decode cX8_toss 23 = .ok (.astore_n 3, 1) := by decide +kernel
theorem dX8_toss_24 : decode cX8_toss 24 = .ok (.aload_n 2, 1) := by decide +kernel
theorem dX8_toss_25 : decode cX8_toss 25 = .ok (.getfield 109, 3) := by decide +kernel
theorem dX8_toss_28 : decode cX8_toss 28 = .ok (.ireturn, 1) := by decide +kernel
theorem dX8_toss_29 : decode cX8_toss 29 = .ok (.bipush (-15), 2) := by decide +kernel
theorem dX8_toss_31 : decode cX8_toss 31 = .ok (.ireturn, 1) := by decide +kernel
theorem dX8_isWithin_0 : decode cX8_isWithin 0 = .ok (.iload_n 0, 1) := by decide +kernel
theorem dX8_isWithin_1 : decode cX8_isWithin 1 = .ok (.iload_n 1, 1) := by decide +kernel
theorem dX8_isWithin_2 : decode cX8_isWithin 2 = .ok (.if_icmp .lt 12, 3) := by decide +kernel
theorem dX8_isWithin_5 : decode cX8_isWithin 5 = .ok (.iload_n 0, 1) := by decide +kernel
theorem dX8_isWithin_6 : decode cX8_isWithin 6 = .ok (.iload_n 2, 1) := by decide +kernel
theorem dX8_isWithin_7 : decode cX8_isWithin 7 = .ok (.if_icmp .gt 7, 3) := by decide +kernel
theorem dX8_isWithin_10 : decode cX8_isWithin 10 = .ok (.iconst 1, 1) := by decide +kernel
theorem dX8_isWithin_11 : decode cX8_isWithin 11 = .ok (.goto 4, 3) := by decide +kernel
theorem dX8_isWithin_14 : decode cX8_isWithin 14 = .ok (.iconst 0, 1) := by decide +kernel
theorem dX8_isWithin_15 : decode cX8_isWithin 15 = .ok (.ireturn, 1) := by decide +kernel
theorem dX8_isColour_0 : decode cX8_isColour 0 = .ok (.iload_n 0, 1) := by decide +kernel
theorem dX8_isColour_1 : decode cX8_isColour 1 = .ok (.iconst 0, 1) := by decide +kernel
theorem dX8_isColour_2 : decode cX8_isColour 2 = .ok (.bipush 7, 2) := by decide +kernel
theorem dX8_isColour_4 : decode cX8_isColour 4 = .ok (.invokestatic 74, 3) := by decide +kernel
theorem dX8_isColour_7 : decode cX8_isColour 7 = .ok (.ireturn, 1) := by decide +kernel
theorem dX8_isHand_0 : decode cX8_isHand 0 = .ok (.iload_n 0, 1) := by decide +kernel
theorem dX8_isHand_1 : decode cX8_isHand 1 = .ok (.iconst 0, 1) := by decide +kernel
theorem dX8_isHand_2 : decode cX8_isHand 2 = .ok (.iconst 5, 1) := by decide +kernel
theorem dX8_isHand_3 : decode cX8_isHand 3 = .ok (.invokestatic 74, 3) := by decide +kernel
theorem dX8_isHand_6 : decode cX8_isHand 6 = .ok (.ireturn, 1) := by decide +kernel
theorem dX8_isShelf_0 : decode cX8_isShelf 0 = .ok (.iload_n 0, 1) := by decide +kernel
theorem dX8_isShelf_1 : decode cX8_isShelf 1 = .ok (.iconst 0, 1) := by decide +kernel
theorem dX8_isShelf_2 : decode cX8_isShelf 2 = .ok (.bipush 7, 2) := by decide +kernel
theorem dX8_isShelf_4 : decode cX8_isShelf 4 = .ok (.invokestatic 74, 3) := by decide +kernel
theorem dX8_isShelf_7 : decode cX8_isShelf 7 = .ok (.ireturn, 1) := by decide +kernel
theorem dX8_isSide_0 : decode cX8_isSide 0 = .ok (.iload_n 0, 1) := by decide +kernel
theorem dX8_isSide_1 : decode cX8_isSide 1 = .ok (.iconst 1, 1) := by decide +kernel
theorem dX8_isSide_2 : decode cX8_isSide 2 = .ok (.sipush 400, 3) := by decide +kernel
theorem dX8_isSide_5 : decode cX8_isSide 5 = .ok (.invokestatic 74, 3) := by decide +kernel
theorem dX8_isSide_8 : decode cX8_isSide 8 = .ok (.ireturn, 1) := by decide +kernel
theorem dX8_areUnits_0 : decode cX8_areUnits 0 = .ok (.iload_n 0, 1) := by decide +kernel
theorem dX8_areUnits_1 : decode cX8_areUnits 1 = .ok (.iconst 1, 1) := by decide +kernel
theorem dX8_areUnits_2 : decode cX8_areUnits 2 = .ok (.bipush 40, 2) := by decide +kernel
theorem dX8_areUnits_4 : decode cX8_areUnits 4 = .ok (.invokestatic 74, 3) := by decide +kernel
theorem dX8_areUnits_7 : decode cX8_areUnits 7 = .ok (.ifCond .eq 22, 3) := by decide +kernel
theorem dX8_areUnits_10 : decode cX8_areUnits 10 = .ok (.iload_n 1, 1) := by decide +kernel
theorem dX8_areUnits_11 : decode cX8_areUnits 11 = .ok (.iconst 1, 1) := by decide +kernel
theorem dX8_areUnits_12 : decode cX8_areUnits 12 = .ok (.bipush 40, 2) := by decide +kernel
theorem dX8_areUnits_14 : decode cX8_areUnits 14 = .ok (.invokestatic 74, 3) := by decide +kernel
theorem dX8_areUnits_17 : decode cX8_areUnits 17 = .ok (.ifCond .eq 12, 3) := by decide +kernel
theorem dX8_areUnits_20 : decode cX8_areUnits 20 = .ok (.iload_n 0, 1) := by decide +kernel
theorem dX8_areUnits_21 : decode cX8_areUnits 21 = .ok (.iload_n 1, 1) := by decide +kernel
theorem dX8_areUnits_22 : decode cX8_areUnits 22 = .ok (.if_icmp .eq 7, 3) := by decide +kernel
theorem dX8_areUnits_25 : decode cX8_areUnits 25 = .ok (.iconst 1, 1) := by decide +kernel
theorem dX8_areUnits_26 : decode cX8_areUnits 26 = .ok (.goto 4, 3) := by decide +kernel
theorem dX8_areUnits_29 : decode cX8_areUnits 29 = .ok (.iconst 0, 1) := by decide +kernel
theorem dX8_areUnits_30 : decode cX8_areUnits 30 = .ok (.ireturn, 1) := by decide +kernel
theorem dX8_wayOf_0 : decode cX8_wayOf 0 = .ok (.iload_n 1, 1) := by decide +kernel
theorem dX8_wayOf_1 : decode cX8_wayOf 1 = .ok (.iload_n 2, 1) := by decide +kernel
theorem dX8_wayOf_2 : decode cX8_wayOf 2 = .ok (.invokestatic 309, 3) := by decide +kernel
theorem dX8_wayOf_5 : decode cX8_wayOf 5 = .ok (.istore_n 3, 1) := by decide +kernel
theorem dX8_wayOf_6 : decode cX8_wayOf 6 = .ok (.iload_n 1, 1) := by decide +kernel
theorem dX8_wayOf_7 : decode cX8_wayOf 7 = .ok (.iload_n 2, 1) := by decide +kernel
theorem dX8_wayOf_8 : decode cX8_wayOf 8 = .ok (.invokestatic 312, 3) := by decide +kernel
theorem dX8_wayOf_11 : decode cX8_wayOf 11 = .ok (.istore 4, 2) := by decide +kernel
theorem dX8_wayOf_13 : decode cX8_wayOf 13 = .ok (.iload_n 0, 1) := by decide +kernel
theorem dX8_wayOf_14 : decode cX8_wayOf 14 = .ok (.iload_n 3, 1) := by decide +kernel
theorem dX8_wayOf_15 : decode cX8_wayOf 15 = .ok (.idiv, 1) := by decide +kernel
theorem dX8_wayOf_16 : decode cX8_wayOf 16 = .ok (.istore 5, 2) := by decide +kernel
theorem dX8_wayOf_18 : decode cX8_wayOf 18 = .ok (.iload 5, 2) := by decide +kernel
theorem dX8_wayOf_20 : decode cX8_wayOf 20 = .ok (.ifCond .lt 59, 3) := by decide +kernel
theorem dX8_wayOf_23 : decode cX8_wayOf 23 = .ok (.iload_n 0, 1) := by decide +kernel
theorem dX8_wayOf_24 : decode cX8_wayOf 24 = .ok (.iload 5, 2) := by decide +kernel
theorem dX8_wayOf_26 : decode cX8_wayOf 26 = .ok (.iload_n 3, 1) := by decide +kernel
theorem dX8_wayOf_27 : decode cX8_wayOf 27 = .ok (.imul, 1) := by decide +kernel
theorem dX8_wayOf_28 : decode cX8_wayOf 28 = .ok (.isub, 1) := by decide +kernel
theorem dX8_wayOf_29 : decode cX8_wayOf 29 = .ok (.istore 6, 2) := by decide +kernel
theorem dX8_wayOf_31 : decode cX8_wayOf 31 = .ok (.iload 6, 2) := by decide +kernel
theorem dX8_wayOf_33 : decode cX8_wayOf 33 = .ok (.iload 4, 2) := by decide +kernel
theorem dX8_wayOf_35 : decode cX8_wayOf 35 = .ok (.irem, 1) := by decide +kernel
theorem dX8_wayOf_36 : decode cX8_wayOf 36 = .ok (.ifCond .ne 37, 3) := by decide +kernel
theorem dX8_wayOf_39 : decode cX8_wayOf 39 = .ok (.iload 6, 2) := by decide +kernel
theorem dX8_wayOf_41 : decode cX8_wayOf 41 = .ok (.iload 4, 2) := by decide +kernel
theorem dX8_wayOf_43 : decode cX8_wayOf 43 = .ok (.idiv, 1) := by decide +kernel
theorem dX8_wayOf_44 : decode cX8_wayOf 44 = .ok (.istore 7, 2) := by decide +kernel
theorem dX8_wayOf_46 : decode cX8_wayOf 46 = .ok (.iload_n 1, 1) := by decide +kernel
theorem dX8_wayOf_47 : decode cX8_wayOf 47 = .ok (.iload_n 3, 1) := by decide +kernel
theorem dX8_wayOf_48 : decode cX8_wayOf 48 = .ok (.if_icmp .ne 15, 3) := by decide +kernel
theorem dX8_wayOf_51 : decode cX8_wayOf 51 = .ok (.sipush 1000, 3) := by decide +kernel
theorem dX8_wayOf_54 : decode cX8_wayOf 54 = .ok (.iload 5, 2) := by decide +kernel
theorem dX8_wayOf_56 : decode cX8_wayOf 56 = .ok (.imul, 1) := by decide +kernel
theorem dX8_wayOf_57 : decode cX8_wayOf 57 = .ok (.iload 7, 2) := by decide +kernel
theorem dX8_wayOf_59 : decode cX8_wayOf 59 = .ok (.iadd, 1) := by decide +kernel
theorem dX8_wayOf_60 : decode cX8_wayOf 60 = .ok (.goto 12, 3) := by decide +kernel
theorem dX8_wayOf_63 : decode cX8_wayOf 63 = .ok (.sipush 1000, 3) := by decide +kernel
theorem dX8_wayOf_66 : decode cX8_wayOf 66 = .ok (.iload 7, 2) := by decide +kernel
theorem dX8_wayOf_68 : decode cX8_wayOf 68 = .ok (.imul, 1) := by decide +kernel
theorem dX8_wayOf_69 : decode cX8_wayOf 69 = .ok (.iload 5, 2) := by decide +kernel
theorem dX8_wayOf_71 : decode cX8_wayOf 71 = .ok (.iadd, 1) := by decide +kernel
theorem dX8_wayOf_72 : decode cX8_wayOf 72 = .ok (.ireturn, 1) := by decide +kernel
theorem dX8_wayOf_73 : decode cX8_wayOf 73 = .ok (.iinc 5 (-1), 3) := by decide +kernel
theorem dX8_wayOf_76 : decode cX8_wayOf 76 = .ok (.goto (-58), 3) := by decide +kernel
theorem dX8_wayOf_79 : decode cX8_wayOf 79 = .ok (.bipush (-4), 2) := by decide +kernel
theorem dX8_wayOf_81 : decode cX8_wayOf 81 = .ok (.ireturn, 1) := by decide +kernel
theorem dX8_meet_0 : decode cX8_meet 0 = .ok (.iload_n 0, 1) := by decide +kernel
theorem dX8_meet_1 : decode cX8_meet 1 = .ok (.sipush 1000, 3) := by decide +kernel
theorem dX8_meet_4 : decode cX8_meet 4 = .ok (.irem, 1) := by decide +kernel
theorem dX8_meet_5 : decode cX8_meet 5 = .ok (.ifCond .ne 7, 3) := by decide +kernel
theorem dX8_meet_8 : decode cX8_meet 8 = .ok (.iconst 1, 1) := by decide +kernel
theorem dX8_meet_9 : decode cX8_meet 9 = .ok (.goto 4, 3) := by decide +kernel
theorem dX8_meet_12 : decode cX8_meet 12 = .ok (.iconst 0, 1) := by decide +kernel
theorem dX8_meet_13 : decode cX8_meet 13 = .ok (.istore_n 2, 1) := by decide +kernel
theorem dX8_meet_14 : decode cX8_meet 14 = .ok (.iload_n 1, 1) := by decide +kernel
theorem dX8_meet_15 : decode cX8_meet 15 = .ok (.sipush 1000, 3) := by decide +kernel
theorem dX8_meet_18 : decode cX8_meet 18 = .ok (.idiv, 1) := by decide +kernel
theorem dX8_meet_19 : decode cX8_meet 19 = .ok (.ifCond .le 7, 3) := by decide +kernel
theorem dX8_meet_22 : decode cX8_meet 22 = .ok (.iconst 1, 1) := by decide +kernel
theorem dX8_meet_23 : decode cX8_meet 23 = .ok (.goto 4, 3) := by decide +kernel
theorem dX8_meet_26 : decode cX8_meet 26 = .ok (.iconst 0, 1) := by decide +kernel
theorem dX8_meet_27 : decode cX8_meet 27 = .ok (.istore_n 3, 1) := by decide +kernel
theorem dX8_meet_28 : decode cX8_meet 28 = .ok (.iload_n 2, 1) := by decide +kernel
theorem dX8_meet_29 : decode cX8_meet 29 = .ok (.iload_n 3, 1) := by decide +kernel
theorem dX8_meet_30 : decode cX8_meet 30 = .ok (.if_icmp .ne 7, 3) := by decide +kernel
theorem dX8_meet_33 : decode cX8_meet 33 = .ok (.iconst 1, 1) := by decide +kernel
theorem dX8_meet_34 : decode cX8_meet 34 = .ok (.goto 4, 3) := by decide +kernel
theorem dX8_meet_37 : decode cX8_meet 37 = .ok (.iconst 0, 1) := by decide +kernel
theorem dX8_meet_38 : decode cX8_meet 38 = .ok (.ireturn, 1) := by decide +kernel
theorem dX8_keepStep_0 : decode cX8_keepStep 0 = .ok (.aload_n 0, 1) := by decide +kernel
theorem dX8_keepStep_1 : decode cX8_keepStep 1 = .ok (.getfield 33, 3) := by decide +kernel
theorem dX8_keepStep_4 : decode cX8_keepStep 4 = .ok (.iload_n 2, 1) := by decide +kernel
theorem dX8_keepStep_5 : decode cX8_keepStep 5 = .ok (.iload_n 3, 1) := by decide +kernel
theorem dX8_keepStep_6 : decode cX8_keepStep 6 = .ok (.invokevirtual 92, 3) := by decide +kernel
theorem dX8_keepStep_9 : decode cX8_keepStep 9 = .ok (.ifCond .ne 5, 3) := by decide +kernel
theorem dX8_keepStep_12 : decode cX8_keepStep 12 = .ok (.iconst (-1), 1) := by decide +kernel
theorem dX8_keepStep_13 : decode cX8_keepStep 13 = .ok (.ireturn, 1) := by decide +kernel
theorem dX8_keepStep_14 : decode cX8_keepStep 14 = .ok (.aload_n 0, 1) := by decide +kernel
theorem dX8_keepStep_15 : decode cX8_keepStep 15 = .ok (.getfield 33, 3) := by decide +kernel
theorem dX8_keepStep_18 : decode cX8_keepStep 18 = .ok (.iload_n 2, 1) := by decide +kernel
theorem dX8_keepStep_19 : decode cX8_keepStep 19 = .ok (.iload_n 3, 1) := by decide +kernel
theorem dX8_keepStep_20 : decode cX8_keepStep 20 = .ok (.invokevirtual 96, 3) := by decide +kernel
theorem dX8_keepStep_23 : decode cX8_keepStep 23 = .ok (.astore 4, 2) := by decide +kernel
theorem dX8_keepStep_25 : decode cX8_keepStep 25 = .ok (.aload_n 1, 1) := by decide +kernel
theorem dX8_keepStep_26 : decode cX8_keepStep 26 = .ok (.new 101, 3) := by decide +kernel
theorem dX8_keepStep_29 : decode cX8_keepStep 29 = .ok (.dup, 1) := by decide +kernel
theorem dX8_keepStep_30 : decode cX8_keepStep 30 = .ok (.aload 4, 2) := by decide +kernel
theorem dX8_keepStep_32 : decode cX8_keepStep 32 = .ok (.getfield 100, 3) := by decide +kernel
theorem dX8_keepStep_35 : decode cX8_keepStep 35 = .ok (.aload 4, 2) := by decide +kernel
theorem dX8_keepStep_37 : decode cX8_keepStep 37 = .ok (.getfield 109, 3) := by decide +kernel
theorem dX8_keepStep_40 : decode cX8_keepStep 40 = .ok (.aload 4, 2) := by decide +kernel
theorem dX8_keepStep_42 : decode cX8_keepStep 42 = .ok (.getfield 115, 3) := by decide +kernel
theorem dX8_keepStep_45 : decode cX8_keepStep 45 = .ok (.invokespecial 315, 3) := by decide +kernel
theorem dX8_keepStep_48 : decode cX8_keepStep 48 = .ok (.invokevirtual 318, 3) := by decide +kernel
theorem dX8_keepStep_51 : decode cX8_keepStep 51 = .ok (.iconst 0, 1) := by decide +kernel
theorem dX8_keepStep_52 : decode cX8_keepStep 52 = .ok (.ireturn, 1) := by decide +kernel
theorem dX8_keepColours_0 : decode cX8_keepColours 0 = .ok (.aload_n 0, 1) := by decide +kernel
theorem dX8_keepColours_1 : decode cX8_keepColours 1 = .ok (.getfield 24, 3) := by decide +kernel
theorem dX8_keepColours_4 : decode cX8_keepColours 4 = .ok (.iload_n 2, 1) := by decide +kernel
theorem dX8_keepColours_5 : decode cX8_keepColours 5 = .ok (.invokevirtual 177, 3) := by decide +kernel
theorem dX8_keepColours_8 : decode cX8_keepColours 8 = .ok (.ifCond .ne 5, 3) := by decide +kernel
theorem dX8_keepColours_11 : decode cX8_keepColours 11 = .ok (.iconst (-1), 1) := by decide +kernel
theorem dX8_keepColours_12 : decode cX8_keepColours 12 = .ok (.ireturn, 1) := by decide +kernel
theorem dX8_keepColours_13 : decode cX8_keepColours 13 = .ok (.aload_n 1, 1) := by decide +kernel
theorem dX8_keepColours_14 : decode cX8_keepColours 14 = .ok (.iconst 3, 1) := by decide +kernel
theorem dX8_keepColours_15 : decode cX8_keepColours 15 = .ok (.aload_n 0, 1) := by decide +kernel
theorem dX8_keepColours_16 : decode cX8_keepColours 16 = .ok (.getfield 15, 3) := by decide +kernel
theorem dX8_keepColours_19 : decode cX8_keepColours 19 = .ok (.invokevirtual 260, 3) := by decide +kernel
theorem dX8_keepColours_22 : decode cX8_keepColours 22 = .ok (.iconst 0, 1) := by decide +kernel
theorem dX8_keepColours_23 : decode cX8_keepColours 23 = .ok (.istore_n 3, 1) := by decide +kernel
theorem dX8_keepColours_24 : decode cX8_keepColours 24 = .ok (.iload_n 3, 1) := by decide +kernel
theorem dX8_keepColours_25 : decode cX8_keepColours 25 = .ok (.aload_n 0, 1) := by decide +kernel
theorem dX8_keepColours_26 : decode cX8_keepColours 26 = .ok (.getfield 15, 3) := by decide +kernel
theorem dX8_keepColours_29 : decode cX8_keepColours 29 = .ok (.if_icmp .ge 30, 3) := by decide +kernel
theorem dX8_keepColours_32 : decode cX8_keepColours 32 = .ok (.aload_n 1, 1) := by decide +kernel
theorem dX8_keepColours_33 : decode cX8_keepColours 33 = .ok (.getfield 282, 3) := by decide +kernel
theorem dX8_keepColours_36 : decode cX8_keepColours 36 = .ok (.iload_n 3, 1) := by decide +kernel
theorem dX8_keepColours_37 : decode cX8_keepColours 37 = .ok (.aload_n 0, 1) := by decide +kernel
theorem dX8_keepColours_38 : decode cX8_keepColours 38 = .ok (.getfield 24, 3) := by decide +kernel
theorem dX8_keepColours_41 : decode cX8_keepColours 41 = .ok (.getfield 152, 3) := by decide +kernel
theorem dX8_keepColours_44 : decode cX8_keepColours 44 = .ok (.iload_n 2, 1) := by decide +kernel
theorem dX8_keepColours_45 : decode cX8_keepColours 45 = .ok (.aaload, 1) := by decide +kernel
theorem dX8_keepColours_46 : decode cX8_keepColours 46 = .ok (.getfield 156, 3) := by decide +kernel
theorem dX8_keepColours_49 : decode cX8_keepColours 49 = .ok (.iload_n 3, 1) := by decide +kernel
theorem dX8_keepColours_50 : decode cX8_keepColours 50 = .ok (.baload, 1) := by decide +kernel
theorem dX8_keepColours_51 : decode cX8_keepColours 51 = .ok (.i2s, 1) := by decide +kernel
theorem dX8_keepColours_52 : decode cX8_keepColours 52 = .ok (.sastore, 1) := by decide +kernel
theorem dX8_keepColours_53 : decode cX8_keepColours 53 = .ok (.iinc 3 1, 3) := by decide +kernel
theorem dX8_keepColours_56 : decode cX8_keepColours 56 = .ok (.goto (-32), 3) := by decide +kernel
theorem dX8_keepColours_59 : decode cX8_keepColours 59 = .ok (.iconst 0, 1) := by decide +kernel
theorem dX8_keepColours_60 : decode cX8_keepColours 60 = .ok (.ireturn, 1) := by decide +kernel
theorem dX8_keepMinutes_0 : decode cX8_keepMinutes 0 = .ok (.aload_n 1, 1) := by decide +kernel
theorem dX8_keepMinutes_1 : decode cX8_keepMinutes 1 = .ok (.iconst 4, 1) := by decide +kernel
theorem dX8_keepMinutes_2 : decode cX8_keepMinutes 2 = .ok (.aload_n 0, 1) := by decide +kernel
theorem dX8_keepMinutes_3 : decode cX8_keepMinutes 3 = .ok (.getfield 24, 3) := by decide +kernel
theorem dX8_keepMinutes_6 : decode cX8_keepMinutes 6 = .ok (.getfield 130, 3) := by decide +kernel
theorem dX8_keepMinutes_9 : decode cX8_keepMinutes 9 = .ok (.invokevirtual 260, 3) := by decide +kernel
theorem dX8_keepMinutes_12 : decode cX8_keepMinutes 12 = .ok (.iconst 0, 1) := by decide +kernel
theorem dX8_keepMinutes_13 : decode cX8_keepMinutes 13 = .ok (.istore_n 2, 1) := by decide +kernel
theorem dX8_keepMinutes_14 : decode cX8_keepMinutes 14 = .ok (.iload_n 2, 1) := by decide +kernel
theorem dX8_keepMinutes_15 : decode cX8_keepMinutes 15 = .ok (.aload_n 0, 1) := by decide +kernel
theorem dX8_keepMinutes_16 : decode cX8_keepMinutes 16 = .ok (.getfield 24, 3) := by decide +kernel
theorem dX8_keepMinutes_19 : decode cX8_keepMinutes 19 = .ok (.getfield 130, 3) := by decide +kernel
theorem dX8_keepMinutes_22 : decode cX8_keepMinutes 22 = .ok (.if_icmp .ge 28, 3) := by decide +kernel
theorem dX8_keepMinutes_25 : decode cX8_keepMinutes 25 = .ok (.aload_n 1, 1) := by decide +kernel
theorem dX8_keepMinutes_26 : decode cX8_keepMinutes 26 = .ok (.getfield 282, 3) := by decide +kernel
theorem dX8_keepMinutes_29 : decode cX8_keepMinutes 29 = .ok (.iload_n 2, 1) := by decide +kernel
theorem dX8_keepMinutes_30 : decode cX8_keepMinutes 30 = .ok (.aload_n 0, 1) := by decide +kernel
theorem dX8_keepMinutes_31 : decode cX8_keepMinutes 31 = .ok (.getfield 24, 3) := by decide +kernel
theorem dX8_keepMinutes_34 : decode cX8_keepMinutes 34 = .ok (.getfield 152, 3) := by decide +kernel
theorem dX8_keepMinutes_37 : decode cX8_keepMinutes 37 = .ok (.iload_n 2, 1) := by decide +kernel
theorem dX8_keepMinutes_38 : decode cX8_keepMinutes 38 = .ok (.aaload, 1) := by decide +kernel
theorem dX8_keepMinutes_39 : decode cX8_keepMinutes 39 = .ok (.getfield 180, 3) := by decide +kernel
theorem dX8_keepMinutes_42 : decode cX8_keepMinutes 42 = .ok (.i2s, 1) := by decide +kernel
theorem dX8_keepMinutes_43 : decode cX8_keepMinutes 43 = .ok (.sastore, 1) := by decide +kernel
theorem dX8_keepMinutes_44 : decode cX8_keepMinutes 44 = .ok (.iinc 2 1, 3) := by decide +kernel
theorem dX8_keepMinutes_47 : decode cX8_keepMinutes 47 = .ok (.goto (-33), 3) := by decide +kernel
theorem dX8_keepMinutes_50 : decode cX8_keepMinutes 50 = .ok (.iconst 0, 1) := by decide +kernel
theorem dX8_keepMinutes_51 : decode cX8_keepMinutes 51 = .ok (.ireturn, 1) := by decide +kernel
theorem dX8_stepOn_0 : decode cX8_stepOn 0 = .ok (.iload_n 1, 1) := by decide +kernel
theorem dX8_stepOn_1 : decode cX8_stepOn 1 = .ok (.invokestatic 242, 3) := by decide +kernel
theorem dX8_stepOn_4 : decode cX8_stepOn 4 = .ok (.ifCond .eq 15, 3) := by decide +kernel
theorem dX8_stepOn_7 : decode cX8_stepOn 7 = .ok (.aload_n 0, 1) := by decide +kernel
theorem dX8_stepOn_8 : decode cX8_stepOn 8 = .ok (.getfield 46, 3) := by decide +kernel
theorem dX8_stepOn_11 : decode cX8_stepOn 11 = .ok (.iload_n 1, 1) := by decide +kernel
theorem dX8_stepOn_12 : decode cX8_stepOn 12 = .ok (.aaload, 1) := by decide +kernel
theorem dX8_stepOn_13 : decode cX8_stepOn 13 = .ok (.getfield 322, 3) := by decide +kernel
theorem dX8_stepOn_16 : decode cX8_stepOn 16 = .ok (.goto 4, 3) := by decide +kernel
theorem dX8_stepOn_19 : decode cX8_stepOn 19 = .ok (.aconst_null, 1) := by decide +kernel
theorem dX8_stepOn_20 : decode cX8_stepOn 20 = .ok (.areturn, 1) := by decide +kernel
theorem dX8_whyNoStepOn_0 : decode cX8_whyNoStepOn 0 = .ok (.iload_n 1, 1) := by decide +kernel
theorem dX8_whyNoStepOn_1 : decode cX8_whyNoStepOn 1 = .ok (.invokestatic 242, 3) := by decide +kernel
theorem dX8_whyNoStepOn_4 : decode cX8_whyNoStepOn 4 = .ok (.ifCond .ne 5, 3) := by decide +kernel
theorem dX8_whyNoStepOn_7 : decode cX8_whyNoStepOn 7 = .ok (.iconst (-1), 1) := by decide +kernel
theorem dX8_whyNoStepOn_8 : decode cX8_whyNoStepOn 8 = .ok (.ireturn, 1) := by decide +kernel
theorem dX8_whyNoStepOn_9 : decode cX8_whyNoStepOn 9 = .ok (.aload_n 0, 1) := by decide +kernel
theorem dX8_whyNoStepOn_10 : decode cX8_whyNoStepOn 10 = .ok (.getfield 46, 3) := by decide +kernel
theorem dX8_whyNoStepOn_13 : decode cX8_whyNoStepOn 13 = .ok (.iload_n 1, 1) := by decide +kernel
theorem dX8_whyNoStepOn_14 : decode cX8_whyNoStepOn 14 = .ok (.aaload, 1) := by decide +kernel
theorem dX8_whyNoStepOn_15 : decode cX8_whyNoStepOn 15 = .ok (.getfield 286, 3) := by decide +kernel
theorem dX8_whyNoStepOn_18 : decode cX8_whyNoStepOn 18 = .ok (.ifCond .ne 8, 3) := by decide +kernel
theorem dX8_whyNoStepOn_21 : decode cX8_whyNoStepOn 21 = .ok (.bipush (-11), 2) := by decide +kernel
theorem dX8_whyNoStepOn_23 : decode cX8_whyNoStepOn 23 = .ok (.goto 5, 3) := by decide +kernel
theorem dX8_whyNoStepOn_26 : decode cX8_whyNoStepOn 26 = .ok (.bipush (-12), 2) := by decide +kernel
theorem dX8_whyNoStepOn_28 : decode cX8_whyNoStepOn 28 = .ok (.ireturn, 1) := by decide +kernel
end
section
theorem dX9_thrown_0 : decode cX9_thrown 0 = .ok (.aload_n 0, 1) := by decide +kernel
theorem dX9_thrown_1 : decode cX9_thrown 1 = .ok (.getfield 1, 3) := by decide +kernel
theorem dX9_thrown_4 : decode cX9_thrown 4 = .ok (.ireturn, 1) := by decide +kernel
theorem dX9_in_0 : decode cX9_in 0 = .ok (.iload_n 1, 1) := by decide +kernel
theorem dX9_in_1 : decode cX9_in 1 = .ok (.iload_n 2, 1) := by decide +kernel
theorem dX9_in_2 : decode cX9_in 2 = .ok (.if_icmp .lt 12, 3) := by decide +kernel
theorem dX9_in_5 : decode cX9_in 5 = .ok (.iload_n 1, 1) := by decide +kernel
theorem dX9_in_6 : decode cX9_in 6 = .ok (.iload_n 3, 1) := by decide +kernel
theorem dX9_in_7 : decode cX9_in 7 = .ok (.if_icmp .gt 7, 3) := by decide +kernel
theorem dX9_in_10 : decode cX9_in 10 = .ok (.iconst 1, 1) := by decide +kernel
theorem dX9_in_11 : decode cX9_in 11 = .ok (.goto 4, 3) := by decide +kernel
theorem dX9_in_14 : decode cX9_in 14 = .ok (.iconst 0, 1) := by decide +kernel
theorem dX9_in_15 : decode cX9_in 15 = .ok (.ireturn, 1) := by decide +kernel
theorem dX9_init_0 : decode cX9_init 0 = .ok (.aload_n 0, 1) := by decide +kernel
theorem dX9_init_1 : decode cX9_init 1 = .ok (.invokespecial 7, 3) := by decide +kernel
theorem dX9_init_4 : decode cX9_init 4 = .ok (.aload_n 0, 1) := by decide +kernel
theorem dX9_init_5 : decode cX9_init 5 = .ok (.iconst 0, 1) := by decide +kernel
theorem dX9_init_6 : decode cX9_init 6 = .ok (.putfield 1, 3) := by decide +kernel
theorem dX9_init_9 : decode cX9_init 9 = .ok (.aload_n 0, 1) := by decide +kernel
theorem dX9_init_10 : decode cX9_init 10 = .ok (.iconst 0, 1) := by decide +kernel
theorem dX9_init_11 : decode cX9_init 11 = .ok (.putfield 13, 3) := by decide +kernel
theorem dX9_init_14 : decode cX9_init 14 = .ok (.aload_n 0, 1) := by decide +kernel
theorem dX9_init_15 : decode cX9_init 15 = .ok (.bipush 12, 2) := by decide +kernel
theorem dX9_init_17 : decode cX9_init 17 = .ok (.newarray .int, 2) := by decide +kernel
theorem dX9_init_19 : decode cX9_init 19 = .ok (.putfield 16, 3) := by decide +kernel
theorem dX9_init_22 : decode cX9_init 22 = .ok (.aload_n 0, 1) := by decide +kernel
theorem dX9_init_23 : decode cX9_init 23 = .ok (.sipush 144, 3) := by decide +kernel
theorem dX9_init_26 : decode cX9_init 26 = .ok (.newarray .int, 2) := by decide +kernel
theorem dX9_init_28 : decode cX9_init 28 = .ok (.putfield 20, 3) := by decide +kernel
theorem dX9_init_31 : decode cX9_init 31 = .ok (.aload_n 0, 1) := by decide +kernel
theorem dX9_init_32 : decode cX9_init 32 = .ok (.sipush 144, 3) := by decide +kernel
theorem dX9_init_35 : decode cX9_init 35 = .ok (.newarray .int, 2) := by decide +kernel
theorem dX9_init_37 : decode cX9_init 37 = .ok (.putfield 23, 3) := by decide +kernel
theorem dX9_init_40 : decode cX9_init 40 = .ok (.aload_n 0, 1) := by decide +kernel
theorem dX9_init_41 : decode cX9_init 41 = .ok (.sipush 144, 3) := by decide +kernel
theorem dX9_init_44 : decode cX9_init 44 = .ok (.newarray .int, 2) := by decide +kernel
theorem dX9_init_46 : decode cX9_init 46 = .ok (.putfield 26, 3) := by decide +kernel
theorem dX9_init_49 : decode cX9_init 49 = .ok (.aload_n 0, 1) := by decide +kernel
theorem dX9_init_50 : decode cX9_init 50 = .ok (.sipush 1000, 3) := by decide +kernel
theorem dX9_init_53 : decode cX9_init 53 = .ok (.newarray .int, 2) := by decide +kernel
theorem dX9_init_55 : decode cX9_init 55 = .ok (.putfield 29, 3) := by decide +kernel
theorem dX9_init_58 : decode cX9_init 58 = .ok (.aload_n 0, 1) := by decide +kernel
theorem dX9_init_59 : decode cX9_init 59 = .ok (.bipush 12, 2) := by decide +kernel
theorem dX9_init_61 : decode cX9_init 61 = .ok (.newarray .int, 2) := by decide +kernel
theorem dX9_init_63 : decode cX9_init 63 = .ok (.putfield 32, 3) := by decide +kernel
theorem dX9_init_66 : decode cX9_init 66 = .ok (.aload_n 0, 1) := by decide +kernel
theorem dX9_init_67 : decode cX9_init 67 = .ok (.bipush 13, 2) := by decide +kernel
theorem dX9_init_69 : decode cX9_init 69 = .ok (.newarray .int, 2) := by decide +kernel
theorem dX9_init_71 : decode cX9_init 71 = .ok (.putfield 35, 3) := by decide +kernel
theorem dX9_init_74 : decode cX9_init 74 = .ok (.aload_n 0, 1) := by decide +kernel
theorem dX9_init_75 : decode cX9_init 75 = .ok (.bipush 13, 2) := by decide +kernel
theorem dX9_init_77 : decode cX9_init 77 = .ok (.newarray .int, 2) := by decide +kernel
theorem dX9_init_79 : decode cX9_init 79 = .ok (.putfield 38, 3) := by decide +kernel
theorem dX9_init_82 : decode cX9_init 82 = .ok (.aload_n 0, 1) := by decide +kernel
theorem dX9_init_83 : decode cX9_init 83 = .ok (.bipush 13, 2) := by decide +kernel
theorem dX9_init_85 : decode cX9_init 85 = .ok (.newarray .int, 2) := by decide +kernel
theorem dX9_init_87 : decode cX9_init 87 = .ok (.putfield 41, 3) := by decide +kernel
theorem dX9_init_90 : decode cX9_init 90 = .ok (.aload_n 0, 1) := by decide +kernel
theorem dX9_init_91 : decode cX9_init 91 = .ok (.bipush 13, 2) := by decide +kernel
theorem dX9_init_93 : decode cX9_init 93 = .ok (.newarray .int, 2) := by decide +kernel
theorem dX9_init_95 : decode cX9_init 95 = .ok (.putfield 44, 3) := by decide +kernel
theorem dX9_init_98 : decode cX9_init 98 = .ok (.aload_n 0, 1) := by decide +kernel
theorem dX9_init_99 : decode cX9_init 99 = .ok (.iconst 0, 1) := by decide +kernel
theorem dX9_init_100 : decode cX9_init 100 = .ok (.putfield 47, 3) := by decide +kernel
theorem dX9_init_103 : decode cX9_init 103 = .ok (.aload_n 0, 1) := by decide +kernel
theorem dX9_init_104 : decode cX9_init 104 = .ok (.iconst 0, 1) := by decide +kernel
theorem dX9_init_105 : decode cX9_init 105 = .ok (.putfield 50, 3) := by decide +kernel
theorem dX9_init_108 : decode cX9_init 108 = .ok (.aload_n 0, 1) := by decide +kernel
theorem dX9_init_109 : decode cX9_init 109 = .ok (.iconst 0, 1) := by decide +kernel
theorem dX9_init_110 : decode cX9_init 110 = .ok (.putfield 53, 3) := by decide +kernel
theorem dX9_init_113 : decode cX9_init 113 = .ok (.aload_n 0, 1) := by decide +kernel
theorem dX9_init_114 : decode cX9_init 114 = .ok (.bipush 6, 2) := by decide +kernel
theorem dX9_init_116 : decode cX9_init 116 = .ok (.newarray .int, 2) := by decide +kernel
theorem dX9_init_118 : decode cX9_init 118 = .ok (.dup, 1) := by decide +kernel
theorem dX9_init_119 : decode cX9_init 119 = .ok (.iconst 0, 1) := by decide +kernel
theorem dX9_init_120 : decode cX9_init 120 = .ok (.bipush 8, 2) := by decide +kernel
theorem dX9_init_122 : decode cX9_init 122 = .ok (.iastore, 1) := by decide +kernel
theorem dX9_init_123 : decode cX9_init 123 = .ok (.dup, 1) := by decide +kernel
theorem dX9_init_124 : decode cX9_init 124 = .ok (.iconst 1, 1) := by decide +kernel
theorem dX9_init_125 : decode cX9_init 125 = .ok (.bipush 8, 2) := by decide +kernel
theorem dX9_init_127 : decode cX9_init 127 = .ok (.iastore, 1) := by decide +kernel
theorem dX9_init_128 : decode cX9_init 128 = .ok (.dup, 1) := by decide +kernel
theorem dX9_init_129 : decode cX9_init 129 = .ok (.iconst 2, 1) := by decide +kernel
theorem dX9_init_130 : decode cX9_init 130 = .ok (.bipush 8, 2) := by decide +kernel
theorem dX9_init_132 : decode cX9_init 132 = .ok (.iastore, 1) := by decide +kernel
theorem dX9_init_133 : decode cX9_init 133 = .ok (.dup, 1) := by decide +kernel
theorem dX9_init_134 : decode cX9_init 134 = .ok (.iconst 3, 1) := by decide +kernel
theorem dX9_init_135 : decode cX9_init 135 = .ok (.bipush 8, 2) := by decide +kernel
theorem dX9_init_137 : decode cX9_init 137 = .ok (.iastore, 1) := by decide +kernel
theorem dX9_init_138 : decode cX9_init 138 = .ok (.dup, 1) := by decide +kernel
theorem dX9_init_139 : decode cX9_init 139 = .ok (.iconst 4, 1) := by decide +kernel
theorem dX9_init_140 : decode cX9_init 140 = .ok (.bipush 8, 2) := by decide +kernel
theorem dX9_init_142 : decode cX9_init 142 = .ok (.iastore, 1) := by decide +kernel
theorem dX9_init_143 : decode cX9_init 143 = .ok (.dup, 1) := by decide +kernel
theorem dX9_init_144 : decode cX9_init 144 = .ok (.iconst 5, 1) := by decide +kernel
theorem dX9_init_145 : decode cX9_init 145 = .ok (.bipush 8, 2) := by decide +kernel
theorem dX9_init_147 : decode cX9_init 147 = .ok (.iastore, 1) := by decide +kernel
theorem dX9_init_148 : decode cX9_init 148 = .ok (.putfield 56, 3) := by decide +kernel
theorem dX9_init_151 : decode cX9_init 151 = .ok (.aload_n 0, 1) := by decide +kernel
theorem dX9_init_152 : decode cX9_init 152 = .ok (.bipush 6, 2) := by decide +kernel
theorem dX9_init_154 : decode cX9_init 154 = .ok (.newarray .int, 2) := by decide +kernel
theorem dX9_init_156 : decode cX9_init 156 = .ok (.dup, 1) := by decide +kernel
theorem dX9_init_157 : decode cX9_init 157 = .ok (.iconst 0, 1) := by decide +kernel
theorem dX9_init_158 : decode cX9_init 158 = .ok (.iconst 5, 1) := by decide +kernel
theorem dX9_init_159 : decode cX9_init 159 = .ok (.iastore, 1) := by decide +kernel
theorem dX9_init_160 : decode cX9_init 160 = .ok (.dup, 1) := by decide +kernel
theorem dX9_init_161 : decode cX9_init 161 = .ok (.iconst 1, 1) := by decide +kernel
theorem dX9_init_162 : decode cX9_init 162 = .ok (.iconst 5, 1) := by decide +kernel
theorem dX9_init_163 : decode cX9_init 163 = .ok (.iastore, 1) := by decide +kernel
theorem dX9_init_164 : decode cX9_init 164 = .ok (.dup, 1) := by decide +kernel
theorem dX9_init_165 : decode cX9_init 165 = .ok (.iconst 2, 1) := by decide +kernel
theorem dX9_init_166 : decode cX9_init 166 = .ok (.iconst 5, 1) := by decide +kernel
theorem dX9_init_167 : decode cX9_init 167 = .ok (.iastore, 1) := by decide +kernel
theorem dX9_init_168 : decode cX9_init 168 = .ok (.dup, 1) := by decide +kernel
theorem dX9_init_169 : decode cX9_init 169 = .ok (.iconst 3, 1) := by decide +kernel
theorem dX9_init_170 : decode cX9_init 170 = .ok (.iconst 5, 1) := by decide +kernel
theorem dX9_init_171 : decode cX9_init 171 = .ok (.iastore, 1) := by decide +kernel
theorem dX9_init_172 : decode cX9_init 172 = .ok (.dup, 1) := by decide +kernel
theorem dX9_init_173 : decode cX9_init 173 = .ok (.iconst 4, 1) := by decide +kernel
theorem dX9_init_174 : decode cX9_init 174 = .ok (.iconst 5, 1) := by decide +kernel
theorem dX9_init_175 : decode cX9_init 175 = .ok (.iastore, 1) := by decide +kernel
theorem dX9_init_176 : decode cX9_init 176 = .ok (.dup, 1) := by decide +kernel
theorem dX9_init_177 : decode cX9_init 177 = .ok (.iconst 5, 1) := by decide +kernel
theorem dX9_init_178 : decode cX9_init 178 = .ok (.iconst 5, 1) := by decide +kernel
theorem dX9_init_179 : decode cX9_init 179 = .ok (.iastore, 1) := by decide +kernel
theorem dX9_init_180 : decode cX9_init 180 = .ok (.putfield 59, 3) := by decide +kernel
theorem dX9_init_183 : decode cX9_init 183 = .ok (.aload_n 0, 1) := by decide +kernel
theorem dX9_init_184 : decode cX9_init 184 = .ok (.bipush 8, 2) := by decide +kernel
theorem dX9_init_186 : decode cX9_init 186 = .ok (.newarray .int, 2) := by decide +kernel
theorem dX9_init_188 : decode cX9_init 188 = .ok (.putfield 62, 3) := by decide +kernel
theorem dX9_init_191 : decode cX9_init 191 = .ok (.aload_n 0, 1) := by decide +kernel
theorem dX9_init_192 : decode cX9_init 192 = .ok (.bipush 80, 2) := by decide +kernel
theorem dX9_init_194 : decode cX9_init 194 = .ok (.newarray .int, 2) := by decide +kernel
theorem dX9_init_196 : decode cX9_init 196 = .ok (.putfield 65, 3) := by decide +kernel
theorem dX9_init_199 : decode cX9_init 199 = .ok (.aload_n 0, 1) := by decide +kernel
theorem dX9_init_200 : decode cX9_init 200 = .ok (.bipush 80, 2) := by decide +kernel
theorem dX9_init_202 : decode cX9_init 202 = .ok (.newarray .int, 2) := by decide +kernel
theorem dX9_init_204 : decode cX9_init 204 = .ok (.putfield 68, 3) := by decide +kernel
theorem dX9_init_207 : decode cX9_init 207 = .ok (.aload_n 0, 1) := by decide +kernel
theorem dX9_init_208 : decode cX9_init 208 = .ok (.iconst 0, 1) := by decide +kernel
theorem dX9_init_209 : decode cX9_init 209 = .ok (.putfield 71, 3) := by decide +kernel
theorem dX9_init_212 : decode cX9_init 212 = .ok (.aload_n 0, 1) := by decide +kernel
theorem dX9_init_213 : decode cX9_init 213 = .ok (.sipush 1600, 3) := by decide +kernel
theorem dX9_init_216 : decode cX9_init 216 = .ok (.newarray .int, 2) := by decide +kernel
theorem dX9_init_218 : decode cX9_init 218 = .ok (.putfield 74, 3) := by decide +kernel
theorem dX9_init_221 : decode cX9_init 221 = .ok (.aload_n 0, 1) := by decide +kernel
theorem dX9_init_222 : decode cX9_init 222 = .ok (.sipush 1600, 3) := by decide +kernel
theorem dX9_init_225 : decode cX9_init 225 = .ok (.newarray .int, 2) := by decide +kernel
theorem dX9_init_227 : decode cX9_init 227 = .ok (.putfield 77, 3) := by decide +kernel
theorem dX9_init_230 : decode cX9_init 230 = .ok (.aload_n 0, 1) := by decide +kernel
theorem dX9_init_231 : decode cX9_init 231 = .ok (.sipush 1600, 3) := by decide +kernel
theorem dX9_init_234 : decode cX9_init 234 = .ok (.newarray .int, 2) := by decide +kernel
theorem dX9_init_236 : decode cX9_init 236 = .ok (.putfield 80, 3) := by decide +kernel
theorem dX9_init_239 : decode cX9_init 239 = .ok (.aload_n 0, 1) := by decide +kernel
theorem dX9_init_240 : decode cX9_init 240 = .ok (.sipush 1600, 3) := by decide +kernel
theorem dX9_init_243 : decode cX9_init 243 = .ok (.newarray .int, 2) := by decide +kernel
theorem dX9_init_245 : decode cX9_init 245 = .ok (.putfield 83, 3) := by decide +kernel
theorem dX9_init_248 : decode cX9_init 248 = .ok (.aload_n 0, 1) := by decide +kernel
theorem dX9_init_249 : decode cX9_init 249 = .ok (.bipush 40, 2) := by decide +kernel
theorem dX9_init_251 : decode cX9_init 251 = .ok (.newarray .int, 2) := by decide +kernel
theorem dX9_init_253 : decode cX9_init 253 = .ok (.putfield 86, 3) := by decide +kernel
theorem dX9_init_256 : decode cX9_init 256 = .ok (.aload_n 0, 1) := by decide +kernel
theorem dX9_init_257 : decode cX9_init 257 = .ok (.iconst 0, 1) := by decide +kernel
theorem dX9_init_258 : decode cX9_init 258 = .ok (.putfield 89, 3) := by decide +kernel
theorem dX9_init_261 : decode cX9_init 261 = .ok (.aload_n 0, 1) := by decide +kernel
theorem dX9_init_262 : decode cX9_init 262 = .ok (.iconst 0, 1) := by decide +kernel
theorem dX9_init_263 : decode cX9_init 263 = .ok (.putfield 92, 3) := by decide +kernel
theorem dX9_init_266 : decode cX9_init 266 = .ok (.aload_n 0, 1) := by decide +kernel
theorem dX9_init_267 : decode cX9_init 267 = .ok (.iconst 0, 1) := by decide +kernel
theorem dX9_init_268 : decode cX9_init 268 = .ok (.putfield 95, 3) := by decide +kernel
theorem dX9_init_271 : decode cX9_init 271 = .ok (.aload_n 0, 1) := by decide +kernel
theorem dX9_init_272 : decode cX9_init 272 = .ok (.bipush 8, 2) := by decide +kernel
theorem dX9_init_274 : decode cX9_init 274 = .ok (.newarray .int, 2) := by decide +kernel
theorem dX9_init_276 : decode cX9_init 276 = .ok (.putfield 98, 3) := by decide +kernel
theorem dX9_init_279 : decode cX9_init 279 = .ok (.aload_n 0, 1) := by decide +kernel
theorem dX9_init_280 : decode cX9_init 280 = .ok (.bipush 8, 2) := by decide +kernel
theorem dX9_init_282 : decode cX9_init 282 = .ok (.newarray .int, 2) := by decide +kernel
theorem dX9_init_284 : decode cX9_init 284 = .ok (.putfield 101, 3) := by decide +kernel
theorem dX9_init_287 : decode cX9_init 287 = .ok (.aload_n 0, 1) := by decide +kernel
theorem dX9_init_288 : decode cX9_init 288 = .ok (.bipush 7, 2) := by decide +kernel
theorem dX9_init_290 : decode cX9_init 290 = .ok (.newarray .int, 2) := by decide +kernel
theorem dX9_init_292 : decode cX9_init 292 = .ok (.putfield 104, 3) := by decide +kernel
theorem dX9_init_295 : decode cX9_init 295 = .ok (.aload_n 0, 1) := by decide +kernel
theorem dX9_init_296 : decode cX9_init 296 = .ok (.bipush 15, 2) := by decide +kernel
theorem dX9_init_298 : decode cX9_init 298 = .ok (.newarray .int, 2) := by decide +kernel
theorem dX9_init_300 : decode cX9_init 300 = .ok (.putfield 107, 3) := by decide +kernel
theorem dX9_init_303 : decode cX9_init 303 = .ok (.aload_n 0, 1) := by decide +kernel
theorem dX9_init_304 : decode cX9_init 304 = .ok (.bipush 15, 2) := by decide +kernel
theorem dX9_init_306 : decode cX9_init 306 = .ok (.newarray .int, 2) := by decide +kernel
theorem dX9_init_308 : decode cX9_init 308 = .ok (.putfield 110, 3) := by decide +kernel
theorem dX9_init_311 : decode cX9_init 311 = .ok (.aload_n 0, 1) := by decide +kernel
theorem dX9_init_312 : decode cX9_init 312 = .ok (.bipush 8, 2) := by decide +kernel
theorem dX9_init_314 : decode cX9_init 314 = .ok (.newarray .int, 2) := by decide +kernel
theorem dX9_init_316 : decode cX9_init 316 = .ok (.putfield 113, 3) := by decide +kernel
theorem dX9_init_319 : decode cX9_init 319 = .ok (.aload_n 0, 1) := by decide +kernel
theorem dX9_init_320 : decode cX9_init 320 = .ok (.bipush 8, 2) := by decide +kernel
theorem dX9_init_322 : decode cX9_init 322 = .ok (.newarray .int, 2) := by decide +kernel
theorem dX9_init_324 : decode cX9_init 324 = .ok (.putfield 116, 3) := by decide +kernel
theorem dX9_init_327 : decode cX9_init 327 = .ok (.aload_n 0, 1) := by decide +kernel
theorem dX9_init_328 : decode cX9_init 328 = .ok (.bipush 8, 2) := by decide +kernel
theorem dX9_init_330 : decode cX9_init 330 = .ok (.newarray .int, 2) := by decide +kernel
theorem dX9_init_332 : decode cX9_init 332 = .ok (.putfield 119, 3) := by decide +kernel
theorem dX9_init_335 : decode cX9_init 335 = .ok (.aload_n 0, 1) := by decide +kernel
theorem dX9_init_336 : decode cX9_init 336 = .ok (.bipush 8, 2) := by decide +kernel
theorem dX9_init_338 : decode cX9_init 338 = .ok (.newarray .int, 2) := by decide +kernel
theorem dX9_init_340 : decode cX9_init 340 = .ok (.putfield 122, 3) := by decide +kernel
theorem dX9_init_343 : decode cX9_init 343 = .ok (.aload_n 0, 1) := by decide +kernel
theorem dX9_init_344 : decode cX9_init 344 = .ok (.bipush 8, 2) := by decide +kernel
theorem dX9_init_346 : decode cX9_init 346 = .ok (.newarray .int, 2) := by decide +kernel
theorem dX9_init_348 : decode cX9_init 348 = .ok (.putfield 125, 3) := by decide +kernel
theorem dX9_init_351 : decode cX9_init 351 = .ok (.aload_n 0, 1) := by decide +kernel
theorem dX9_init_352 : decode cX9_init 352 = .ok (.sipush 480, 3) := by decide +kernel
theorem dX9_init_355 : decode cX9_init 355 = .ok (.newarray .int, 2) := by decide +kernel
theorem dX9_init_357 : decode cX9_init 357 = .ok (.putfield 128, 3) := by decide +kernel
theorem dX9_init_360 : decode cX9_init 360 = .ok (.aload_n 0, 1) := by decide +kernel
theorem dX9_init_361 : decode cX9_init 361 = .ok (.bipush 60, 2) := by decide +kernel
theorem dX9_init_363 : decode cX9_init 363 = .ok (.newarray .int, 2) := by decide +kernel
theorem dX9_init_365 : decode cX9_init 365 = .ok (.putfield 131, 3) := by decide +kernel
theorem dX9_init_368 : decode cX9_init 368 = .ok (.aload_n 0, 1) := by decide +kernel
theorem dX9_init_369 : decode cX9_init 369 = .ok (.iconst 4, 1) := by decide +kernel
theorem dX9_init_370 : decode cX9_init 370 = .ok (.iload_n 1, 1) := by decide +kernel
theorem dX9_init_371 : decode cX9_init 371 = .ok (.bipush 37, 2) := by decide +kernel
theorem dX9_init_373 : decode cX9_init 373 = .ok (.irem, 1) := by decide +kernel
theorem dX9_init_374 : decode cX9_init 374 = .ok (.bipush 37, 2) := by decide +kernel
theorem dX9_init_376 : decode cX9_init 376 = .ok (.iadd, 1) := by decide +kernel
theorem dX9_init_377 : decode cX9_init 377 = .ok (.bipush 37, 2) := by decide +kernel
theorem dX9_init_379 : decode cX9_init 379 = .ok (.irem, 1) := by decide +kernel
theorem dX9_init_380 : decode cX9_init 380 = .ok (.iadd, 1) := by decide +kernel
theorem dX9_init_381 : decode cX9_init 381 = .ok (.putfield 134, 3) := by decide +kernel
theorem dX9_init_384 : decode cX9_init 384 = .ok (.return_, 1) := by decide +kernel
theorem dX9_isChant_0 : decode cX9_isChant 0 = .ok (.aload_n 0, 1) := by decide +kernel
theorem dX9_isChant_1 : decode cX9_isChant 1 = .ok (.iload_n 1, 1) := by decide +kernel
theorem dX9_isChant_2 : decode cX9_isChant 2 = .ok (.iconst 0, 1) := by decide +kernel
theorem dX9_isChant_3 : decode cX9_isChant 3 = .ok (.aload_n 0, 1) := by decide +kernel
theorem dX9_isChant_4 : decode cX9_isChant 4 = .ok (.getfield 13, 3) := by decide +kernel
theorem dX9_isChant_7 : decode cX9_isChant 7 = .ok (.iconst 1, 1) := by decide +kernel
theorem dX9_isChant_8 : decode cX9_isChant 8 = .ok (.isub, 1) := by decide +kernel
theorem dX9_isChant_9 : decode cX9_isChant 9 = .ok (.invokevirtual 137, 3) := by decide +kernel
theorem dX9_isChant_12 : decode cX9_isChant 12 = .ok (.ireturn, 1) := by decide +kernel
theorem dX9_isColour_0 : decode cX9_isColour 0 = .ok (.aload_n 0, 1) := by decide +kernel
theorem dX9_isColour_1 : decode cX9_isColour 1 = .ok (.iload_n 1, 1) := by decide +kernel
theorem dX9_isColour_2 : decode cX9_isColour 2 = .ok (.iconst 0, 1) := by decide +kernel
theorem dX9_isColour_3 : decode cX9_isColour 3 = .ok (.bipush 7, 2) := by decide +kernel
theorem dX9_isColour_5 : decode cX9_isColour 5 = .ok (.invokevirtual 137, 3) := by decide +kernel
theorem dX9_isColour_8 : decode cX9_isColour 8 = .ok (.ireturn, 1) := by decide +kernel
theorem dX9_hasNumber_0 : decode cX9_hasNumber 0 = .ok (.iload_n 1, 1) := by decide +kernel
theorem dX9_hasNumber_1 : decode cX9_hasNumber 1 = .ok (.ifCond .eq 13, 3) := by decide +kernel
theorem dX9_hasNumber_4 : decode cX9_hasNumber 4 = .ok (.aload_n 0, 1) := by decide +kernel
theorem dX9_hasNumber_5 : decode cX9_hasNumber 5 = .ok (.iload_n 1, 1) := by decide +kernel
theorem dX9_hasNumber_6 : decode cX9_hasNumber 6 = .ok (.iconst 3, 1) := by decide +kernel
theorem dX9_hasNumber_7 : decode cX9_hasNumber 7 = .ok (.iconst 5, 1) := by decide +kernel
theorem dX9_hasNumber_8 : decode cX9_hasNumber 8 = .ok (.invokevirtual 137, 3) := by decide +kernel
theorem dX9_hasNumber_11 : decode cX9_hasNumber 11 = .ok (.ifCond .eq 7, 3) := by decide +kernel
theorem dX9_hasNumber_14 : decode cX9_hasNumber 14 = .ok (.iconst 1, 1) := by decide +kernel
theorem dX9_hasNumber_15 : decode cX9_hasNumber 15 = .ok (.goto 4, 3) := by decide +kernel
theorem dX9_hasNumber_18 : decode cX9_hasNumber 18 = .ok (.iconst 0, 1) := by decide +kernel
theorem dX9_hasNumber_19 : decode cX9_hasNumber 19 = .ok (.ireturn, 1) := by decide +kernel
theorem dX9_hasColour_0 : decode cX9_hasColour 0 = .ok (.iload_n 1, 1) := by decide +kernel
theorem dX9_hasColour_1 : decode cX9_hasColour 1 = .ok (.ifCond .eq 8, 3) := by decide +kernel
theorem dX9_hasColour_4 : decode cX9_hasColour 4 = .ok (.iload_n 1, 1) := by decide +kernel
theorem dX9_hasColour_5 : decode cX9_hasColour 5 = .ok (.iconst 1, 1) := by decide +kernel
theorem dX9_hasColour_6 : decode cX9_hasColour 6 = .ok (.if_icmp .ne 7, 3) := by decide +kernel
theorem dX9_hasColour_9 : decode cX9_hasColour 9 = .ok (.iconst 1, 1) := by decide +kernel
theorem dX9_hasColour_10 : decode cX9_hasColour 10 = .ok (.goto 4, 3) := by decide +kernel
theorem dX9_hasColour_13 : decode cX9_hasColour 13 = .ok (.iconst 0, 1) := by decide +kernel
theorem dX9_hasColour_14 : decode cX9_hasColour 14 = .ok (.ireturn, 1) := by decide +kernel
theorem dX9_chant_0 : decode cX9_chant 0 = .ok (.aload_n 0, 1) := by decide +kernel
theorem dX9_chant_1 : decode cX9_chant 1 = .ok (.getfield 13, 3) := by decide +kernel
theorem dX9_chant_4 : decode cX9_chant 4 = .ok (.bipush 12, 2) := by decide +kernel
theorem dX9_chant_6 : decode cX9_chant 6 = .ok (.if_icmp .ne 6, 3) := by decide +kernel
theorem dX9_chant_9 : decode cX9_chant 9 = .ok (.bipush (-2), 2) := by decide +kernel
theorem dX9_chant_11 : decode cX9_chant 11 = .ok (.ireturn, 1) := by decide +kernel
theorem dX9_chant_12 : decode cX9_chant 12 = .ok (.aload_n 0, 1) := by decide +kernel
theorem dX9_chant_13 : decode cX9_chant 13 = .ok (.getfield 16, 3) := by decide +kernel
theorem dX9_chant_16 : decode cX9_chant 16 = .ok (.aload_n 0, 1) := by decide +kernel
theorem dX9_chant_17 : decode cX9_chant 17 = .ok (.getfield 13, 3) := by decide +kernel
theorem dX9_chant_20 : decode cX9_chant 20 = .ok (.iconst 0, 1) := by decide +kernel
theorem dX9_chant_21 : decode cX9_chant 21 = .ok (.iastore, 1) := by decide +kernel
theorem dX9_chant_22 : decode cX9_chant 22 = .ok (.aload_n 0, 1) := by decide +kernel
theorem dX9_chant_23 : decode cX9_chant 23 = .ok (.dup, 1) := by decide +kernel
theorem dX9_chant_24 : decode cX9_chant 24 = .ok (.getfield 13, 3) := by decide +kernel
theorem dX9_chant_27 : decode cX9_chant 27 = .ok (.iconst 1, 1) := by decide +kernel
theorem dX9_chant_28 : decode cX9_chant 28 = .ok (.iadd, 1) := by decide +kernel
theorem dX9_chant_29 : decode cX9_chant 29 = .ok (.putfield 13, 3) := by decide +kernel
theorem dX9_chant_32 : decode cX9_chant 32 = .ok (.aload_n 0, 1) := by decide +kernel
theorem dX9_chant_33 : decode cX9_chant 33 = .ok (.getfield 13, 3) := by decide +kernel
theorem dX9_chant_36 : decode cX9_chant 36 = .ok (.iconst 1, 1) := by decide +kernel
theorem dX9_chant_37 : decode cX9_chant 37 = .ok (.isub, 1) := by decide +kernel
theorem dX9_chant_38 : decode cX9_chant 38 = .ok (.ireturn, 1) := by decide +kernel
theorem dX9_step_0 : decode cX9_step 0 = .ok (.aload_n 0, 1) := by decide +kernel
theorem dX9_step_1 : decode cX9_step 1 = .ok (.iload_n 1, 1) := by decide +kernel
theorem dX9_step_2 : decode cX9_step 2 = .ok (.iconst 0, 1) := by decide +kernel
theorem dX9_step_3 : decode cX9_step 3 = .ok (.iconst 5, 1) := by decide +kernel
theorem dX9_step_4 : decode cX9_step 4 = .ok (.invokevirtual 137, 3) := by decide +kernel
theorem dX9_step_7 : decode cX9_step 7 = .ok (.ifCond .eq 23, 3) := by decide +kernel
theorem dX9_step_10 : decode cX9_step 10 = .ok (.aload_n 0, 1) := by decide +kernel
theorem dX9_step_11 : decode cX9_step 11 = .ok (.iload_n 1, 1) := by decide +kernel
theorem dX9_step_12 : decode cX9_step 12 = .ok (.invokevirtual 141, 3) := by decide +kernel
theorem dX9_step_15 : decode cX9_step 15 = .ok (.ifCond .eq 11, 3) := by decide +kernel
theorem dX9_step_18 : decode cX9_step 18 = .ok (.aload_n 0, 1) := by decide +kernel
theorem dX9_step_19 : decode cX9_step 19 = .ok (.iload_n 3, 1) := by decide +kernel
theorem dX9_step_20 : decode cX9_step 20 = .ok (.invokevirtual 145, 3) := by decide +kernel
theorem dX9_step_23 : decode cX9_step 23 = .ok (.ifCond .eq 7, 3) := by decide +kernel
theorem dX9_step_26 : decode cX9_step 26 = .ok (.iconst 1, 1) := by decide +kernel
theorem dX9_step_27 : decode cX9_step 27 = .ok (.goto 4, 3) := by decide +kernel
theorem dX9_step_30 : decode cX9_step 30 = .ok (.iconst 0, 1) := by decide +kernel
theorem dX9_step_31 : decode cX9_step 31 = .ok (.istore 4, 2) := by decide +kernel
theorem dX9_step_33 : decode cX9_step 33 = .ok (.iload 4, 2) := by decide +kernel
theorem dX9_step_35 : decode cX9_step 35 = .ok (.ifCond .eq 56, 3) := by decide +kernel
theorem dX9_step_38 : decode cX9_step 38 = .ok (.aload_n 0, 1) := by decide +kernel
theorem dX9_step_39 : decode cX9_step 39 = .ok (.iload_n 1, 1) := by decide +kernel
theorem dX9_step_40 : decode cX9_step 40 = .ok (.invokevirtual 148, 3) := by decide +kernel
theorem dX9_step_43 : decode cX9_step 43 = .ok (.ifCond .eq 48, 3) := by decide +kernel
theorem dX9_step_46 : decode cX9_step 46 = .ok (.iload_n 1, 1) := by decide +kernel
theorem dX9_step_47 : decode cX9_step 47 = .ok (.ifCond .ne 14, 3) := by decide +kernel
theorem dX9_step_50 : decode cX9_step 50 = .ok (.aload_n 0, 1) := by decide +kernel
theorem dX9_step_51 : decode cX9_step 51 = .ok (.iload_n 2, 1) := by decide +kernel
theorem dX9_step_52 : decode cX9_step 52 = .ok (.iconst 1, 1) := by decide +kernel
theorem dX9_step_53 : decode cX9_step 53 = .ok (.bipush 40, 2) := by decide +kernel
theorem dX9_step_55 : decode cX9_step 55 = .ok (.invokevirtual 137, 3) := by decide +kernel
theorem dX9_step_58 : decode cX9_step 58 = .ok (.goto 31, 3) := by decide +kernel
theorem dX9_step_61 : decode cX9_step 61 = .ok (.iload_n 1, 1) := by decide +kernel
theorem dX9_step_62 : decode cX9_step 62 = .ok (.iconst 4, 1) := by decide +kernel
theorem dX9_step_63 : decode cX9_step 63 = .ok (.if_icmp .ne 18, 3) := by decide +kernel
theorem dX9_step_66 : decode cX9_step 66 = .ok (.aload_n 0, 1) := by decide +kernel
theorem dX9_step_67 : decode cX9_step 67 = .ok (.iload_n 2, 1) := by decide +kernel
theorem dX9_step_68 : decode cX9_step 68 = .ok (.iconst 0, 1) := by decide +kernel
theorem dX9_step_69 : decode cX9_step 69 = .ok (.aload_n 0, 1) := by decide +kernel
theorem dX9_step_70 : decode cX9_step 70 = .ok (.getfield 13, 3) := by decide +kernel
theorem dX9_step_73 : decode cX9_step 73 = .ok (.iconst 2, 1) := by decide +kernel
theorem dX9_step_74 : decode cX9_step 74 = .ok (.isub, 1) := by decide +kernel
theorem dX9_step_75 : decode cX9_step 75 = .ok (.invokevirtual 137, 3) := by decide +kernel
theorem dX9_step_78 : decode cX9_step 78 = .ok (.goto 11, 3) := by decide +kernel
theorem dX9_step_81 : decode cX9_step 81 = .ok (.aload_n 0, 1) := by decide +kernel
theorem dX9_step_82 : decode cX9_step 82 = .ok (.iload_n 2, 1) := by decide +kernel
theorem dX9_step_83 : decode cX9_step 83 = .ok (.iconst 1, 1) := by decide +kernel
theorem dX9_step_84 : decode cX9_step 84 = .ok (.bipush 9, 2) := by decide +kernel
theorem dX9_step_86 : decode cX9_step 86 = .ok (.invokevirtual 137, 3) := by decide +kernel
theorem dX9_step_89 : decode cX9_step 89 = .ok (.istore 4, 2) := by decide +kernel
theorem dX9_step_91 : decode cX9_step 91 = .ok (.iload 4, 2) := by decide +kernel
theorem dX9_step_93 : decode cX9_step 93 = .ok (.ifCond .ne 5, 3) := by decide +kernel
theorem dX9_step_96 : decode cX9_step 96 = .ok (.iconst (-1), 1) := by decide +kernel
theorem dX9_step_97 : decode cX9_step 97 = .ok (.ireturn, 1) := by decide +kernel
theorem dX9_step_98 : decode cX9_step 98 = .ok (.aload_n 0, 1) := by decide +kernel
theorem dX9_step_99 : decode cX9_step 99 = .ok (.getfield 13, 3) := by decide +kernel
theorem dX9_step_102 : decode cX9_step 102 = .ok (.ifCond .le 22, 3) := by decide +kernel
theorem dX9_step_105 : decode cX9_step 105 = .ok (.aload_n 0, 1) := by decide +kernel
theorem dX9_step_106 : decode cX9_step 106 = .ok (.getfield 16, 3) := by decide +kernel
theorem dX9_step_109 : decode cX9_step 109 = .ok (.aload_n 0, 1) := by decide +kernel
theorem dX9_step_110 : decode cX9_step 110 = .ok (.getfield 13, 3) := by decide +kernel
theorem dX9_step_113 : decode cX9_step 113 = .ok (.iconst 1, 1) := by decide +kernel
theorem dX9_step_114 : decode cX9_step 114 = .ok (.isub, 1) := by decide +kernel
theorem dX9_step_115 : decode cX9_step 115 = .ok (.iaload, 1) := by decide +kernel
theorem dX9_step_116 : decode cX9_step 116 = .ok (.bipush 12, 2) := by decide +kernel
theorem dX9_step_118 : decode cX9_step 118 = .ok (.if_icmp .ne 6, 3) := by decide +kernel
theorem dX9_step_121 : decode cX9_step 121 = .ok (.bipush (-2), 2) := by decide +kernel
theorem dX9_step_123 : decode cX9_step 123 = .ok (.ireturn, 1) := by decide +kernel
theorem dX9_step_124 : decode cX9_step 124 = .ok (.aload_n 0, 1) := by decide +kernel
theorem dX9_step_125 : decode cX9_step 125 = .ok (.getfield 13, 3) := by decide +kernel
theorem dX9_step_128 : decode cX9_step 128 = .ok (.ifCond .ne 6, 3) := by decide +kernel
theorem dX9_step_131 : decode cX9_step 131 = .ok (.bipush (-3), 2) := by decide +kernel
theorem dX9_step_133 : decode cX9_step 133 = .ok (.ireturn, 1) := by decide +kernel
theorem dX9_step_134 : decode cX9_step 134 = .ok (.bipush 12, 2) := by decide +kernel
theorem dX9_step_136 : decode cX9_step 136 = .ok (.aload_n 0, 1) := by decide +kernel
theorem dX9_step_137 : decode cX9_step 137 = .ok (.getfield 13, 3) := by decide +kernel
theorem dX9_step_140 : decode cX9_step 140 = .ok (.iconst 1, 1) := by decide +kernel
theorem dX9_step_141 : decode cX9_step 141 = .ok (.isub, 1) := by decide +kernel
theorem dX9_step_142 : decode cX9_step 142 = .ok (.imul, 1) := by decide +kernel
theorem dX9_step_143 : decode cX9_step 143 = .ok (.aload_n 0, 1) := by decide +kernel
theorem dX9_step_144 : decode cX9_step 144 = .ok (.getfield 16, 3) := by decide +kernel
theorem dX9_step_147 : decode cX9_step 147 = .ok (.aload_n 0, 1) := by decide +kernel
theorem dX9_step_148 : decode cX9_step 148 = .ok (.getfield 13, 3) := by decide +kernel
theorem dX9_step_151 : decode cX9_step 151 = .ok (.iconst 1, 1) := by decide +kernel
theorem dX9_step_152 : decode cX9_step 152 = .ok (.isub, 1) := by decide +kernel
theorem dX9_step_153 : decode cX9_step 153 = .ok (.iaload, 1) := by decide +kernel
theorem dX9_step_154 : decode cX9_step 154 = .ok (.iadd, 1) := by decide +kernel
theorem dX9_step_155 : decode cX9_step 155 = .ok (.istore 5, 2) := by decide +kernel
theorem dX9_step_157 : decode cX9_step 157 = .ok (.aload_n 0, 1) := by decide +kernel
theorem dX9_step_158 : decode cX9_step 158 = .ok (.getfield 20, 3) := by decide +kernel
theorem dX9_step_161 : decode cX9_step 161 = .ok (.iload 5, 2) := by decide +kernel
theorem dX9_step_163 : decode cX9_step 163 = .ok (.iload_n 1, 1) := by decide +kernel
theorem dX9_step_164 : decode cX9_step 164 = .ok (.iastore, 1) := by decide +kernel
theorem dX9_step_165 : decode cX9_step 165 = .ok (.aload_n 0, 1) := by decide +kernel
theorem dX9_step_166 : decode cX9_step 166 = .ok (.getfield 23, 3) := by decide +kernel
theorem dX9_step_169 : decode cX9_step 169 = .ok (.iload 5, 2) := by decide +kernel
theorem dX9_step_171 : decode cX9_step 171 = .ok (.iload_n 2, 1) := by decide +kernel
theorem dX9_step_172 : decode cX9_step 172 = .ok (.iastore, 1) := by decide +kernel
theorem dX9_step_173 : decode cX9_step 173 = .ok (.aload_n 0, 1) := by decide +kernel
theorem dX9_step_174 : decode cX9_step 174 = .ok (.getfield 26, 3) := by decide +kernel
theorem dX9_step_177 : decode cX9_step 177 = .ok (.iload 5, 2) := by decide +kernel
theorem dX9_step_179 : decode cX9_step 179 = .ok (.iload_n 3, 1) := by decide +kernel
theorem dX9_step_180 : decode cX9_step 180 = .ok (.iastore, 1) := by decide +kernel
theorem dX9_step_181 : decode cX9_step 181 = .ok (.aload_n 0, 1) := by decide +kernel
theorem dX9_step_182 : decode cX9_step 182 = .ok (.getfield 16, 3) := by decide +kernel
theorem dX9_step_185 : decode cX9_step 185 = .ok (.aload_n 0, 1) := by decide +kernel
theorem dX9_step_186 : decode cX9_step 186 = .ok (.getfield 13, 3) := by decide +kernel
theorem dX9_step_189 : decode cX9_step 189 = .ok (.iconst 1, 1) := by decide +kernel
theorem dX9_step_190 : decode cX9_step 190 = .ok (.isub, 1) := by decide +kernel
theorem dX9_step_191 : decode cX9_step 191 = .ok (.dup2, 1) := by decide +kernel
theorem dX9_step_192 : decode cX9_step 192 = .ok (.iaload, 1) := by decide +kernel
theorem dX9_step_193 : decode cX9_step 193 = .ok (.iconst 1, 1) := by decide +kernel
theorem dX9_step_194 : decode cX9_step 194 = .ok (.iadd, 1) := by decide +kernel
theorem dX9_step_195 : decode cX9_step 195 = .ok (.iastore, 1) := by decide +kernel
theorem dX9_step_196 : decode cX9_step 196 = .ok (.aload_n 0, 1) := by decide +kernel
theorem dX9_step_197 : decode cX9_step 197 = .ok (.getfield 16, 3) := by decide +kernel
theorem dX9_step_200 : decode cX9_step 200 = .ok (.aload_n 0, 1) := by decide +kernel
theorem dX9_step_201 : decode cX9_step 201 = .ok (.getfield 13, 3) := by decide +kernel
theorem dX9_step_204 : decode cX9_step 204 = .ok (.iconst 1, 1) := by decide +kernel
theorem dX9_step_205 : decode cX9_step 205 = .ok (.isub, 1) := by decide +kernel
theorem dX9_step_206 : decode cX9_step 206 = .ok (.iaload, 1) := by decide +kernel
theorem dX9_step_207 : decode cX9_step 207 = .ok (.iconst 1, 1) := by decide +kernel
theorem dX9_step_208 : decode cX9_step 208 = .ok (.isub, 1) := by decide +kernel
theorem dX9_step_209 : decode cX9_step 209 = .ok (.ireturn, 1) := by decide +kernel
theorem dX9_add_0 : decode cX9_add 0 = .ok (.aload_n 0, 1) := by decide +kernel
theorem dX9_add_1 : decode cX9_add 1 = .ok (.getfield 47, 3) := by decide +kernel
theorem dX9_add_4 : decode cX9_add 4 = .ok (.sipush 1000, 3) := by decide +kernel
theorem dX9_add_7 : decode cX9_add 7 = .ok (.if_icmp .ne 5, 3) := by decide +kernel
theorem dX9_add_10 : decode cX9_add 10 = .ok (.iconst 0, 1) := by decide +kernel
theorem dX9_add_11 : decode cX9_add 11 = .ok (.ireturn, 1) := by decide +kernel
theorem dX9_add_12 : decode cX9_add 12 = .ok (.aload_n 0, 1) := by decide +kernel
theorem dX9_add_13 : decode cX9_add 13 = .ok (.getfield 29, 3) := by decide +kernel
theorem dX9_add_16 : decode cX9_add 16 = .ok (.aload_n 0, 1) := by decide +kernel
theorem dX9_add_17 : decode cX9_add 17 = .ok (.getfield 47, 3) := by decide +kernel
theorem dX9_add_20 : decode cX9_add 20 = .ok (.iload_n 1, 1) := by decide +kernel
theorem dX9_add_21 : decode cX9_add 21 = .ok (.iastore, 1) := by decide +kernel
theorem dX9_add_22 : decode cX9_add 22 = .ok (.aload_n 0, 1) := by decide +kernel
theorem dX9_add_23 : decode cX9_add 23 = .ok (.dup, 1) := by decide +kernel
theorem dX9_add_24 : decode cX9_add 24 = .ok (.getfield 47, 3) := by decide +kernel
theorem dX9_add_27 : decode cX9_add 27 = .ok (.iconst 1, 1) := by decide +kernel
theorem dX9_add_28 : decode cX9_add 28 = .ok (.iadd, 1) := by decide +kernel
theorem dX9_add_29 : decode cX9_add 29 = .ok (.putfield 47, 3) := by decide +kernel
theorem dX9_add_32 : decode cX9_add 32 = .ok (.iconst 1, 1) := by decide +kernel
theorem dX9_add_33 : decode cX9_add 33 = .ok (.ireturn, 1) := by decide +kernel
theorem dX9_addAll_0 : decode cX9_addAll 0 = .ok (.iconst 1, 1) := by decide +kernel
theorem dX9_addAll_1 : decode cX9_addAll 1 = .ok (.istore 4, 2) := by decide +kernel
theorem dX9_addAll_3 : decode cX9_addAll 3 = .ok (.iconst 0, 1) := by decide +kernel
theorem dX9_addAll_4 : decode cX9_addAll 4 = .ok (.istore 5, 2) := by decide +kernel
theorem dX9_addAll_6 : decode cX9_addAll 6 = .ok (.iload 5, 2) := by decide +kernel
theorem dX9_addAll_8 : decode cX9_addAll 8 = .ok (.iload_n 2, 1) := by decide +kernel
theorem dX9_addAll_9 : decode cX9_addAll 9 = .ok (.iload_n 1, 1) := by decide +kernel
theorem dX9_addAll_10 : decode cX9_addAll 10 = .ok (.isub, 1) := by decide +kernel
theorem dX9_addAll_11 : decode cX9_addAll 11 = .ok (.if_icmp .ge 42, 3) := by decide +kernel
theorem dX9_addAll_14 : decode cX9_addAll 14 = .ok (.iload 4, 2) := by decide +kernel
theorem dX9_addAll_16 : decode cX9_addAll 16 = .ok (.ifCond .eq 37, 3) := by decide +kernel
theorem dX9_addAll_19 : decode cX9_addAll 19 = .ok (.aload_n 0, 1) := by decide +kernel
theorem dX9_addAll_20 : decode cX9_addAll 20 = .ok (.aload_n 0, 1) := by decide +kernel
theorem dX9_addAll_21 : decode cX9_addAll 21 = .ok (.getfield 29, 3) := by decide +kernel
theorem dX9_addAll_24 : decode cX9_addAll 24 = .ok (.iload_n 3, 1) := by decide +kernel
theorem dX9_addAll_25 : decode cX9_addAll 25 = .ok (.ifCond .eq 12, 3) := by decide +kernel
theorem dX9_addAll_28 : decode cX9_addAll 28 = .ok (.iload_n 2, 1) := by decide +kernel
theorem dX9_addAll_29 : decode cX9_addAll 29 = .ok (.iconst 1, 1) := by decide +kernel
theorem dX9_addAll_30 : decode cX9_addAll 30 = .ok (.isub, 1) := by decide +kernel
theorem dX9_addAll_31 : decode cX9_addAll 31 = .ok (.iload 5, 2) := by decide +kernel
theorem dX9_addAll_33 : decode cX9_addAll 33 = .ok (.isub, 1) := by decide +kernel
theorem dX9_addAll_34 : decode cX9_addAll 34 = .ok (.goto 7, 3) := by decide +kernel
theorem dX9_addAll_37 : decode cX9_addAll 37 = .ok (.iload_n 1, 1) := by decide +kernel
theorem dX9_addAll_38 : decode cX9_addAll 38 = .ok (.iload 5, 2) := by decide +kernel
theorem dX9_addAll_40 : decode cX9_addAll 40 = .ok (.iadd, 1) := by decide +kernel
theorem dX9_addAll_41 : decode cX9_addAll 41 = .ok (.iaload, 1) := by decide +kernel
theorem dX9_addAll_42 : decode cX9_addAll 42 = .ok (.invokevirtual 151, 3) := by decide +kernel
theorem dX9_addAll_45 : decode cX9_addAll 45 = .ok (.istore 4, 2) := by decide +kernel
theorem dX9_addAll_47 : decode cX9_addAll 47 = .ok (.iinc 5 1, 3) := by decide +kernel
theorem dX9_addAll_50 : decode cX9_addAll 50 = .ok (.goto (-44), 3) := by decide +kernel
theorem dX9_addAll_53 : decode cX9_addAll 53 = .ok (.iload 4, 2) := by decide +kernel
theorem dX9_addAll_55 : decode cX9_addAll 55 = .ok (.ireturn, 1) := by decide +kernel
theorem dX9_stepOf_0 : decode cX9_stepOf 0 = .ok (.iconst 1, 1) := by decide +kernel
theorem dX9_stepOf_1 : decode cX9_stepOf 1 = .ok (.istore 4, 2) := by decide +kernel
theorem dX9_stepOf_3 : decode cX9_stepOf 3 = .ok (.aload_n 0, 1) := by decide +kernel
theorem dX9_stepOf_4 : decode cX9_stepOf 4 = .ok (.getfield 47, 3) := by decide +kernel
theorem dX9_stepOf_7 : decode cX9_stepOf 7 = .ok (.istore 5, 2) := by decide +kernel
theorem dX9_stepOf_9 : decode cX9_stepOf 9 = .ok (.aload_n 0, 1) := by decide +kernel
theorem dX9_stepOf_10 : decode cX9_stepOf 10 = .ok (.getfield 20, 3) := by decide +kernel
theorem dX9_stepOf_13 : decode cX9_stepOf 13 = .ok (.iload_n 1, 1) := by decide +kernel
theorem dX9_stepOf_14 : decode cX9_stepOf 14 = .ok (.iaload, 1) := by decide +kernel
theorem dX9_stepOf_15 : decode cX9_stepOf 15 = .ok (.tableswitch 150 0 3 #[29, 69, 99, 112], 29) := by decide +kernel
theorem dX9_stepOf_44 : decode cX9_stepOf 44 = .ok (.iconst 0, 1) := by decide +kernel
theorem dX9_stepOf_45 : decode cX9_stepOf 45 = .ok (.istore 6, 2) := by decide +kernel
theorem dX9_stepOf_47 : decode cX9_stepOf 47 = .ok (.iload 6, 2) := by decide +kernel
theorem dX9_stepOf_49 : decode cX9_stepOf 49 = .ok (.aload_n 0, 1) := by decide +kernel
theorem dX9_stepOf_50 : decode cX9_stepOf 50 = .ok (.getfield 23, 3) := by decide +kernel
theorem dX9_stepOf_53 : decode cX9_stepOf 53 = .ok (.iload_n 1, 1) := by decide +kernel
theorem dX9_stepOf_54 : decode cX9_stepOf 54 = .ok (.iaload, 1) := by decide +kernel
theorem dX9_stepOf_55 : decode cX9_stepOf 55 = .ok (.if_icmp .ge 26, 3) := by decide +kernel
theorem dX9_stepOf_58 : decode cX9_stepOf 58 = .ok (.iload 4, 2) := by decide +kernel
theorem dX9_stepOf_60 : decode cX9_stepOf 60 = .ok (.ifCond .eq 21, 3) := by decide +kernel
theorem dX9_stepOf_63 : decode cX9_stepOf 63 = .ok (.aload_n 0, 1) := by decide +kernel
theorem dX9_stepOf_64 : decode cX9_stepOf 64 = .ok (.aload_n 0, 1) := by decide +kernel
theorem dX9_stepOf_65 : decode cX9_stepOf 65 = .ok (.getfield 26, 3) := by decide +kernel
theorem dX9_stepOf_68 : decode cX9_stepOf 68 = .ok (.iload_n 1, 1) := by decide +kernel
theorem dX9_stepOf_69 : decode cX9_stepOf 69 = .ok (.iaload, 1) := by decide +kernel
theorem dX9_stepOf_70 : decode cX9_stepOf 70 = .ok (.invokevirtual 151, 3) := by decide +kernel
theorem dX9_stepOf_73 : decode cX9_stepOf 73 = .ok (.istore 4, 2) := by decide +kernel
theorem dX9_stepOf_75 : decode cX9_stepOf 75 = .ok (.iinc 6 1, 3) := by decide +kernel
theorem dX9_stepOf_78 : decode cX9_stepOf 78 = .ok (.goto (-31), 3) := by decide +kernel
theorem dX9_stepOf_81 : decode cX9_stepOf 81 = .ok (.goto 124, 3) := by decide +kernel
theorem dX9_stepOf_84 : decode cX9_stepOf 84 = .ok (.iload 4, 2) := by decide +kernel
theorem dX9_stepOf_86 : decode cX9_stepOf 86 = .ok (.ifCond .eq 119, 3) := by decide +kernel
theorem dX9_stepOf_89 : decode cX9_stepOf 89 = .ok (.aload_n 0, 1) := by decide +kernel
theorem dX9_stepOf_90 : decode cX9_stepOf 90 = .ok (.getfield 47, 3) := by decide +kernel
theorem dX9_stepOf_93 : decode cX9_stepOf 93 = .ok (.iload_n 2, 1) := by decide +kernel
theorem dX9_stepOf_94 : decode cX9_stepOf 94 = .ok (.isub, 1) := by decide +kernel
theorem dX9_stepOf_95 : decode cX9_stepOf 95 = .ok (.iload_n 3, 1) := by decide +kernel
theorem dX9_stepOf_96 : decode cX9_stepOf 96 = .ok (.if_icmp .ge 109, 3) := by decide +kernel
theorem dX9_stepOf_99 : decode cX9_stepOf 99 = .ok (.aload_n 0, 1) := by decide +kernel
theorem dX9_stepOf_100 : decode cX9_stepOf 100 = .ok (.aload_n 0, 1) := by decide +kernel
theorem dX9_stepOf_101 : decode cX9_stepOf 101 = .ok (.getfield 26, 3) := by decide +kernel
theorem dX9_stepOf_104 : decode cX9_stepOf 104 = .ok (.iload_n 1, 1) := by decide +kernel
theorem dX9_stepOf_105 : decode cX9_stepOf 105 = .ok (.iaload, 1) := by decide +kernel
theorem dX9_stepOf_106 : decode cX9_stepOf 106 = .ok (.invokevirtual 151, 3) := by decide +kernel
theorem dX9_stepOf_109 : decode cX9_stepOf 109 = .ok (.istore 4, 2) := by decide +kernel
theorem dX9_stepOf_111 : decode cX9_stepOf 111 = .ok (.goto (-27), 3) := by decide +kernel
theorem dX9_stepOf_114 : decode cX9_stepOf 114 = .ok (.aload_n 0, 1) := by decide +kernel
theorem dX9_stepOf_115 : decode cX9_stepOf 115 = .ok (.iload_n 2, 1) := by decide +kernel
theorem dX9_stepOf_116 : decode cX9_stepOf 116 = .ok (.iload 5, 2) := by decide +kernel
theorem dX9_stepOf_118 : decode cX9_stepOf 118 = .ok (.iconst 1, 1) := by decide +kernel
theorem dX9_stepOf_119 : decode cX9_stepOf 119 = .ok (.invokevirtual 154, 3) := by decide +kernel
theorem dX9_stepOf_122 : decode cX9_stepOf 122 = .ok (.istore 4, 2) := by decide +kernel
theorem dX9_stepOf_124 : decode cX9_stepOf 124 = .ok (.goto 81, 3) := by decide +kernel
theorem dX9_stepOf_127 : decode cX9_stepOf 127 = .ok (.iconst 0, 1) := by decide +kernel
theorem dX9_stepOf_128 : decode cX9_stepOf 128 = .ok (.istore 6, 2) := by decide +kernel
theorem dX9_stepOf_130 : decode cX9_stepOf 130 = .ok (.iload 6, 2) := by decide +kernel
theorem dX9_stepOf_132 : decode cX9_stepOf 132 = .ok (.aload_n 0, 1) := by decide +kernel
theorem dX9_stepOf_133 : decode cX9_stepOf 133 = .ok (.getfield 23, 3) := by decide +kernel
theorem dX9_stepOf_136 : decode cX9_stepOf 136 = .ok (.iload_n 1, 1) := by decide +kernel
theorem dX9_stepOf_137 : decode cX9_stepOf 137 = .ok (.iaload, 1) := by decide +kernel
theorem dX9_stepOf_138 : decode cX9_stepOf 138 = .ok (.if_icmp .ge 24, 3) := by decide +kernel
theorem dX9_stepOf_141 : decode cX9_stepOf 141 = .ok (.iload 4, 2) := by decide +kernel
theorem dX9_stepOf_143 : decode cX9_stepOf 143 = .ok (.ifCond .eq 19, 3) := by decide +kernel
theorem dX9_stepOf_146 : decode cX9_stepOf 146 = .ok (.aload_n 0, 1) := by decide +kernel
theorem dX9_stepOf_147 : decode cX9_stepOf 147 = .ok (.iload_n 2, 1) := by decide +kernel
theorem dX9_stepOf_148 : decode cX9_stepOf 148 = .ok (.iload 5, 2) := by decide +kernel
theorem dX9_stepOf_150 : decode cX9_stepOf 150 = .ok (.iconst 0, 1) := by decide +kernel
theorem dX9_stepOf_151 : decode cX9_stepOf 151 = .ok (.invokevirtual 154, 3) := by decide +kernel
theorem dX9_stepOf_154 : decode cX9_stepOf 154 = .ok (.istore 4, 2) := by decide +kernel
theorem dX9_stepOf_156 : decode cX9_stepOf 156 = .ok (.iinc 6 1, 3) := by decide +kernel
theorem dX9_stepOf_159 : decode cX9_stepOf 159 = .ok (.goto (-29), 3) := by decide +kernel
theorem dX9_stepOf_162 : decode cX9_stepOf 162 = .ok (.goto 43, 3) := by decide +kernel
theorem dX9_stepOf_165 : decode cX9_stepOf 165 = .ok (.iload 4, 2) := by decide +kernel
theorem dX9_stepOf_167 : decode cX9_stepOf 167 = .ok (.ifCond .eq 38, 3) := by decide +kernel
theorem dX9_stepOf_170 : decode cX9_stepOf 170 = .ok (.aload_n 0, 1) := by decide +kernel
theorem dX9_stepOf_171 : decode cX9_stepOf 171 = .ok (.getfield 47, 3) := by decide +kernel
theorem dX9_stepOf_174 : decode cX9_stepOf 174 = .ok (.iload_n 2, 1) := by decide +kernel
theorem dX9_stepOf_175 : decode cX9_stepOf 175 = .ok (.isub, 1) := by decide +kernel
theorem dX9_stepOf_176 : decode cX9_stepOf 176 = .ok (.iload_n 3, 1) := by decide +kernel
theorem dX9_stepOf_177 : decode cX9_stepOf 177 = .ok (.if_icmp .ge 28, 3) := by decide +kernel
theorem dX9_stepOf_180 : decode cX9_stepOf 180 = .ok (.aload_n 0, 1) := by decide +kernel
theorem dX9_stepOf_181 : decode cX9_stepOf 181 = .ok (.aload_n 0, 1) := by decide +kernel
theorem dX9_stepOf_182 : decode cX9_stepOf 182 = .ok (.aload_n 0, 1) := by decide +kernel
theorem dX9_stepOf_183 : decode cX9_stepOf 183 = .ok (.getfield 23, 3) := by decide +kernel
theorem dX9_stepOf_186 : decode cX9_stepOf 186 = .ok (.iload_n 1, 1) := by decide +kernel
theorem dX9_stepOf_187 : decode cX9_stepOf 187 = .ok (.iaload, 1) := by decide +kernel
theorem dX9_stepOf_188 : decode cX9_stepOf 188 = .ok (.aload_n 0, 1) := by decide +kernel
theorem dX9_stepOf_189 : decode cX9_stepOf 189 = .ok (.getfield 47, 3) := by decide +kernel
theorem dX9_stepOf_192 : decode cX9_stepOf 192 = .ok (.iload_n 2, 1) := by decide +kernel
theorem dX9_stepOf_193 : decode cX9_stepOf 193 = .ok (.isub, 1) := by decide +kernel
theorem dX9_stepOf_194 : decode cX9_stepOf 194 = .ok (.invokevirtual 158, 3) := by decide +kernel
theorem dX9_stepOf_197 : decode cX9_stepOf 197 = .ok (.invokevirtual 151, 3) := by decide +kernel
theorem dX9_stepOf_200 : decode cX9_stepOf 200 = .ok (.istore 4, 2) := by decide +kernel
theorem dX9_stepOf_202 : decode cX9_stepOf 202 = .ok (.goto (-37), 3) := by decide +kernel
theorem dX9_stepOf_205 : decode cX9_stepOf 205 = .ok (.iload 4, 2) := by decide +kernel
theorem dX9_stepOf_207 : decode cX9_stepOf 207 = .ok (.ireturn, 1) := by decide +kernel
theorem dX9_below_0 : decode cX9_below 0 = .ok (.iload_n 1, 1) := by decide +kernel
theorem dX9_below_1 : decode cX9_below 1 = .ok (.aload_n 0, 1) := by decide +kernel
theorem dX9_below_2 : decode cX9_below 2 = .ok (.getfield 71, 3) := by decide +kernel
theorem dX9_below_5 : decode cX9_below 5 = .ok (.if_icmp .gt 11, 3) := by decide +kernel
theorem dX9_below_8 : decode cX9_below 8 = .ok (.iload_n 2, 1) := by decide +kernel
theorem dX9_below_9 : decode cX9_below 9 = .ok (.aload_n 0, 1) := by decide +kernel
theorem dX9_below_10 : decode cX9_below 10 = .ok (.getfield 134, 3) := by decide +kernel
theorem dX9_below_13 : decode cX9_below 13 = .ok (.if_icmp .lt 7, 3) := by decide +kernel
theorem dX9_below_16 : decode cX9_below 16 = .ok (.iconst 0, 1) := by decide +kernel
theorem dX9_below_17 : decode cX9_below 17 = .ok (.goto 19, 3) := by decide +kernel
theorem dX9_below_20 : decode cX9_below 20 = .ok (.aload_n 0, 1) := by decide +kernel
theorem dX9_below_21 : decode cX9_below 21 = .ok (.getfield 77, 3) := by decide +kernel
theorem dX9_below_24 : decode cX9_below 24 = .ok (.bipush 40, 2) := by decide +kernel
theorem dX9_below_26 : decode cX9_below 26 = .ok (.aload_n 0, 1) := by decide +kernel
theorem dX9_below_27 : decode cX9_below 27 = .ok (.getfield 71, 3) := by decide +kernel
theorem dX9_below_30 : decode cX9_below 30 = .ok (.iload_n 1, 1) := by decide +kernel
theorem dX9_below_31 : decode cX9_below 31 = .ok (.isub, 1) := by decide +kernel
theorem dX9_below_32 : decode cX9_below 32 = .ok (.imul, 1) := by decide +kernel
theorem dX9_below_33 : decode cX9_below 33 = .ok (.iload_n 2, 1) := by decide +kernel
theorem dX9_below_34 : decode cX9_below 34 = .ok (.iadd, 1) := by decide +kernel
theorem dX9_below_35 : decode cX9_below 35 = .ok (.iaload, 1) := by decide +kernel
theorem dX9_below_36 : decode cX9_below 36 = .ok (.ireturn, 1) := by decide +kernel
theorem dX9_call_0 : decode cX9_call 0 = .ok (.aload_n 0, 1) := by decide +kernel
theorem dX9_call_1 : decode cX9_call 1 = .ok (.iconst 0, 1) := by decide +kernel
theorem dX9_call_2 : decode cX9_call 2 = .ok (.putfield 47, 3) := by decide +kernel
theorem dX9_call_5 : decode cX9_call 5 = .ok (.iconst 0, 1) := by decide +kernel
theorem dX9_call_6 : decode cX9_call 6 = .ok (.istore_n 2, 1) := by decide +kernel
theorem dX9_call_7 : decode cX9_call 7 = .ok (.iconst 1, 1) := by decide +kernel
theorem dX9_call_8 : decode cX9_call 8 = .ok (.istore_n 3, 1) := by decide +kernel
theorem dX9_call_9 : decode cX9_call 9 = .ok (.aload_n 0, 1) := by decide +kernel
theorem dX9_call_10 : decode cX9_call 10 = .ok (.getfield 35, 3) := by decide +kernel
theorem dX9_call_13 : decode cX9_call 13 = .ok (.iconst 0, 1) := by decide +kernel
theorem dX9_call_14 : decode cX9_call 14 = .ok (.iload_n 1, 1) := by decide +kernel
theorem dX9_call_15 : decode cX9_call 15 = .ok (.iastore, 1) := by decide +kernel
theorem dX9_call_16 : decode cX9_call 16 = .ok (.aload_n 0, 1) := by decide +kernel
theorem dX9_call_17 : decode cX9_call 17 = .ok (.getfield 38, 3) := by decide +kernel
theorem dX9_call_20 : decode cX9_call 20 = .ok (.iconst 0, 1) := by decide +kernel
theorem dX9_call_21 : decode cX9_call 21 = .ok (.iconst 0, 1) := by decide +kernel
theorem dX9_call_22 : decode cX9_call 22 = .ok (.iastore, 1) := by decide +kernel
end
section
theorem dX9_call_23 : decode cX9_call 23 = .ok (.aload_n 0, 1) := by decide +kernel
theorem dX9_call_24 : decode cX9_call 24 = .ok (.getfield 41, 3) := by decide +kernel
theorem dX9_call_27 : decode cX9_call 27 = .ok (.iconst 0, 1) := by decide +kernel
theorem dX9_call_28 : decode cX9_call 28 = .ok (.iconst 0, 1) := by decide +kernel
theorem dX9_call_29 : decode cX9_call 29 = .ok (.iastore, 1) := by decide +kernel
theorem dX9_call_30 : decode cX9_call 30 = .ok (.aload_n 0, 1) := by decide +kernel
theorem dX9_call_31 : decode cX9_call 31 = .ok (.getfield 44, 3) := by decide +kernel
theorem dX9_call_34 : decode cX9_call 34 = .ok (.iconst 0, 1) := by decide +kernel
theorem dX9_call_35 : decode cX9_call 35 = .ok (.aload_n 0, 1) := by decide +kernel
theorem dX9_call_36 : decode cX9_call 36 = .ok (.getfield 134, 3) := by decide +kernel
theorem dX9_call_39 : decode cX9_call 39 = .ok (.iastore, 1) := by decide +kernel
theorem dX9_call_40 : decode cX9_call 40 = .ok (.iload_n 3, 1) := by decide +kernel
theorem dX9_call_41 : decode cX9_call 41 = .ok (.ifCond .le 226, 3) := by decide +kernel
theorem dX9_call_44 : decode cX9_call 44 = .ok (.iload_n 3, 1) := by decide +kernel
theorem dX9_call_45 : decode cX9_call 45 = .ok (.iconst 1, 1) := by decide +kernel
theorem dX9_call_46 : decode cX9_call 46 = .ok (.isub, 1) := by decide +kernel
theorem dX9_call_47 : decode cX9_call 47 = .ok (.istore 4, 2) := by decide +kernel
theorem dX9_call_49 : decode cX9_call 49 = .ok (.aload_n 0, 1) := by decide +kernel
theorem dX9_call_50 : decode cX9_call 50 = .ok (.getfield 38, 3) := by decide +kernel
theorem dX9_call_53 : decode cX9_call 53 = .ok (.iload 4, 2) := by decide +kernel
theorem dX9_call_55 : decode cX9_call 55 = .ok (.iaload, 1) := by decide +kernel
theorem dX9_call_56 : decode cX9_call 56 = .ok (.aload_n 0, 1) := by decide +kernel
theorem dX9_call_57 : decode cX9_call 57 = .ok (.getfield 16, 3) := by decide +kernel
theorem dX9_call_60 : decode cX9_call 60 = .ok (.aload_n 0, 1) := by decide +kernel
theorem dX9_call_61 : decode cX9_call 61 = .ok (.getfield 35, 3) := by decide +kernel
theorem dX9_call_64 : decode cX9_call 64 = .ok (.iload 4, 2) := by decide +kernel
theorem dX9_call_66 : decode cX9_call 66 = .ok (.iaload, 1) := by decide +kernel
theorem dX9_call_67 : decode cX9_call 67 = .ok (.iaload, 1) := by decide +kernel
theorem dX9_call_68 : decode cX9_call 68 = .ok (.if_icmp .ne 31, 3) := by decide +kernel
theorem dX9_call_71 : decode cX9_call 71 = .ok (.iinc 3 (-1), 3) := by decide +kernel
theorem dX9_call_74 : decode cX9_call 74 = .ok (.iload_n 3, 1) := by decide +kernel
theorem dX9_call_75 : decode cX9_call 75 = .ok (.iconst 1, 1) := by decide +kernel
theorem dX9_call_76 : decode cX9_call 76 = .ok (.if_icmp .ne (-36), 3) := by decide +kernel
theorem dX9_call_79 : decode cX9_call 79 = .ok (.aload_n 0, 1) := by decide +kernel
theorem dX9_call_80 : decode cX9_call 80 = .ok (.getfield 32, 3) := by decide +kernel
theorem dX9_call_83 : decode cX9_call 83 = .ok (.aload_n 0, 1) := by decide +kernel
theorem dX9_call_84 : decode cX9_call 84 = .ok (.getfield 38, 3) := by decide +kernel
theorem dX9_call_87 : decode cX9_call 87 = .ok (.iconst 0, 1) := by decide +kernel
theorem dX9_call_88 : decode cX9_call 88 = .ok (.iaload, 1) := by decide +kernel
theorem dX9_call_89 : decode cX9_call 89 = .ok (.iconst 1, 1) := by decide +kernel
theorem dX9_call_90 : decode cX9_call 90 = .ok (.isub, 1) := by decide +kernel
theorem dX9_call_91 : decode cX9_call 91 = .ok (.aload_n 0, 1) := by decide +kernel
theorem dX9_call_92 : decode cX9_call 92 = .ok (.getfield 47, 3) := by decide +kernel
theorem dX9_call_95 : decode cX9_call 95 = .ok (.iastore, 1) := by decide +kernel
theorem dX9_call_96 : decode cX9_call 96 = .ok (.goto (-56), 3) := by decide +kernel
theorem dX9_call_99 : decode cX9_call 99 = .ok (.bipush 12, 2) := by decide +kernel
theorem dX9_call_101 : decode cX9_call 101 = .ok (.aload_n 0, 1) := by decide +kernel
theorem dX9_call_102 : decode cX9_call 102 = .ok (.getfield 35, 3) := by decide +kernel
theorem dX9_call_105 : decode cX9_call 105 = .ok (.iload 4, 2) := by decide +kernel
theorem dX9_call_107 : decode cX9_call 107 = .ok (.iaload, 1) := by decide +kernel
theorem dX9_call_108 : decode cX9_call 108 = .ok (.imul, 1) := by decide +kernel
theorem dX9_call_109 : decode cX9_call 109 = .ok (.aload_n 0, 1) := by decide +kernel
theorem dX9_call_110 : decode cX9_call 110 = .ok (.getfield 38, 3) := by decide +kernel
theorem dX9_call_113 : decode cX9_call 113 = .ok (.iload 4, 2) := by decide +kernel
theorem dX9_call_115 : decode cX9_call 115 = .ok (.iaload, 1) := by decide +kernel
theorem dX9_call_116 : decode cX9_call 116 = .ok (.iadd, 1) := by decide +kernel
theorem dX9_call_117 : decode cX9_call 117 = .ok (.istore 5, 2) := by decide +kernel
theorem dX9_call_119 : decode cX9_call 119 = .ok (.aload_n 0, 1) := by decide +kernel
theorem dX9_call_120 : decode cX9_call 120 = .ok (.getfield 38, 3) := by decide +kernel
theorem dX9_call_123 : decode cX9_call 123 = .ok (.iload 4, 2) := by decide +kernel
theorem dX9_call_125 : decode cX9_call 125 = .ok (.dup2, 1) := by decide +kernel
theorem dX9_call_126 : decode cX9_call 126 = .ok (.iaload, 1) := by decide +kernel
theorem dX9_call_127 : decode cX9_call 127 = .ok (.iconst 1, 1) := by decide +kernel
theorem dX9_call_128 : decode cX9_call 128 = .ok (.iadd, 1) := by decide +kernel
theorem dX9_call_129 : decode cX9_call 129 = .ok (.iastore, 1) := by decide +kernel
theorem dX9_call_130 : decode cX9_call 130 = .ok (.iinc 2 1, 3) := by decide +kernel
theorem dX9_call_133 : decode cX9_call 133 = .ok (.iload_n 2, 1) := by decide +kernel
theorem dX9_call_134 : decode cX9_call 134 = .ok (.sipush 1000, 3) := by decide +kernel
theorem dX9_call_137 : decode cX9_call 137 = .ok (.if_icmp .le 6, 3) := by decide +kernel
theorem dX9_call_140 : decode cX9_call 140 = .ok (.bipush (-6), 2) := by decide +kernel
theorem dX9_call_142 : decode cX9_call 142 = .ok (.ireturn, 1) := by decide +kernel
theorem dX9_call_143 : decode cX9_call 143 = .ok (.aload_n 0, 1) := by decide +kernel
theorem dX9_call_144 : decode cX9_call 144 = .ok (.getfield 20, 3) := by decide +kernel
theorem dX9_call_147 : decode cX9_call 147 = .ok (.iload 5, 2) := by decide +kernel
theorem dX9_call_149 : decode cX9_call 149 = .ok (.iaload, 1) := by decide +kernel
theorem dX9_call_150 : decode cX9_call 150 = .ok (.iconst 4, 1) := by decide +kernel
theorem dX9_call_151 : decode cX9_call 151 = .ok (.if_icmp .ne 65, 3) := by decide +kernel
theorem dX9_call_154 : decode cX9_call 154 = .ok (.aload_n 0, 1) := by decide +kernel
theorem dX9_call_155 : decode cX9_call 155 = .ok (.getfield 35, 3) := by decide +kernel
theorem dX9_call_158 : decode cX9_call 158 = .ok (.iload_n 3, 1) := by decide +kernel
theorem dX9_call_159 : decode cX9_call 159 = .ok (.aload_n 0, 1) := by decide +kernel
theorem dX9_call_160 : decode cX9_call 160 = .ok (.getfield 23, 3) := by decide +kernel
theorem dX9_call_163 : decode cX9_call 163 = .ok (.iload 5, 2) := by decide +kernel
theorem dX9_call_165 : decode cX9_call 165 = .ok (.iaload, 1) := by decide +kernel
theorem dX9_call_166 : decode cX9_call 166 = .ok (.iastore, 1) := by decide +kernel
theorem dX9_call_167 : decode cX9_call 167 = .ok (.aload_n 0, 1) := by decide +kernel
theorem dX9_call_168 : decode cX9_call 168 = .ok (.getfield 38, 3) := by decide +kernel
theorem dX9_call_171 : decode cX9_call 171 = .ok (.iload_n 3, 1) := by decide +kernel
theorem dX9_call_172 : decode cX9_call 172 = .ok (.iconst 0, 1) := by decide +kernel
theorem dX9_call_173 : decode cX9_call 173 = .ok (.iastore, 1) := by decide +kernel
theorem dX9_call_174 : decode cX9_call 174 = .ok (.aload_n 0, 1) := by decide +kernel
theorem dX9_call_175 : decode cX9_call 175 = .ok (.getfield 41, 3) := by decide +kernel
theorem dX9_call_178 : decode cX9_call 178 = .ok (.iload_n 3, 1) := by decide +kernel
theorem dX9_call_179 : decode cX9_call 179 = .ok (.aload_n 0, 1) := by decide +kernel
theorem dX9_call_180 : decode cX9_call 180 = .ok (.getfield 47, 3) := by decide +kernel
theorem dX9_call_183 : decode cX9_call 183 = .ok (.iastore, 1) := by decide +kernel
theorem dX9_call_184 : decode cX9_call 184 = .ok (.aload_n 0, 1) := by decide +kernel
theorem dX9_call_185 : decode cX9_call 185 = .ok (.getfield 44, 3) := by decide +kernel
theorem dX9_call_188 : decode cX9_call 188 = .ok (.iload_n 3, 1) := by decide +kernel
theorem dX9_call_189 : decode cX9_call 189 = .ok (.aload_n 0, 1) := by decide +kernel
theorem dX9_call_190 : decode cX9_call 190 = .ok (.getfield 44, 3) := by decide +kernel
theorem dX9_call_193 : decode cX9_call 193 = .ok (.iload 4, 2) := by decide +kernel
theorem dX9_call_195 : decode cX9_call 195 = .ok (.iaload, 1) := by decide +kernel
theorem dX9_call_196 : decode cX9_call 196 = .ok (.aload_n 0, 1) := by decide +kernel
theorem dX9_call_197 : decode cX9_call 197 = .ok (.getfield 47, 3) := by decide +kernel
theorem dX9_call_200 : decode cX9_call 200 = .ok (.aload_n 0, 1) := by decide +kernel
theorem dX9_call_201 : decode cX9_call 201 = .ok (.getfield 41, 3) := by decide +kernel
theorem dX9_call_204 : decode cX9_call 204 = .ok (.iload 4, 2) := by decide +kernel
theorem dX9_call_206 : decode cX9_call 206 = .ok (.iaload, 1) := by decide +kernel
theorem dX9_call_207 : decode cX9_call 207 = .ok (.isub, 1) := by decide +kernel
theorem dX9_call_208 : decode cX9_call 208 = .ok (.isub, 1) := by decide +kernel
theorem dX9_call_209 : decode cX9_call 209 = .ok (.iastore, 1) := by decide +kernel
theorem dX9_call_210 : decode cX9_call 210 = .ok (.iinc 3 1, 3) := by decide +kernel
theorem dX9_call_213 : decode cX9_call 213 = .ok (.goto (-173), 3) := by decide +kernel
theorem dX9_call_216 : decode cX9_call 216 = .ok (.aload_n 0, 1) := by decide +kernel
theorem dX9_call_217 : decode cX9_call 217 = .ok (.iload 5, 2) := by decide +kernel
theorem dX9_call_219 : decode cX9_call 219 = .ok (.aload_n 0, 1) := by decide +kernel
theorem dX9_call_220 : decode cX9_call 220 = .ok (.getfield 41, 3) := by decide +kernel
theorem dX9_call_223 : decode cX9_call 223 = .ok (.iload 4, 2) := by decide +kernel
theorem dX9_call_225 : decode cX9_call 225 = .ok (.iaload, 1) := by decide +kernel
theorem dX9_call_226 : decode cX9_call 226 = .ok (.aload_n 0, 1) := by decide +kernel
theorem dX9_call_227 : decode cX9_call 227 = .ok (.getfield 44, 3) := by decide +kernel
theorem dX9_call_230 : decode cX9_call 230 = .ok (.iload 4, 2) := by decide +kernel
theorem dX9_call_232 : decode cX9_call 232 = .ok (.iaload, 1) := by decide +kernel
theorem dX9_call_233 : decode cX9_call 233 = .ok (.invokevirtual 162, 3) := by decide +kernel
theorem dX9_call_236 : decode cX9_call 236 = .ok (.ifCond .ne 6, 3) := by decide +kernel
theorem dX9_call_239 : decode cX9_call 239 = .ok (.bipush (-6), 2) := by decide +kernel
theorem dX9_call_241 : decode cX9_call 241 = .ok (.ireturn, 1) := by decide +kernel
theorem dX9_call_242 : decode cX9_call 242 = .ok (.iload 4, 2) := by decide +kernel
theorem dX9_call_244 : decode cX9_call 244 = .ok (.ifCond .ne 20, 3) := by decide +kernel
theorem dX9_call_247 : decode cX9_call 247 = .ok (.aload_n 0, 1) := by decide +kernel
theorem dX9_call_248 : decode cX9_call 248 = .ok (.getfield 32, 3) := by decide +kernel
theorem dX9_call_251 : decode cX9_call 251 = .ok (.aload_n 0, 1) := by decide +kernel
theorem dX9_call_252 : decode cX9_call 252 = .ok (.getfield 38, 3) := by decide +kernel
theorem dX9_call_255 : decode cX9_call 255 = .ok (.iconst 0, 1) := by decide +kernel
theorem dX9_call_256 : decode cX9_call 256 = .ok (.iaload, 1) := by decide +kernel
theorem dX9_call_257 : decode cX9_call 257 = .ok (.iconst 1, 1) := by decide +kernel
theorem dX9_call_258 : decode cX9_call 258 = .ok (.isub, 1) := by decide +kernel
theorem dX9_call_259 : decode cX9_call 259 = .ok (.aload_n 0, 1) := by decide +kernel
theorem dX9_call_260 : decode cX9_call 260 = .ok (.getfield 47, 3) := by decide +kernel
theorem dX9_call_263 : decode cX9_call 263 = .ok (.iastore, 1) := by decide +kernel
theorem dX9_call_264 : decode cX9_call 264 = .ok (.goto (-224), 3) := by decide +kernel
theorem dX9_call_267 : decode cX9_call 267 = .ok (.aload_n 0, 1) := by decide +kernel
theorem dX9_call_268 : decode cX9_call 268 = .ok (.getfield 47, 3) := by decide +kernel
theorem dX9_call_271 : decode cX9_call 271 = .ok (.ireturn, 1) := by decide +kernel
theorem dX9_length_0 : decode cX9_length 0 = .ok (.aload_n 0, 1) := by decide +kernel
theorem dX9_length_1 : decode cX9_length 1 = .ok (.iload_n 1, 1) := by decide +kernel
theorem dX9_length_2 : decode cX9_length 2 = .ok (.invokevirtual 165, 3) := by decide +kernel
theorem dX9_length_5 : decode cX9_length 5 = .ok (.ifCond .eq 11, 3) := by decide +kernel
theorem dX9_length_8 : decode cX9_length 8 = .ok (.aload_n 0, 1) := by decide +kernel
theorem dX9_length_9 : decode cX9_length 9 = .ok (.iload_n 1, 1) := by decide +kernel
theorem dX9_length_10 : decode cX9_length 10 = .ok (.invokevirtual 168, 3) := by decide +kernel
theorem dX9_length_13 : decode cX9_length 13 = .ok (.goto 4, 3) := by decide +kernel
theorem dX9_length_16 : decode cX9_length 16 = .ok (.iconst (-1), 1) := by decide +kernel
theorem dX9_length_17 : decode cX9_length 17 = .ok (.ireturn, 1) := by decide +kernel
theorem dX9_colour_0 : decode cX9_colour 0 = .ok (.aload_n 0, 1) := by decide +kernel
theorem dX9_colour_1 : decode cX9_colour 1 = .ok (.iload_n 1, 1) := by decide +kernel
theorem dX9_colour_2 : decode cX9_colour 2 = .ok (.invokevirtual 165, 3) := by decide +kernel
theorem dX9_colour_5 : decode cX9_colour 5 = .ok (.ifCond .ne 5, 3) := by decide +kernel
theorem dX9_colour_8 : decode cX9_colour 8 = .ok (.iconst (-1), 1) := by decide +kernel
theorem dX9_colour_9 : decode cX9_colour 9 = .ok (.ireturn, 1) := by decide +kernel
theorem dX9_colour_10 : decode cX9_colour 10 = .ok (.aload_n 0, 1) := by decide +kernel
theorem dX9_colour_11 : decode cX9_colour 11 = .ok (.iload_n 1, 1) := by decide +kernel
theorem dX9_colour_12 : decode cX9_colour 12 = .ok (.invokevirtual 168, 3) := by decide +kernel
theorem dX9_colour_15 : decode cX9_colour 15 = .ok (.istore_n 3, 1) := by decide +kernel
theorem dX9_colour_16 : decode cX9_colour 16 = .ok (.iload_n 3, 1) := by decide +kernel
theorem dX9_colour_17 : decode cX9_colour 17 = .ok (.ifCond .ge 8, 3) := by decide +kernel
theorem dX9_colour_20 : decode cX9_colour 20 = .ok (.bipush (-6), 2) := by decide +kernel
theorem dX9_colour_22 : decode cX9_colour 22 = .ok (.goto 26, 3) := by decide +kernel
theorem dX9_colour_25 : decode cX9_colour 25 = .ok (.aload_n 0, 1) := by decide +kernel
theorem dX9_colour_26 : decode cX9_colour 26 = .ok (.iload_n 2, 1) := by decide +kernel
theorem dX9_colour_27 : decode cX9_colour 27 = .ok (.iconst 0, 1) := by decide +kernel
theorem dX9_colour_28 : decode cX9_colour 28 = .ok (.iload_n 3, 1) := by decide +kernel
theorem dX9_colour_29 : decode cX9_colour 29 = .ok (.iconst 1, 1) := by decide +kernel
theorem dX9_colour_30 : decode cX9_colour 30 = .ok (.isub, 1) := by decide +kernel
theorem dX9_colour_31 : decode cX9_colour 31 = .ok (.invokevirtual 137, 3) := by decide +kernel
theorem dX9_colour_34 : decode cX9_colour 34 = .ok (.ifCond .eq 12, 3) := by decide +kernel
theorem dX9_colour_37 : decode cX9_colour 37 = .ok (.aload_n 0, 1) := by decide +kernel
theorem dX9_colour_38 : decode cX9_colour 38 = .ok (.getfield 29, 3) := by decide +kernel
theorem dX9_colour_41 : decode cX9_colour 41 = .ok (.iload_n 2, 1) := by decide +kernel
theorem dX9_colour_42 : decode cX9_colour 42 = .ok (.iaload, 1) := by decide +kernel
theorem dX9_colour_43 : decode cX9_colour 43 = .ok (.goto 5, 3) := by decide +kernel
theorem dX9_colour_46 : decode cX9_colour 46 = .ok (.bipush (-4), 2) := by decide +kernel
theorem dX9_colour_48 : decode cX9_colour 48 = .ok (.ireturn, 1) := by decide +kernel
theorem dX9_closes_0 : decode cX9_closes 0 = .ok (.aload_n 0, 1) := by decide +kernel
theorem dX9_closes_1 : decode cX9_closes 1 = .ok (.iload_n 1, 1) := by decide +kernel
theorem dX9_closes_2 : decode cX9_closes 2 = .ok (.invokevirtual 165, 3) := by decide +kernel
theorem dX9_closes_5 : decode cX9_closes 5 = .ok (.ifCond .ne 5, 3) := by decide +kernel
theorem dX9_closes_8 : decode cX9_closes 8 = .ok (.iconst (-1), 1) := by decide +kernel
theorem dX9_closes_9 : decode cX9_closes 9 = .ok (.ireturn, 1) := by decide +kernel
theorem dX9_closes_10 : decode cX9_closes 10 = .ok (.aload_n 0, 1) := by decide +kernel
theorem dX9_closes_11 : decode cX9_closes 11 = .ok (.iload_n 1, 1) := by decide +kernel
theorem dX9_closes_12 : decode cX9_closes 12 = .ok (.invokevirtual 168, 3) := by decide +kernel
theorem dX9_closes_15 : decode cX9_closes 15 = .ok (.istore_n 2, 1) := by decide +kernel
theorem dX9_closes_16 : decode cX9_closes 16 = .ok (.iload_n 2, 1) := by decide +kernel
theorem dX9_closes_17 : decode cX9_closes 17 = .ok (.ifCond .ge 8, 3) := by decide +kernel
theorem dX9_closes_20 : decode cX9_closes 20 = .ok (.bipush (-6), 2) := by decide +kernel
theorem dX9_closes_22 : decode cX9_closes 22 = .ok (.goto 16, 3) := by decide +kernel
theorem dX9_closes_25 : decode cX9_closes 25 = .ok (.iload_n 2, 1) := by decide +kernel
theorem dX9_closes_26 : decode cX9_closes 26 = .ok (.aload_n 0, 1) := by decide +kernel
theorem dX9_closes_27 : decode cX9_closes 27 = .ok (.getfield 134, 3) := by decide +kernel
theorem dX9_closes_30 : decode cX9_closes 30 = .ok (.if_icmp .ne 7, 3) := by decide +kernel
theorem dX9_closes_33 : decode cX9_closes 33 = .ok (.iconst 1, 1) := by decide +kernel
theorem dX9_closes_34 : decode cX9_closes 34 = .ok (.goto 4, 3) := by decide +kernel
theorem dX9_closes_37 : decode cX9_closes 37 = .ok (.iconst 0, 1) := by decide +kernel
theorem dX9_closes_38 : decode cX9_closes 38 = .ok (.ireturn, 1) := by decide +kernel
theorem dX9_findMend_0 : decode cX9_findMend 0 = .ok (.aload_n 0, 1) := by decide +kernel
theorem dX9_findMend_1 : decode cX9_findMend 1 = .ok (.iload_n 1, 1) := by decide +kernel
theorem dX9_findMend_2 : decode cX9_findMend 2 = .ok (.invokevirtual 165, 3) := by decide +kernel
theorem dX9_findMend_5 : decode cX9_findMend 5 = .ok (.ifCond .ne 5, 3) := by decide +kernel
theorem dX9_findMend_8 : decode cX9_findMend 8 = .ok (.iconst (-1), 1) := by decide +kernel
theorem dX9_findMend_9 : decode cX9_findMend 9 = .ok (.ireturn, 1) := by decide +kernel
theorem dX9_findMend_10 : decode cX9_findMend 10 = .ok (.aload_n 0, 1) := by decide +kernel
theorem dX9_findMend_11 : decode cX9_findMend 11 = .ok (.iload_n 1, 1) := by decide +kernel
theorem dX9_findMend_12 : decode cX9_findMend 12 = .ok (.invokevirtual 168, 3) := by decide +kernel
theorem dX9_findMend_15 : decode cX9_findMend 15 = .ok (.istore_n 2, 1) := by decide +kernel
theorem dX9_findMend_16 : decode cX9_findMend 16 = .ok (.iload_n 2, 1) := by decide +kernel
theorem dX9_findMend_17 : decode cX9_findMend 17 = .ok (.ifCond .ge 6, 3) := by decide +kernel
theorem dX9_findMend_20 : decode cX9_findMend 20 = .ok (.bipush (-6), 2) := by decide +kernel
theorem dX9_findMend_22 : decode cX9_findMend 22 = .ok (.ireturn, 1) := by decide +kernel
theorem dX9_findMend_23 : decode cX9_findMend 23 = .ok (.iload_n 2, 1) := by decide +kernel
theorem dX9_findMend_24 : decode cX9_findMend 24 = .ok (.aload_n 0, 1) := by decide +kernel
theorem dX9_findMend_25 : decode cX9_findMend 25 = .ok (.getfield 134, 3) := by decide +kernel
theorem dX9_findMend_28 : decode cX9_findMend 28 = .ok (.if_icmp .ne 6, 3) := by decide +kernel
theorem dX9_findMend_31 : decode cX9_findMend 31 = .ok (.bipush (-4), 2) := by decide +kernel
theorem dX9_findMend_33 : decode cX9_findMend 33 = .ok (.ireturn, 1) := by decide +kernel
theorem dX9_findMend_34 : decode cX9_findMend 34 = .ok (.bipush 41, 2) := by decide +kernel
theorem dX9_findMend_36 : decode cX9_findMend 36 = .ok (.istore_n 3, 1) := by decide +kernel
theorem dX9_findMend_37 : decode cX9_findMend 37 = .ok (.iconst 0, 1) := by decide +kernel
theorem dX9_findMend_38 : decode cX9_findMend 38 = .ok (.istore 4, 2) := by decide +kernel
theorem dX9_findMend_40 : decode cX9_findMend 40 = .ok (.iload 4, 2) := by decide +kernel
theorem dX9_findMend_42 : decode cX9_findMend 42 = .ok (.aload_n 0, 1) := by decide +kernel
theorem dX9_findMend_43 : decode cX9_findMend 43 = .ok (.getfield 16, 3) := by decide +kernel
theorem dX9_findMend_46 : decode cX9_findMend 46 = .ok (.iload_n 1, 1) := by decide +kernel
theorem dX9_findMend_47 : decode cX9_findMend 47 = .ok (.iaload, 1) := by decide +kernel
theorem dX9_findMend_48 : decode cX9_findMend 48 = .ok (.if_icmp .ge 132, 3) := by decide +kernel
theorem dX9_findMend_51 : decode cX9_findMend 51 = .ok (.bipush 12, 2) := by decide +kernel
theorem dX9_findMend_53 : decode cX9_findMend 53 = .ok (.iload_n 1, 1) := by decide +kernel
theorem dX9_findMend_54 : decode cX9_findMend 54 = .ok (.imul, 1) := by decide +kernel
theorem dX9_findMend_55 : decode cX9_findMend 55 = .ok (.iload 4, 2) := by decide +kernel
theorem dX9_findMend_57 : decode cX9_findMend 57 = .ok (.iadd, 1) := by decide +kernel
theorem dX9_findMend_58 : decode cX9_findMend 58 = .ok (.istore 5, 2) := by decide +kernel
theorem dX9_findMend_60 : decode cX9_findMend 60 = .ok (.aload_n 0, 1) := by decide +kernel
theorem dX9_findMend_61 : decode cX9_findMend 61 = .ok (.getfield 20, 3) := by decide +kernel
theorem dX9_findMend_64 : decode cX9_findMend 64 = .ok (.iload 5, 2) := by decide +kernel
theorem dX9_findMend_66 : decode cX9_findMend 66 = .ok (.iaload, 1) := by decide +kernel
theorem dX9_findMend_67 : decode cX9_findMend 67 = .ok (.ifCond .eq 6, 3) := by decide +kernel
theorem dX9_findMend_70 : decode cX9_findMend 70 = .ok (.goto 104, 3) := by decide +kernel
theorem dX9_findMend_73 : decode cX9_findMend 73 = .ok (.aload_n 0, 1) := by decide +kernel
theorem dX9_findMend_74 : decode cX9_findMend 74 = .ok (.getfield 23, 3) := by decide +kernel
theorem dX9_findMend_77 : decode cX9_findMend 77 = .ok (.iload 5, 2) := by decide +kernel
theorem dX9_findMend_79 : decode cX9_findMend 79 = .ok (.iaload, 1) := by decide +kernel
theorem dX9_findMend_80 : decode cX9_findMend 80 = .ok (.istore 6, 2) := by decide +kernel
theorem dX9_findMend_82 : decode cX9_findMend 82 = .ok (.iconst 1, 1) := by decide +kernel
theorem dX9_findMend_83 : decode cX9_findMend 83 = .ok (.istore 7, 2) := by decide +kernel
theorem dX9_findMend_85 : decode cX9_findMend 85 = .ok (.iload 7, 2) := by decide +kernel
theorem dX9_findMend_87 : decode cX9_findMend 87 = .ok (.bipush 41, 2) := by decide +kernel
theorem dX9_findMend_89 : decode cX9_findMend 89 = .ok (.if_icmp .ge 76, 3) := by decide +kernel
theorem dX9_findMend_92 : decode cX9_findMend 92 = .ok (.iload 7, 2) := by decide +kernel
theorem dX9_findMend_94 : decode cX9_findMend 94 = .ok (.iload 6, 2) := by decide +kernel
theorem dX9_findMend_96 : decode cX9_findMend 96 = .ok (.if_icmp .ge 11, 3) := by decide +kernel
theorem dX9_findMend_99 : decode cX9_findMend 99 = .ok (.iload 6, 2) := by decide +kernel
theorem dX9_findMend_101 : decode cX9_findMend 101 = .ok (.iload 7, 2) := by decide +kernel
theorem dX9_findMend_103 : decode cX9_findMend 103 = .ok (.isub, 1) := by decide +kernel
theorem dX9_findMend_104 : decode cX9_findMend 104 = .ok (.goto 8, 3) := by decide +kernel
theorem dX9_findMend_107 : decode cX9_findMend 107 = .ok (.iload 7, 2) := by decide +kernel
theorem dX9_findMend_109 : decode cX9_findMend 109 = .ok (.iload 6, 2) := by decide +kernel
theorem dX9_findMend_111 : decode cX9_findMend 111 = .ok (.isub, 1) := by decide +kernel
theorem dX9_findMend_112 : decode cX9_findMend 112 = .ok (.istore 8, 2) := by decide +kernel
theorem dX9_findMend_114 : decode cX9_findMend 114 = .ok (.iload 8, 2) := by decide +kernel
theorem dX9_findMend_116 : decode cX9_findMend 116 = .ok (.iload_n 3, 1) := by decide +kernel
theorem dX9_findMend_117 : decode cX9_findMend 117 = .ok (.if_icmp .lt 6, 3) := by decide +kernel
theorem dX9_findMend_120 : decode cX9_findMend 120 = .ok (.goto 39, 3) := by decide +kernel
theorem dX9_findMend_123 : decode cX9_findMend 123 = .ok (.aload_n 0, 1) := by decide +kernel
theorem dX9_findMend_124 : decode cX9_findMend 124 = .ok (.getfield 23, 3) := by decide +kernel
theorem dX9_findMend_127 : decode cX9_findMend 127 = .ok (.iload 5, 2) := by decide +kernel
theorem dX9_findMend_129 : decode cX9_findMend 129 = .ok (.iload 7, 2) := by decide +kernel
theorem dX9_findMend_131 : decode cX9_findMend 131 = .ok (.iastore, 1) := by decide +kernel
theorem dX9_findMend_132 : decode cX9_findMend 132 = .ok (.aload_n 0, 1) := by decide +kernel
theorem dX9_findMend_133 : decode cX9_findMend 133 = .ok (.iload_n 1, 1) := by decide +kernel
theorem dX9_findMend_134 : decode cX9_findMend 134 = .ok (.invokevirtual 168, 3) := by decide +kernel
theorem dX9_findMend_137 : decode cX9_findMend 137 = .ok (.aload_n 0, 1) := by decide +kernel
theorem dX9_findMend_138 : decode cX9_findMend 138 = .ok (.getfield 134, 3) := by decide +kernel
theorem dX9_findMend_141 : decode cX9_findMend 141 = .ok (.if_icmp .ne 18, 3) := by decide +kernel
theorem dX9_findMend_144 : decode cX9_findMend 144 = .ok (.iload 8, 2) := by decide +kernel
theorem dX9_findMend_146 : decode cX9_findMend 146 = .ok (.istore_n 3, 1) := by decide +kernel
theorem dX9_findMend_147 : decode cX9_findMend 147 = .ok (.aload_n 0, 1) := by decide +kernel
theorem dX9_findMend_148 : decode cX9_findMend 148 = .ok (.iload 4, 2) := by decide +kernel
theorem dX9_findMend_150 : decode cX9_findMend 150 = .ok (.putfield 50, 3) := by decide +kernel
theorem dX9_findMend_153 : decode cX9_findMend 153 = .ok (.aload_n 0, 1) := by decide +kernel
theorem dX9_findMend_154 : decode cX9_findMend 154 = .ok (.iload 7, 2) := by decide +kernel
theorem dX9_findMend_156 : decode cX9_findMend 156 = .ok (.putfield 53, 3) := by decide +kernel
theorem dX9_findMend_159 : decode cX9_findMend 159 = .ok (.iinc 7 1, 3) := by decide +kernel
theorem dX9_findMend_162 : decode cX9_findMend 162 = .ok (.goto (-77), 3) := by decide +kernel
theorem dX9_findMend_165 : decode cX9_findMend 165 = .ok (.aload_n 0, 1) := by decide +kernel
theorem dX9_findMend_166 : decode cX9_findMend 166 = .ok (.getfield 23, 3) := by decide +kernel
theorem dX9_findMend_169 : decode cX9_findMend 169 = .ok (.iload 5, 2) := by decide +kernel
theorem dX9_findMend_171 : decode cX9_findMend 171 = .ok (.iload 6, 2) := by decide +kernel
theorem dX9_findMend_173 : decode cX9_findMend 173 = .ok (.iastore, 1) := by decide +kernel
theorem dX9_findMend_174 : decode cX9_findMend 174 = .ok (.iinc 4 1, 3) := by decide +kernel
theorem dX9_findMend_177 : decode cX9_findMend 177 = .ok (.goto (-137), 3) := by decide +kernel
theorem dX9_findMend_180 : decode cX9_findMend 180 = .ok (.iload_n 3, 1) := by decide +kernel
theorem dX9_findMend_181 : decode cX9_findMend 181 = .ok (.bipush 41, 2) := by decide +kernel
theorem dX9_findMend_183 : decode cX9_findMend 183 = .ok (.if_icmp .ge 7, 3) := by decide +kernel
theorem dX9_findMend_186 : decode cX9_findMend 186 = .ok (.iconst 0, 1) := by decide +kernel
theorem dX9_findMend_187 : decode cX9_findMend 187 = .ok (.goto 5, 3) := by decide +kernel
theorem dX9_findMend_190 : decode cX9_findMend 190 = .ok (.bipush (-4), 2) := by decide +kernel
theorem dX9_findMend_192 : decode cX9_findMend 192 = .ok (.ireturn, 1) := by decide +kernel
theorem dX9_mend_0 : decode cX9_mend 0 = .ok (.aload_n 0, 1) := by decide +kernel
theorem dX9_mend_1 : decode cX9_mend 1 = .ok (.iload_n 2, 1) := by decide +kernel
theorem dX9_mend_2 : decode cX9_mend 2 = .ok (.iconst 0, 1) := by decide +kernel
theorem dX9_mend_3 : decode cX9_mend 3 = .ok (.iconst 1, 1) := by decide +kernel
theorem dX9_mend_4 : decode cX9_mend 4 = .ok (.invokevirtual 137, 3) := by decide +kernel
theorem dX9_mend_7 : decode cX9_mend 7 = .ok (.ifCond .ne 5, 3) := by decide +kernel
theorem dX9_mend_10 : decode cX9_mend 10 = .ok (.iconst (-1), 1) := by decide +kernel
theorem dX9_mend_11 : decode cX9_mend 11 = .ok (.ireturn, 1) := by decide +kernel
theorem dX9_mend_12 : decode cX9_mend 12 = .ok (.aload_n 0, 1) := by decide +kernel
theorem dX9_mend_13 : decode cX9_mend 13 = .ok (.iload_n 1, 1) := by decide +kernel
theorem dX9_mend_14 : decode cX9_mend 14 = .ok (.invokevirtual 172, 3) := by decide +kernel
theorem dX9_mend_17 : decode cX9_mend 17 = .ok (.istore_n 3, 1) := by decide +kernel
theorem dX9_mend_18 : decode cX9_mend 18 = .ok (.iload_n 3, 1) := by decide +kernel
theorem dX9_mend_19 : decode cX9_mend 19 = .ok (.ifCond .eq 7, 3) := by decide +kernel
theorem dX9_mend_22 : decode cX9_mend 22 = .ok (.iload_n 3, 1) := by decide +kernel
theorem dX9_mend_23 : decode cX9_mend 23 = .ok (.goto 18, 3) := by decide +kernel
theorem dX9_mend_26 : decode cX9_mend 26 = .ok (.iload_n 2, 1) := by decide +kernel
theorem dX9_mend_27 : decode cX9_mend 27 = .ok (.ifCond .ne 10, 3) := by decide +kernel
theorem dX9_mend_30 : decode cX9_mend 30 = .ok (.aload_n 0, 1) := by decide +kernel
theorem dX9_mend_31 : decode cX9_mend 31 = .ok (.getfield 50, 3) := by decide +kernel
theorem dX9_mend_34 : decode cX9_mend 34 = .ok (.goto 7, 3) := by decide +kernel
theorem dX9_mend_37 : decode cX9_mend 37 = .ok (.aload_n 0, 1) := by decide +kernel
theorem dX9_mend_38 : decode cX9_mend 38 = .ok (.getfield 53, 3) := by decide +kernel
theorem dX9_mend_41 : decode cX9_mend 41 = .ok (.ireturn, 1) := by decide +kernel
theorem dX9_mended_0 : decode cX9_mended 0 = .ok (.aload_n 0, 1) := by decide +kernel
theorem dX9_mended_1 : decode cX9_mended 1 = .ok (.iload_n 1, 1) := by decide +kernel
theorem dX9_mended_2 : decode cX9_mended 2 = .ok (.invokevirtual 172, 3) := by decide +kernel
theorem dX9_mended_5 : decode cX9_mended 5 = .ok (.istore_n 2, 1) := by decide +kernel
theorem dX9_mended_6 : decode cX9_mended 6 = .ok (.iload_n 2, 1) := by decide +kernel
theorem dX9_mended_7 : decode cX9_mended 7 = .ok (.ifCond .eq 5, 3) := by decide +kernel
theorem dX9_mended_10 : decode cX9_mended 10 = .ok (.iload_n 2, 1) := by decide +kernel
theorem dX9_mended_11 : decode cX9_mended 11 = .ok (.ireturn, 1) := by decide +kernel
theorem dX9_mended_12 : decode cX9_mended 12 = .ok (.aload_n 0, 1) := by decide +kernel
theorem dX9_mended_13 : decode cX9_mended 13 = .ok (.getfield 23, 3) := by decide +kernel
theorem dX9_mended_16 : decode cX9_mended 16 = .ok (.bipush 12, 2) := by decide +kernel
theorem dX9_mended_18 : decode cX9_mended 18 = .ok (.iload_n 1, 1) := by decide +kernel
theorem dX9_mended_19 : decode cX9_mended 19 = .ok (.imul, 1) := by decide +kernel
theorem dX9_mended_20 : decode cX9_mended 20 = .ok (.aload_n 0, 1) := by decide +kernel
theorem dX9_mended_21 : decode cX9_mended 21 = .ok (.getfield 50, 3) := by decide +kernel
theorem dX9_mended_24 : decode cX9_mended 24 = .ok (.iadd, 1) := by decide +kernel
theorem dX9_mended_25 : decode cX9_mended 25 = .ok (.aload_n 0, 1) := by decide +kernel
theorem dX9_mended_26 : decode cX9_mended 26 = .ok (.getfield 53, 3) := by decide +kernel
theorem dX9_mended_29 : decode cX9_mended 29 = .ok (.iastore, 1) := by decide +kernel
theorem dX9_mended_30 : decode cX9_mended 30 = .ok (.aload_n 0, 1) := by decide +kernel
theorem dX9_mended_31 : decode cX9_mended 31 = .ok (.iload_n 1, 1) := by decide +kernel
theorem dX9_mended_32 : decode cX9_mended 32 = .ok (.invokevirtual 168, 3) := by decide +kernel
theorem dX9_mended_35 : decode cX9_mended 35 = .ok (.ireturn, 1) := by decide +kernel
theorem dX9_told_0 : decode cX9_told 0 = .ok (.aload_n 0, 1) := by decide +kernel
theorem dX9_told_1 : decode cX9_told 1 = .ok (.iload_n 1, 1) := by decide +kernel
theorem dX9_told_2 : decode cX9_told 2 = .ok (.invokevirtual 165, 3) := by decide +kernel
theorem dX9_told_5 : decode cX9_told 5 = .ok (.ifCond .eq 30, 3) := by decide +kernel
theorem dX9_told_8 : decode cX9_told 8 = .ok (.aload_n 0, 1) := by decide +kernel
theorem dX9_told_9 : decode cX9_told 9 = .ok (.iload_n 2, 1) := by decide +kernel
theorem dX9_told_10 : decode cX9_told 10 = .ok (.iconst 0, 1) := by decide +kernel
theorem dX9_told_11 : decode cX9_told 11 = .ok (.aload_n 0, 1) := by decide +kernel
theorem dX9_told_12 : decode cX9_told 12 = .ok (.getfield 16, 3) := by decide +kernel
theorem dX9_told_15 : decode cX9_told 15 = .ok (.iload_n 1, 1) := by decide +kernel
theorem dX9_told_16 : decode cX9_told 16 = .ok (.iaload, 1) := by decide +kernel
theorem dX9_told_17 : decode cX9_told 17 = .ok (.iconst 1, 1) := by decide +kernel
theorem dX9_told_18 : decode cX9_told 18 = .ok (.isub, 1) := by decide +kernel
theorem dX9_told_19 : decode cX9_told 19 = .ok (.invokevirtual 137, 3) := by decide +kernel
theorem dX9_told_22 : decode cX9_told 22 = .ok (.ifCond .eq 13, 3) := by decide +kernel
theorem dX9_told_25 : decode cX9_told 25 = .ok (.aload_n 0, 1) := by decide +kernel
theorem dX9_told_26 : decode cX9_told 26 = .ok (.iload_n 3, 1) := by decide +kernel
theorem dX9_told_27 : decode cX9_told 27 = .ok (.iconst 0, 1) := by decide +kernel
theorem dX9_told_28 : decode cX9_told 28 = .ok (.iconst 3, 1) := by decide +kernel
theorem dX9_told_29 : decode cX9_told 29 = .ok (.invokevirtual 137, 3) := by decide +kernel
theorem dX9_told_32 : decode cX9_told 32 = .ok (.ifCond .ne 5, 3) := by decide +kernel
theorem dX9_told_35 : decode cX9_told 35 = .ok (.iconst (-1), 1) := by decide +kernel
theorem dX9_told_36 : decode cX9_told 36 = .ok (.ireturn, 1) := by decide +kernel
theorem dX9_told_37 : decode cX9_told 37 = .ok (.bipush 12, 2) := by decide +kernel
theorem dX9_told_39 : decode cX9_told 39 = .ok (.iload_n 1, 1) := by decide +kernel
theorem dX9_told_40 : decode cX9_told 40 = .ok (.imul, 1) := by decide +kernel
theorem dX9_told_41 : decode cX9_told 41 = .ok (.iload_n 2, 1) := by decide +kernel
theorem dX9_told_42 : decode cX9_told 42 = .ok (.iadd, 1) := by decide +kernel
theorem dX9_told_43 : decode cX9_told 43 = .ok (.istore 4, 2) := by decide +kernel
theorem dX9_told_45 : decode cX9_told 45 = .ok (.aload_n 0, 1) := by decide +kernel
theorem dX9_told_46 : decode cX9_told 46 = .ok (.getfield 20, 3) := by decide +kernel
theorem dX9_told_49 : decode cX9_told 49 = .ok (.iload 4, 2) := by decide +kernel
theorem dX9_told_51 : decode cX9_told 51 = .ok (.iaload, 1) := by decide +kernel
theorem dX9_told_52 : decode cX9_told 52 = .ok (.istore 5, 2) := by decide +kernel
theorem dX9_told_54 : decode cX9_told 54 = .ok (.iload_n 3, 1) := by decide +kernel
theorem dX9_told_55 : decode cX9_told 55 = .ok (.iconst 3, 1) := by decide +kernel
theorem dX9_told_56 : decode cX9_told 56 = .ok (.if_icmp .ne 23, 3) := by decide +kernel
theorem dX9_told_59 : decode cX9_told 59 = .ok (.aload_n 0, 1) := by decide +kernel
theorem dX9_told_60 : decode cX9_told 60 = .ok (.iload_n 1, 1) := by decide +kernel
theorem dX9_told_61 : decode cX9_told 61 = .ok (.invokevirtual 168, 3) := by decide +kernel
theorem dX9_told_64 : decode cX9_told 64 = .ok (.ifCond .ge 8, 3) := by decide +kernel
theorem dX9_told_67 : decode cX9_told 67 = .ok (.bipush (-6), 2) := by decide +kernel
theorem dX9_told_69 : decode cX9_told 69 = .ok (.goto 9, 3) := by decide +kernel
theorem dX9_told_72 : decode cX9_told 72 = .ok (.aload_n 0, 1) := by decide +kernel
theorem dX9_told_73 : decode cX9_told 73 = .ok (.getfield 32, 3) := by decide +kernel
theorem dX9_told_76 : decode cX9_told 76 = .ok (.iload_n 2, 1) := by decide +kernel
theorem dX9_told_77 : decode cX9_told 77 = .ok (.iaload, 1) := by decide +kernel
theorem dX9_told_78 : decode cX9_told 78 = .ok (.ireturn, 1) := by decide +kernel
theorem dX9_told_79 : decode cX9_told 79 = .ok (.iload_n 3, 1) := by decide +kernel
theorem dX9_told_80 : decode cX9_told 80 = .ok (.ifCond .ne 8, 3) := by decide +kernel
theorem dX9_told_83 : decode cX9_told 83 = .ok (.iload 5, 2) := by decide +kernel
theorem dX9_told_85 : decode cX9_told 85 = .ok (.goto 53, 3) := by decide +kernel
theorem dX9_told_88 : decode cX9_told 88 = .ok (.iload_n 3, 1) := by decide +kernel
theorem dX9_told_89 : decode cX9_told 89 = .ok (.iconst 1, 1) := by decide +kernel
theorem dX9_told_90 : decode cX9_told 90 = .ok (.if_icmp .ne 27, 3) := by decide +kernel
theorem dX9_told_93 : decode cX9_told 93 = .ok (.aload_n 0, 1) := by decide +kernel
theorem dX9_told_94 : decode cX9_told 94 = .ok (.iload 5, 2) := by decide +kernel
theorem dX9_told_96 : decode cX9_told 96 = .ok (.invokevirtual 148, 3) := by decide +kernel
theorem dX9_told_99 : decode cX9_told 99 = .ok (.ifCond .eq 13, 3) := by decide +kernel
theorem dX9_told_102 : decode cX9_told 102 = .ok (.aload_n 0, 1) := by decide +kernel
theorem dX9_told_103 : decode cX9_told 103 = .ok (.getfield 23, 3) := by decide +kernel
theorem dX9_told_106 : decode cX9_told 106 = .ok (.iload 4, 2) := by decide +kernel
theorem dX9_told_108 : decode cX9_told 108 = .ok (.iaload, 1) := by decide +kernel
theorem dX9_told_109 : decode cX9_told 109 = .ok (.goto 29, 3) := by decide +kernel
theorem dX9_told_112 : decode cX9_told 112 = .ok (.bipush (-2), 2) := by decide +kernel
theorem dX9_told_114 : decode cX9_told 114 = .ok (.goto 24, 3) := by decide +kernel
theorem dX9_told_117 : decode cX9_told 117 = .ok (.aload_n 0, 1) := by decide +kernel
theorem dX9_told_118 : decode cX9_told 118 = .ok (.iload 5, 2) := by decide +kernel
theorem dX9_told_120 : decode cX9_told 120 = .ok (.invokevirtual 141, 3) := by decide +kernel
theorem dX9_told_123 : decode cX9_told 123 = .ok (.ifCond .eq 13, 3) := by decide +kernel
theorem dX9_told_126 : decode cX9_told 126 = .ok (.aload_n 0, 1) := by decide +kernel
theorem dX9_told_127 : decode cX9_told 127 = .ok (.getfield 26, 3) := by decide +kernel
theorem dX9_told_130 : decode cX9_told 130 = .ok (.iload 4, 2) := by decide +kernel
theorem dX9_told_132 : decode cX9_told 132 = .ok (.iaload, 1) := by decide +kernel
theorem dX9_told_133 : decode cX9_told 133 = .ok (.goto 5, 3) := by decide +kernel
theorem dX9_told_136 : decode cX9_told 136 = .ok (.bipush (-2), 2) := by decide +kernel
theorem dX9_told_138 : decode cX9_told 138 = .ok (.ireturn, 1) := by decide +kernel
theorem dX9_hand_0 : decode cX9_hand 0 = .ok (.aload_n 0, 1) := by decide +kernel
theorem dX9_hand_1 : decode cX9_hand 1 = .ok (.iload_n 1, 1) := by decide +kernel
theorem dX9_hand_2 : decode cX9_hand 2 = .ok (.iconst 0, 1) := by decide +kernel
theorem dX9_hand_3 : decode cX9_hand 3 = .ok (.iconst 5, 1) := by decide +kernel
theorem dX9_hand_4 : decode cX9_hand 4 = .ok (.invokevirtual 137, 3) := by decide +kernel
theorem dX9_hand_7 : decode cX9_hand 7 = .ok (.ifCond .eq 25, 3) := by decide +kernel
theorem dX9_hand_10 : decode cX9_hand 10 = .ok (.aload_n 0, 1) := by decide +kernel
theorem dX9_hand_11 : decode cX9_hand 11 = .ok (.iload_n 2, 1) := by decide +kernel
theorem dX9_hand_12 : decode cX9_hand 12 = .ok (.iconst 1, 1) := by decide +kernel
theorem dX9_hand_13 : decode cX9_hand 13 = .ok (.bipush 40, 2) := by decide +kernel
theorem dX9_hand_15 : decode cX9_hand 15 = .ok (.invokevirtual 137, 3) := by decide +kernel
theorem dX9_hand_18 : decode cX9_hand 18 = .ok (.ifCond .eq 14, 3) := by decide +kernel
theorem dX9_hand_21 : decode cX9_hand 21 = .ok (.aload_n 0, 1) := by decide +kernel
theorem dX9_hand_22 : decode cX9_hand 22 = .ok (.iload_n 3, 1) := by decide +kernel
theorem dX9_hand_23 : decode cX9_hand 23 = .ok (.iconst 1, 1) := by decide +kernel
theorem dX9_hand_24 : decode cX9_hand 24 = .ok (.bipush 20, 2) := by decide +kernel
theorem dX9_hand_26 : decode cX9_hand 26 = .ok (.invokevirtual 137, 3) := by decide +kernel
theorem dX9_hand_29 : decode cX9_hand 29 = .ok (.ifCond .ne 5, 3) := by decide +kernel
theorem dX9_hand_32 : decode cX9_hand 32 = .ok (.iconst (-1), 1) := by decide +kernel
theorem dX9_hand_33 : decode cX9_hand 33 = .ok (.ireturn, 1) := by decide +kernel
theorem dX9_hand_34 : decode cX9_hand 34 = .ok (.aload_n 0, 1) := by decide +kernel
theorem dX9_hand_35 : decode cX9_hand 35 = .ok (.getfield 71, 3) := by decide +kernel
theorem dX9_hand_38 : decode cX9_hand 38 = .ok (.ifCond .le 6, 3) := by decide +kernel
theorem dX9_hand_41 : decode cX9_hand 41 = .ok (.bipush (-3), 2) := by decide +kernel
theorem dX9_hand_43 : decode cX9_hand 43 = .ok (.ireturn, 1) := by decide +kernel
theorem dX9_hand_44 : decode cX9_hand 44 = .ok (.aload_n 0, 1) := by decide +kernel
theorem dX9_hand_45 : decode cX9_hand 45 = .ok (.getfield 56, 3) := by decide +kernel
theorem dX9_hand_48 : decode cX9_hand 48 = .ok (.iload_n 1, 1) := by decide +kernel
theorem dX9_hand_49 : decode cX9_hand 49 = .ok (.iaload, 1) := by decide +kernel
theorem dX9_hand_50 : decode cX9_hand 50 = .ok (.iload_n 2, 1) := by decide +kernel
theorem dX9_hand_51 : decode cX9_hand 51 = .ok (.if_icmp .ne 17, 3) := by decide +kernel
theorem dX9_hand_54 : decode cX9_hand 54 = .ok (.aload_n 0, 1) := by decide +kernel
theorem dX9_hand_55 : decode cX9_hand 55 = .ok (.getfield 59, 3) := by decide +kernel
theorem dX9_hand_58 : decode cX9_hand 58 = .ok (.iload_n 1, 1) := by decide +kernel
theorem dX9_hand_59 : decode cX9_hand 59 = .ok (.iaload, 1) := by decide +kernel
theorem dX9_hand_60 : decode cX9_hand 60 = .ok (.iload_n 3, 1) := by decide +kernel
theorem dX9_hand_61 : decode cX9_hand 61 = .ok (.if_icmp .ne 7, 3) := by decide +kernel
theorem dX9_hand_64 : decode cX9_hand 64 = .ok (.iconst 0, 1) := by decide +kernel
theorem dX9_hand_65 : decode cX9_hand 65 = .ok (.goto 4, 3) := by decide +kernel
theorem dX9_hand_68 : decode cX9_hand 68 = .ok (.iconst 1, 1) := by decide +kernel
theorem dX9_hand_69 : decode cX9_hand 69 = .ok (.istore 4, 2) := by decide +kernel
theorem dX9_hand_71 : decode cX9_hand 71 = .ok (.aload_n 0, 1) := by decide +kernel
theorem dX9_hand_72 : decode cX9_hand 72 = .ok (.getfield 56, 3) := by decide +kernel
theorem dX9_hand_75 : decode cX9_hand 75 = .ok (.iload_n 1, 1) := by decide +kernel
theorem dX9_hand_76 : decode cX9_hand 76 = .ok (.iload_n 2, 1) := by decide +kernel
theorem dX9_hand_77 : decode cX9_hand 77 = .ok (.iastore, 1) := by decide +kernel
theorem dX9_hand_78 : decode cX9_hand 78 = .ok (.aload_n 0, 1) := by decide +kernel
theorem dX9_hand_79 : decode cX9_hand 79 = .ok (.getfield 59, 3) := by decide +kernel
theorem dX9_hand_82 : decode cX9_hand 82 = .ok (.iload_n 1, 1) := by decide +kernel
theorem dX9_hand_83 : decode cX9_hand 83 = .ok (.iload_n 3, 1) := by decide +kernel
theorem dX9_hand_84 : decode cX9_hand 84 = .ok (.iastore, 1) := by decide +kernel
theorem dX9_hand_85 : decode cX9_hand 85 = .ok (.iload 4, 2) := by decide +kernel
theorem dX9_hand_87 : decode cX9_hand 87 = .ok (.ireturn, 1) := by decide +kernel
theorem dX9_dye_0 : decode cX9_dye 0 = .ok (.aload_n 0, 1) := by decide +kernel
theorem dX9_dye_1 : decode cX9_dye 1 = .ok (.iload_n 1, 1) := by decide +kernel
theorem dX9_dye_2 : decode cX9_dye 2 = .ok (.invokevirtual 145, 3) := by decide +kernel
theorem dX9_dye_5 : decode cX9_dye 5 = .ok (.ifCond .eq 26, 3) := by decide +kernel
theorem dX9_dye_8 : decode cX9_dye 8 = .ok (.aload_n 0, 1) := by decide +kernel
theorem dX9_dye_9 : decode cX9_dye 9 = .ok (.iload_n 2, 1) := by decide +kernel
theorem dX9_dye_10 : decode cX9_dye 10 = .ok (.iconst 0, 1) := by decide +kernel
theorem dX9_dye_11 : decode cX9_dye 11 = .ok (.bipush 9, 2) := by decide +kernel
theorem dX9_dye_13 : decode cX9_dye 13 = .ok (.invokevirtual 137, 3) := by decide +kernel
theorem dX9_dye_16 : decode cX9_dye 16 = .ok (.ifCond .eq 15, 3) := by decide +kernel
theorem dX9_dye_19 : decode cX9_dye 19 = .ok (.aload_n 0, 1) := by decide +kernel
theorem dX9_dye_20 : decode cX9_dye 20 = .ok (.iload_n 3, 1) := by decide +kernel
theorem dX9_dye_21 : decode cX9_dye 21 = .ok (.iconst 1, 1) := by decide +kernel
theorem dX9_dye_22 : decode cX9_dye 22 = .ok (.sipush 1000, 3) := by decide +kernel
theorem dX9_dye_25 : decode cX9_dye 25 = .ok (.invokevirtual 137, 3) := by decide +kernel
theorem dX9_dye_28 : decode cX9_dye 28 = .ok (.ifCond .ne 5, 3) := by decide +kernel
theorem dX9_dye_31 : decode cX9_dye 31 = .ok (.iconst (-1), 1) := by decide +kernel
theorem dX9_dye_32 : decode cX9_dye 32 = .ok (.ireturn, 1) := by decide +kernel
theorem dX9_dye_33 : decode cX9_dye 33 = .ok (.aload_n 0, 1) := by decide +kernel
theorem dX9_dye_34 : decode cX9_dye 34 = .ok (.getfield 62, 3) := by decide +kernel
theorem dX9_dye_37 : decode cX9_dye 37 = .ok (.iload_n 1, 1) := by decide +kernel
theorem dX9_dye_38 : decode cX9_dye 38 = .ok (.iaload, 1) := by decide +kernel
theorem dX9_dye_39 : decode cX9_dye 39 = .ok (.bipush 10, 2) := by decide +kernel
theorem dX9_dye_41 : decode cX9_dye 41 = .ok (.if_icmp .ne 6, 3) := by decide +kernel
theorem dX9_dye_44 : decode cX9_dye 44 = .ok (.bipush (-2), 2) := by decide +kernel
theorem dX9_dye_46 : decode cX9_dye 46 = .ok (.ireturn, 1) := by decide +kernel
theorem dX9_dye_47 : decode cX9_dye 47 = .ok (.aload_n 0, 1) := by decide +kernel
theorem dX9_dye_48 : decode cX9_dye 48 = .ok (.getfield 65, 3) := by decide +kernel
theorem dX9_dye_51 : decode cX9_dye 51 = .ok (.bipush 10, 2) := by decide +kernel
theorem dX9_dye_53 : decode cX9_dye 53 = .ok (.iload_n 1, 1) := by decide +kernel
theorem dX9_dye_54 : decode cX9_dye 54 = .ok (.imul, 1) := by decide +kernel
theorem dX9_dye_55 : decode cX9_dye 55 = .ok (.aload_n 0, 1) := by decide +kernel
theorem dX9_dye_56 : decode cX9_dye 56 = .ok (.getfield 62, 3) := by decide +kernel
theorem dX9_dye_59 : decode cX9_dye 59 = .ok (.iload_n 1, 1) := by decide +kernel
theorem dX9_dye_60 : decode cX9_dye 60 = .ok (.iaload, 1) := by decide +kernel
theorem dX9_dye_61 : decode cX9_dye 61 = .ok (.iadd, 1) := by decide +kernel
theorem dX9_dye_62 : decode cX9_dye 62 = .ok (.iload_n 2, 1) := by decide +kernel
theorem dX9_dye_63 : decode cX9_dye 63 = .ok (.iastore, 1) := by decide +kernel
theorem dX9_dye_64 : decode cX9_dye 64 = .ok (.aload_n 0, 1) := by decide +kernel
theorem dX9_dye_65 : decode cX9_dye 65 = .ok (.getfield 68, 3) := by decide +kernel
theorem dX9_dye_68 : decode cX9_dye 68 = .ok (.bipush 10, 2) := by decide +kernel
theorem dX9_dye_70 : decode cX9_dye 70 = .ok (.iload_n 1, 1) := by decide +kernel
theorem dX9_dye_71 : decode cX9_dye 71 = .ok (.imul, 1) := by decide +kernel
theorem dX9_dye_72 : decode cX9_dye 72 = .ok (.aload_n 0, 1) := by decide +kernel
theorem dX9_dye_73 : decode cX9_dye 73 = .ok (.getfield 62, 3) := by decide +kernel
theorem dX9_dye_76 : decode cX9_dye 76 = .ok (.iload_n 1, 1) := by decide +kernel
theorem dX9_dye_77 : decode cX9_dye 77 = .ok (.iaload, 1) := by decide +kernel
theorem dX9_dye_78 : decode cX9_dye 78 = .ok (.iadd, 1) := by decide +kernel
theorem dX9_dye_79 : decode cX9_dye 79 = .ok (.iload_n 3, 1) := by decide +kernel
theorem dX9_dye_80 : decode cX9_dye 80 = .ok (.iastore, 1) := by decide +kernel
theorem dX9_dye_81 : decode cX9_dye 81 = .ok (.aload_n 0, 1) := by decide +kernel
theorem dX9_dye_82 : decode cX9_dye 82 = .ok (.getfield 62, 3) := by decide +kernel
theorem dX9_dye_85 : decode cX9_dye 85 = .ok (.iload_n 1, 1) := by decide +kernel
theorem dX9_dye_86 : decode cX9_dye 86 = .ok (.dup2, 1) := by decide +kernel
theorem dX9_dye_87 : decode cX9_dye 87 = .ok (.iaload, 1) := by decide +kernel
theorem dX9_dye_88 : decode cX9_dye 88 = .ok (.iconst 1, 1) := by decide +kernel
theorem dX9_dye_89 : decode cX9_dye 89 = .ok (.iadd, 1) := by decide +kernel
theorem dX9_dye_90 : decode cX9_dye 90 = .ok (.iastore, 1) := by decide +kernel
theorem dX9_dye_91 : decode cX9_dye 91 = .ok (.aload_n 0, 1) := by decide +kernel
theorem dX9_dye_92 : decode cX9_dye 92 = .ok (.getfield 62, 3) := by decide +kernel
theorem dX9_dye_95 : decode cX9_dye 95 = .ok (.iload_n 1, 1) := by decide +kernel
theorem dX9_dye_96 : decode cX9_dye 96 = .ok (.iaload, 1) := by decide +kernel
theorem dX9_dye_97 : decode cX9_dye 97 = .ok (.ireturn, 1) := by decide +kernel
theorem dX9_handAt_0 : decode cX9_handAt 0 = .ok (.iconst 0, 1) := by decide +kernel
theorem dX9_handAt_1 : decode cX9_handAt 1 = .ok (.istore_n 2, 1) := by decide +kernel
theorem dX9_handAt_2 : decode cX9_handAt 2 = .ok (.aload_n 0, 1) := by decide +kernel
theorem dX9_handAt_3 : decode cX9_handAt 3 = .ok (.getfield 56, 3) := by decide +kernel
theorem dX9_handAt_6 : decode cX9_handAt 6 = .ok (.iconst 0, 1) := by decide +kernel
theorem dX9_handAt_7 : decode cX9_handAt 7 = .ok (.iaload, 1) := by decide +kernel
theorem dX9_handAt_8 : decode cX9_handAt 8 = .ok (.istore_n 3, 1) := by decide +kernel
theorem dX9_handAt_9 : decode cX9_handAt 9 = .ok (.iload_n 2, 1) := by decide +kernel
theorem dX9_handAt_10 : decode cX9_handAt 10 = .ok (.iconst 5, 1) := by decide +kernel
theorem dX9_handAt_11 : decode cX9_handAt 11 = .ok (.if_icmp .ge 23, 3) := by decide +kernel
theorem dX9_handAt_14 : decode cX9_handAt 14 = .ok (.iload_n 1, 1) := by decide +kernel
theorem dX9_handAt_15 : decode cX9_handAt 15 = .ok (.iload_n 3, 1) := by decide +kernel
theorem dX9_handAt_16 : decode cX9_handAt 16 = .ok (.if_icmp .lt 18, 3) := by decide +kernel
theorem dX9_handAt_19 : decode cX9_handAt 19 = .ok (.iinc 2 1, 3) := by decide +kernel
theorem dX9_handAt_22 : decode cX9_handAt 22 = .ok (.iload_n 3, 1) := by decide +kernel
theorem dX9_handAt_23 : decode cX9_handAt 23 = .ok (.aload_n 0, 1) := by decide +kernel
theorem dX9_handAt_24 : decode cX9_handAt 24 = .ok (.getfield 56, 3) := by decide +kernel
theorem dX9_handAt_27 : decode cX9_handAt 27 = .ok (.iload_n 2, 1) := by decide +kernel
theorem dX9_handAt_28 : decode cX9_handAt 28 = .ok (.iaload, 1) := by decide +kernel
theorem dX9_handAt_29 : decode cX9_handAt 29 = .ok (.iadd, 1) := by decide +kernel
theorem dX9_handAt_30 : decode cX9_handAt 30 = .ok (.istore_n 3, 1) := by decide +kernel
theorem dX9_handAt_31 : decode cX9_handAt 31 = .ok (.goto (-22), 3) := by decide +kernel
theorem dX9_handAt_34 : decode cX9_handAt 34 = .ok (.iload_n 2, 1) := by decide +kernel
theorem dX9_handAt_35 : decode cX9_handAt 35 = .ok (.ireturn, 1) := by decide +kernel
theorem dX9_leftOf_0 : decode cX9_leftOf 0 = .ok (.iconst 0, 1) := by decide +kernel
theorem dX9_leftOf_1 : decode cX9_leftOf 1 = .ok (.istore_n 2, 1) := by decide +kernel
theorem dX9_leftOf_2 : decode cX9_leftOf 2 = .ok (.iconst 0, 1) := by decide +kernel
theorem dX9_leftOf_3 : decode cX9_leftOf 3 = .ok (.istore_n 3, 1) := by decide +kernel
theorem dX9_leftOf_4 : decode cX9_leftOf 4 = .ok (.iload_n 3, 1) := by decide +kernel
theorem dX9_leftOf_5 : decode cX9_leftOf 5 = .ok (.aload_n 0, 1) := by decide +kernel
theorem dX9_leftOf_6 : decode cX9_leftOf 6 = .ok (.getfield 62, 3) := by decide +kernel
theorem dX9_leftOf_9 : decode cX9_leftOf 9 = .ok (.iload_n 1, 1) := by decide +kernel
theorem dX9_leftOf_10 : decode cX9_leftOf 10 = .ok (.iaload, 1) := by decide +kernel
theorem dX9_leftOf_11 : decode cX9_leftOf 11 = .ok (.if_icmp .ge 23, 3) := by decide +kernel
theorem dX9_leftOf_14 : decode cX9_leftOf 14 = .ok (.iload_n 2, 1) := by decide +kernel
theorem dX9_leftOf_15 : decode cX9_leftOf 15 = .ok (.aload_n 0, 1) := by decide +kernel
theorem dX9_leftOf_16 : decode cX9_leftOf 16 = .ok (.getfield 68, 3) := by decide +kernel
theorem dX9_leftOf_19 : decode cX9_leftOf 19 = .ok (.bipush 10, 2) := by decide +kernel
theorem dX9_leftOf_21 : decode cX9_leftOf 21 = .ok (.iload_n 1, 1) := by decide +kernel
theorem dX9_leftOf_22 : decode cX9_leftOf 22 = .ok (.imul, 1) := by decide +kernel
theorem dX9_leftOf_23 : decode cX9_leftOf 23 = .ok (.iload_n 3, 1) := by decide +kernel
theorem dX9_leftOf_24 : decode cX9_leftOf 24 = .ok (.iadd, 1) := by decide +kernel
theorem dX9_leftOf_25 : decode cX9_leftOf 25 = .ok (.iaload, 1) := by decide +kernel
theorem dX9_leftOf_26 : decode cX9_leftOf 26 = .ok (.iadd, 1) := by decide +kernel
theorem dX9_leftOf_27 : decode cX9_leftOf 27 = .ok (.istore_n 2, 1) := by decide +kernel
theorem dX9_leftOf_28 : decode cX9_leftOf 28 = .ok (.iinc 3 1, 3) := by decide +kernel
theorem dX9_leftOf_31 : decode cX9_leftOf 31 = .ok (.goto (-27), 3) := by decide +kernel
theorem dX9_leftOf_34 : decode cX9_leftOf 34 = .ok (.iload_n 2, 1) := by decide +kernel
theorem dX9_leftOf_35 : decode cX9_leftOf 35 = .ok (.ireturn, 1) := by decide +kernel
theorem dX9_isEnough_0 : decode cX9_isEnough 0 = .ok (.iconst 1, 1) := by decide +kernel
theorem dX9_isEnough_1 : decode cX9_isEnough 1 = .ok (.istore_n 1, 1) := by decide +kernel
theorem dX9_isEnough_2 : decode cX9_isEnough 2 = .ok (.iconst 0, 1) := by decide +kernel
end
section
theorem dX9_isEnough_3 : decode cX9_isEnough 3 = .ok (.istore_n 2, 1) := by decide +kernel
theorem dX9_isEnough_4 : decode cX9_isEnough 4 = .ok (.iload_n 2, 1) := by decide +kernel
theorem dX9_isEnough_5 : decode cX9_isEnough 5 = .ok (.bipush 8, 2) := by decide +kernel
theorem dX9_isEnough_7 : decode cX9_isEnough 7 = .ok (.if_icmp .ge 67, 3) := by decide +kernel
theorem dX9_isEnough_10 : decode cX9_isEnough 10 = .ok (.iconst 0, 1) := by decide +kernel
theorem dX9_isEnough_11 : decode cX9_isEnough 11 = .ok (.istore_n 3, 1) := by decide +kernel
theorem dX9_isEnough_12 : decode cX9_isEnough 12 = .ok (.iconst 0, 1) := by decide +kernel
theorem dX9_isEnough_13 : decode cX9_isEnough 13 = .ok (.istore 4, 2) := by decide +kernel
theorem dX9_isEnough_15 : decode cX9_isEnough 15 = .ok (.iload 4, 2) := by decide +kernel
theorem dX9_isEnough_17 : decode cX9_isEnough 17 = .ok (.aload_n 0, 1) := by decide +kernel
theorem dX9_isEnough_18 : decode cX9_isEnough 18 = .ok (.getfield 134, 3) := by decide +kernel
theorem dX9_isEnough_21 : decode cX9_isEnough 21 = .ok (.if_icmp .ge 28, 3) := by decide +kernel
theorem dX9_isEnough_24 : decode cX9_isEnough 24 = .ok (.iload_n 3, 1) := by decide +kernel
theorem dX9_isEnough_25 : decode cX9_isEnough 25 = .ok (.aload_n 0, 1) := by decide +kernel
theorem dX9_isEnough_26 : decode cX9_isEnough 26 = .ok (.getfield 29, 3) := by decide +kernel
theorem dX9_isEnough_29 : decode cX9_isEnough 29 = .ok (.iload 4, 2) := by decide +kernel
theorem dX9_isEnough_31 : decode cX9_isEnough 31 = .ok (.iaload, 1) := by decide +kernel
theorem dX9_isEnough_32 : decode cX9_isEnough 32 = .ok (.iload_n 2, 1) := by decide +kernel
theorem dX9_isEnough_33 : decode cX9_isEnough 33 = .ok (.if_icmp .ne 7, 3) := by decide +kernel
theorem dX9_isEnough_36 : decode cX9_isEnough 36 = .ok (.iconst 1, 1) := by decide +kernel
theorem dX9_isEnough_37 : decode cX9_isEnough 37 = .ok (.goto 4, 3) := by decide +kernel
theorem dX9_isEnough_40 : decode cX9_isEnough 40 = .ok (.iconst 0, 1) := by decide +kernel
theorem dX9_isEnough_41 : decode cX9_isEnough 41 = .ok (.iadd, 1) := by decide +kernel
theorem dX9_isEnough_42 : decode cX9_isEnough 42 = .ok (.istore_n 3, 1) := by decide +kernel
theorem dX9_isEnough_43 : decode cX9_isEnough 43 = .ok (.iinc 4 1, 3) := by decide +kernel
theorem dX9_isEnough_46 : decode cX9_isEnough 46 = .ok (.goto (-31), 3) := by decide +kernel
theorem dX9_isEnough_49 : decode cX9_isEnough 49 = .ok (.iload_n 1, 1) := by decide +kernel
theorem dX9_isEnough_50 : decode cX9_isEnough 50 = .ok (.ifCond .eq 16, 3) := by decide +kernel
theorem dX9_isEnough_53 : decode cX9_isEnough 53 = .ok (.iload_n 3, 1) := by decide +kernel
theorem dX9_isEnough_54 : decode cX9_isEnough 54 = .ok (.aload_n 0, 1) := by decide +kernel
theorem dX9_isEnough_55 : decode cX9_isEnough 55 = .ok (.iload_n 2, 1) := by decide +kernel
theorem dX9_isEnough_56 : decode cX9_isEnough 56 = .ok (.invokevirtual 175, 3) := by decide +kernel
theorem dX9_isEnough_59 : decode cX9_isEnough 59 = .ok (.if_icmp .gt 7, 3) := by decide +kernel
theorem dX9_isEnough_62 : decode cX9_isEnough 62 = .ok (.iconst 1, 1) := by decide +kernel
theorem dX9_isEnough_63 : decode cX9_isEnough 63 = .ok (.goto 4, 3) := by decide +kernel
theorem dX9_isEnough_66 : decode cX9_isEnough 66 = .ok (.iconst 0, 1) := by decide +kernel
theorem dX9_isEnough_67 : decode cX9_isEnough 67 = .ok (.istore_n 1, 1) := by decide +kernel
theorem dX9_isEnough_68 : decode cX9_isEnough 68 = .ok (.iinc 2 1, 3) := by decide +kernel
theorem dX9_isEnough_71 : decode cX9_isEnough 71 = .ok (.goto (-67), 3) := by decide +kernel
theorem dX9_isEnough_74 : decode cX9_isEnough 74 = .ok (.iload_n 1, 1) := by decide +kernel
theorem dX9_isEnough_75 : decode cX9_isEnough 75 = .ok (.ireturn, 1) := by decide +kernel
theorem dX9_takeWool_0 : decode cX9_takeWool 0 = .ok (.iconst 0, 1) := by decide +kernel
theorem dX9_takeWool_1 : decode cX9_takeWool 1 = .ok (.istore_n 2, 1) := by decide +kernel
theorem dX9_takeWool_2 : decode cX9_takeWool 2 = .ok (.aload_n 0, 1) := by decide +kernel
theorem dX9_takeWool_3 : decode cX9_takeWool 3 = .ok (.getfield 68, 3) := by decide +kernel
theorem dX9_takeWool_6 : decode cX9_takeWool 6 = .ok (.bipush 10, 2) := by decide +kernel
theorem dX9_takeWool_8 : decode cX9_takeWool 8 = .ok (.iload_n 1, 1) := by decide +kernel
theorem dX9_takeWool_9 : decode cX9_takeWool 9 = .ok (.imul, 1) := by decide +kernel
theorem dX9_takeWool_10 : decode cX9_takeWool 10 = .ok (.iload_n 2, 1) := by decide +kernel
theorem dX9_takeWool_11 : decode cX9_takeWool 11 = .ok (.iadd, 1) := by decide +kernel
theorem dX9_takeWool_12 : decode cX9_takeWool 12 = .ok (.iaload, 1) := by decide +kernel
theorem dX9_takeWool_13 : decode cX9_takeWool 13 = .ok (.ifCond .ne 9, 3) := by decide +kernel
theorem dX9_takeWool_16 : decode cX9_takeWool 16 = .ok (.iinc 2 1, 3) := by decide +kernel
theorem dX9_takeWool_19 : decode cX9_takeWool 19 = .ok (.goto (-17), 3) := by decide +kernel
theorem dX9_takeWool_22 : decode cX9_takeWool 22 = .ok (.aload_n 0, 1) := by decide +kernel
theorem dX9_takeWool_23 : decode cX9_takeWool 23 = .ok (.getfield 68, 3) := by decide +kernel
theorem dX9_takeWool_26 : decode cX9_takeWool 26 = .ok (.bipush 10, 2) := by decide +kernel
theorem dX9_takeWool_28 : decode cX9_takeWool 28 = .ok (.iload_n 1, 1) := by decide +kernel
theorem dX9_takeWool_29 : decode cX9_takeWool 29 = .ok (.imul, 1) := by decide +kernel
theorem dX9_takeWool_30 : decode cX9_takeWool 30 = .ok (.iload_n 2, 1) := by decide +kernel
theorem dX9_takeWool_31 : decode cX9_takeWool 31 = .ok (.iadd, 1) := by decide +kernel
theorem dX9_takeWool_32 : decode cX9_takeWool 32 = .ok (.dup2, 1) := by decide +kernel
theorem dX9_takeWool_33 : decode cX9_takeWool 33 = .ok (.iaload, 1) := by decide +kernel
theorem dX9_takeWool_34 : decode cX9_takeWool 34 = .ok (.iconst 1, 1) := by decide +kernel
theorem dX9_takeWool_35 : decode cX9_takeWool 35 = .ok (.isub, 1) := by decide +kernel
theorem dX9_takeWool_36 : decode cX9_takeWool 36 = .ok (.iastore, 1) := by decide +kernel
theorem dX9_takeWool_37 : decode cX9_takeWool 37 = .ok (.aload_n 0, 1) := by decide +kernel
theorem dX9_takeWool_38 : decode cX9_takeWool 38 = .ok (.getfield 65, 3) := by decide +kernel
theorem dX9_takeWool_41 : decode cX9_takeWool 41 = .ok (.bipush 10, 2) := by decide +kernel
theorem dX9_takeWool_43 : decode cX9_takeWool 43 = .ok (.iload_n 1, 1) := by decide +kernel
theorem dX9_takeWool_44 : decode cX9_takeWool 44 = .ok (.imul, 1) := by decide +kernel
theorem dX9_takeWool_45 : decode cX9_takeWool 45 = .ok (.iload_n 2, 1) := by decide +kernel
theorem dX9_takeWool_46 : decode cX9_takeWool 46 = .ok (.iadd, 1) := by decide +kernel
theorem dX9_takeWool_47 : decode cX9_takeWool 47 = .ok (.iaload, 1) := by decide +kernel
theorem dX9_takeWool_48 : decode cX9_takeWool 48 = .ok (.ireturn, 1) := by decide +kernel
theorem dX9_minutesOf_0 : decode cX9_minutesOf 0 = .ok (.iconst 0, 1) := by decide +kernel
theorem dX9_minutesOf_1 : decode cX9_minutesOf 1 = .ok (.istore_n 2, 1) := by decide +kernel
theorem dX9_minutesOf_2 : decode cX9_minutesOf 2 = .ok (.iconst 0, 1) := by decide +kernel
theorem dX9_minutesOf_3 : decode cX9_minutesOf 3 = .ok (.istore_n 3, 1) := by decide +kernel
theorem dX9_minutesOf_4 : decode cX9_minutesOf 4 = .ok (.iconst (-1), 1) := by decide +kernel
theorem dX9_minutesOf_5 : decode cX9_minutesOf 5 = .ok (.istore 4, 2) := by decide +kernel
theorem dX9_minutesOf_7 : decode cX9_minutesOf 7 = .ok (.iconst 0, 1) := by decide +kernel
theorem dX9_minutesOf_8 : decode cX9_minutesOf 8 = .ok (.istore 5, 2) := by decide +kernel
theorem dX9_minutesOf_10 : decode cX9_minutesOf 10 = .ok (.iload 5, 2) := by decide +kernel
theorem dX9_minutesOf_12 : decode cX9_minutesOf 12 = .ok (.aload_n 0, 1) := by decide +kernel
theorem dX9_minutesOf_13 : decode cX9_minutesOf 13 = .ok (.getfield 134, 3) := by decide +kernel
theorem dX9_minutesOf_16 : decode cX9_minutesOf 16 = .ok (.if_icmp .ge 59, 3) := by decide +kernel
theorem dX9_minutesOf_19 : decode cX9_minutesOf 19 = .ok (.aload_n 0, 1) := by decide +kernel
theorem dX9_minutesOf_20 : decode cX9_minutesOf 20 = .ok (.iload 5, 2) := by decide +kernel
theorem dX9_minutesOf_22 : decode cX9_minutesOf 22 = .ok (.invokevirtual 178, 3) := by decide +kernel
theorem dX9_minutesOf_25 : decode cX9_minutesOf 25 = .ok (.iload_n 1, 1) := by decide +kernel
theorem dX9_minutesOf_26 : decode cX9_minutesOf 26 = .ok (.if_icmp .eq 6, 3) := by decide +kernel
theorem dX9_minutesOf_29 : decode cX9_minutesOf 29 = .ok (.goto 40, 3) := by decide +kernel
theorem dX9_minutesOf_32 : decode cX9_minutesOf 32 = .ok (.iinc 2 1, 3) := by decide +kernel
theorem dX9_minutesOf_35 : decode cX9_minutesOf 35 = .ok (.iload_n 3, 1) := by decide +kernel
theorem dX9_minutesOf_36 : decode cX9_minutesOf 36 = .ok (.iload 4, 2) := by decide +kernel
theorem dX9_minutesOf_38 : decode cX9_minutesOf 38 = .ok (.ifCond .lt 19, 3) := by decide +kernel
theorem dX9_minutesOf_41 : decode cX9_minutesOf 41 = .ok (.aload_n 0, 1) := by decide +kernel
theorem dX9_minutesOf_42 : decode cX9_minutesOf 42 = .ok (.getfield 29, 3) := by decide +kernel
theorem dX9_minutesOf_45 : decode cX9_minutesOf 45 = .ok (.iload 5, 2) := by decide +kernel
theorem dX9_minutesOf_47 : decode cX9_minutesOf 47 = .ok (.iaload, 1) := by decide +kernel
theorem dX9_minutesOf_48 : decode cX9_minutesOf 48 = .ok (.iload 4, 2) := by decide +kernel
theorem dX9_minutesOf_50 : decode cX9_minutesOf 50 = .ok (.if_icmp .eq 7, 3) := by decide +kernel
theorem dX9_minutesOf_53 : decode cX9_minutesOf 53 = .ok (.iconst 1, 1) := by decide +kernel
theorem dX9_minutesOf_54 : decode cX9_minutesOf 54 = .ok (.goto 4, 3) := by decide +kernel
theorem dX9_minutesOf_57 : decode cX9_minutesOf 57 = .ok (.iconst 0, 1) := by decide +kernel
theorem dX9_minutesOf_58 : decode cX9_minutesOf 58 = .ok (.iadd, 1) := by decide +kernel
theorem dX9_minutesOf_59 : decode cX9_minutesOf 59 = .ok (.istore_n 3, 1) := by decide +kernel
theorem dX9_minutesOf_60 : decode cX9_minutesOf 60 = .ok (.aload_n 0, 1) := by decide +kernel
theorem dX9_minutesOf_61 : decode cX9_minutesOf 61 = .ok (.getfield 29, 3) := by decide +kernel
theorem dX9_minutesOf_64 : decode cX9_minutesOf 64 = .ok (.iload 5, 2) := by decide +kernel
theorem dX9_minutesOf_66 : decode cX9_minutesOf 66 = .ok (.iaload, 1) := by decide +kernel
theorem dX9_minutesOf_67 : decode cX9_minutesOf 67 = .ok (.istore 4, 2) := by decide +kernel
theorem dX9_minutesOf_69 : decode cX9_minutesOf 69 = .ok (.iinc 5 1, 3) := by decide +kernel
theorem dX9_minutesOf_72 : decode cX9_minutesOf 72 = .ok (.goto (-62), 3) := by decide +kernel
theorem dX9_minutesOf_75 : decode cX9_minutesOf 75 = .ok (.iload_n 2, 1) := by decide +kernel
theorem dX9_minutesOf_76 : decode cX9_minutesOf 76 = .ok (.aload_n 0, 1) := by decide +kernel
theorem dX9_minutesOf_77 : decode cX9_minutesOf 77 = .ok (.getfield 59, 3) := by decide +kernel
theorem dX9_minutesOf_80 : decode cX9_minutesOf 80 = .ok (.iload_n 1, 1) := by decide +kernel
theorem dX9_minutesOf_81 : decode cX9_minutesOf 81 = .ok (.iaload, 1) := by decide +kernel
theorem dX9_minutesOf_82 : decode cX9_minutesOf 82 = .ok (.iadd, 1) := by decide +kernel
theorem dX9_minutesOf_83 : decode cX9_minutesOf 83 = .ok (.iconst 1, 1) := by decide +kernel
theorem dX9_minutesOf_84 : decode cX9_minutesOf 84 = .ok (.isub, 1) := by decide +kernel
theorem dX9_minutesOf_85 : decode cX9_minutesOf 85 = .ok (.aload_n 0, 1) := by decide +kernel
theorem dX9_minutesOf_86 : decode cX9_minutesOf 86 = .ok (.getfield 59, 3) := by decide +kernel
theorem dX9_minutesOf_89 : decode cX9_minutesOf 89 = .ok (.iload_n 1, 1) := by decide +kernel
theorem dX9_minutesOf_90 : decode cX9_minutesOf 90 = .ok (.iaload, 1) := by decide +kernel
theorem dX9_minutesOf_91 : decode cX9_minutesOf 91 = .ok (.idiv, 1) := by decide +kernel
theorem dX9_minutesOf_92 : decode cX9_minutesOf 92 = .ok (.iload_n 3, 1) := by decide +kernel
theorem dX9_minutesOf_93 : decode cX9_minutesOf 93 = .ok (.iadd, 1) := by decide +kernel
theorem dX9_minutesOf_94 : decode cX9_minutesOf 94 = .ok (.ireturn, 1) := by decide +kernel
theorem dX9_tie_0 : decode cX9_tie 0 = .ok (.aload_n 0, 1) := by decide +kernel
theorem dX9_tie_1 : decode cX9_tie 1 = .ok (.iload_n 1, 1) := by decide +kernel
theorem dX9_tie_2 : decode cX9_tie 2 = .ok (.invokevirtual 165, 3) := by decide +kernel
theorem dX9_tie_5 : decode cX9_tie 5 = .ok (.ifCond .ne 5, 3) := by decide +kernel
theorem dX9_tie_8 : decode cX9_tie 8 = .ok (.iconst (-1), 1) := by decide +kernel
theorem dX9_tie_9 : decode cX9_tie 9 = .ok (.ireturn, 1) := by decide +kernel
theorem dX9_tie_10 : decode cX9_tie 10 = .ok (.aload_n 0, 1) := by decide +kernel
theorem dX9_tie_11 : decode cX9_tie 11 = .ok (.iload_n 1, 1) := by decide +kernel
theorem dX9_tie_12 : decode cX9_tie 12 = .ok (.invokevirtual 168, 3) := by decide +kernel
theorem dX9_tie_15 : decode cX9_tie 15 = .ok (.istore_n 2, 1) := by decide +kernel
theorem dX9_tie_16 : decode cX9_tie 16 = .ok (.iload_n 2, 1) := by decide +kernel
theorem dX9_tie_17 : decode cX9_tie 17 = .ok (.ifCond .ge 6, 3) := by decide +kernel
theorem dX9_tie_20 : decode cX9_tie 20 = .ok (.bipush (-6), 2) := by decide +kernel
theorem dX9_tie_22 : decode cX9_tie 22 = .ok (.ireturn, 1) := by decide +kernel
theorem dX9_tie_23 : decode cX9_tie 23 = .ok (.iload_n 2, 1) := by decide +kernel
theorem dX9_tie_24 : decode cX9_tie 24 = .ok (.aload_n 0, 1) := by decide +kernel
theorem dX9_tie_25 : decode cX9_tie 25 = .ok (.getfield 134, 3) := by decide +kernel
theorem dX9_tie_28 : decode cX9_tie 28 = .ok (.if_icmp .eq 6, 3) := by decide +kernel
theorem dX9_tie_31 : decode cX9_tie 31 = .ok (.bipush (-4), 2) := by decide +kernel
theorem dX9_tie_33 : decode cX9_tie 33 = .ok (.ireturn, 1) := by decide +kernel
theorem dX9_tie_34 : decode cX9_tie 34 = .ok (.aload_n 0, 1) := by decide +kernel
theorem dX9_tie_35 : decode cX9_tie 35 = .ok (.getfield 71, 3) := by decide +kernel
theorem dX9_tie_38 : decode cX9_tie 38 = .ok (.bipush 40, 2) := by decide +kernel
theorem dX9_tie_40 : decode cX9_tie 40 = .ok (.if_icmp .ne 6, 3) := by decide +kernel
theorem dX9_tie_43 : decode cX9_tie 43 = .ok (.bipush (-2), 2) := by decide +kernel
theorem dX9_tie_45 : decode cX9_tie 45 = .ok (.ireturn, 1) := by decide +kernel
theorem dX9_tie_46 : decode cX9_tie 46 = .ok (.aload_n 0, 1) := by decide +kernel
theorem dX9_tie_47 : decode cX9_tie 47 = .ok (.invokevirtual 181, 3) := by decide +kernel
theorem dX9_tie_50 : decode cX9_tie 50 = .ok (.ifCond .ne 6, 3) := by decide +kernel
theorem dX9_tie_53 : decode cX9_tie 53 = .ok (.bipush (-5), 2) := by decide +kernel
theorem dX9_tie_55 : decode cX9_tie 55 = .ok (.ireturn, 1) := by decide +kernel
theorem dX9_tie_56 : decode cX9_tie 56 = .ok (.iconst 0, 1) := by decide +kernel
theorem dX9_tie_57 : decode cX9_tie 57 = .ok (.istore_n 3, 1) := by decide +kernel
theorem dX9_tie_58 : decode cX9_tie 58 = .ok (.iconst 0, 1) := by decide +kernel
theorem dX9_tie_59 : decode cX9_tie 59 = .ok (.istore 4, 2) := by decide +kernel
theorem dX9_tie_61 : decode cX9_tie 61 = .ok (.iload 4, 2) := by decide +kernel
theorem dX9_tie_63 : decode cX9_tie 63 = .ok (.bipush 6, 2) := by decide +kernel
theorem dX9_tie_65 : decode cX9_tie 65 = .ok (.if_icmp .ge 30, 3) := by decide +kernel
theorem dX9_tie_68 : decode cX9_tie 68 = .ok (.aload_n 0, 1) := by decide +kernel
theorem dX9_tie_69 : decode cX9_tie 69 = .ok (.iload 4, 2) := by decide +kernel
theorem dX9_tie_71 : decode cX9_tie 71 = .ok (.invokevirtual 185, 3) := by decide +kernel
theorem dX9_tie_74 : decode cX9_tie 74 = .ok (.iload_n 3, 1) := by decide +kernel
theorem dX9_tie_75 : decode cX9_tie 75 = .ok (.if_icmp .le 12, 3) := by decide +kernel
theorem dX9_tie_78 : decode cX9_tie 78 = .ok (.aload_n 0, 1) := by decide +kernel
theorem dX9_tie_79 : decode cX9_tie 79 = .ok (.iload 4, 2) := by decide +kernel
theorem dX9_tie_81 : decode cX9_tie 81 = .ok (.invokevirtual 185, 3) := by decide +kernel
theorem dX9_tie_84 : decode cX9_tie 84 = .ok (.goto 4, 3) := by decide +kernel
theorem dX9_tie_87 : decode cX9_tie 87 = .ok (.iload_n 3, 1) := by decide +kernel
theorem dX9_tie_88 : decode cX9_tie 88 = .ok (.istore_n 3, 1) := by decide +kernel
theorem dX9_tie_89 : decode cX9_tie 89 = .ok (.iinc 4 1, 3) := by decide +kernel
theorem dX9_tie_92 : decode cX9_tie 92 = .ok (.goto (-31), 3) := by decide +kernel
theorem dX9_tie_95 : decode cX9_tie 95 = .ok (.iconst 0, 1) := by decide +kernel
theorem dX9_tie_96 : decode cX9_tie 96 = .ok (.istore 4, 2) := by decide +kernel
theorem dX9_tie_98 : decode cX9_tie 98 = .ok (.iconst 0, 1) := by decide +kernel
theorem dX9_tie_99 : decode cX9_tie 99 = .ok (.istore 5, 2) := by decide +kernel
theorem dX9_tie_101 : decode cX9_tie 101 = .ok (.iload 5, 2) := by decide +kernel
theorem dX9_tie_103 : decode cX9_tie 103 = .ok (.aload_n 0, 1) := by decide +kernel
theorem dX9_tie_104 : decode cX9_tie 104 = .ok (.getfield 134, 3) := by decide +kernel
theorem dX9_tie_107 : decode cX9_tie 107 = .ok (.if_icmp .ge 94, 3) := by decide +kernel
theorem dX9_tie_110 : decode cX9_tie 110 = .ok (.bipush 40, 2) := by decide +kernel
theorem dX9_tie_112 : decode cX9_tie 112 = .ok (.aload_n 0, 1) := by decide +kernel
theorem dX9_tie_113 : decode cX9_tie 113 = .ok (.getfield 71, 3) := by decide +kernel
theorem dX9_tie_116 : decode cX9_tie 116 = .ok (.imul, 1) := by decide +kernel
theorem dX9_tie_117 : decode cX9_tie 117 = .ok (.iload 5, 2) := by decide +kernel
theorem dX9_tie_119 : decode cX9_tie 119 = .ok (.iadd, 1) := by decide +kernel
theorem dX9_tie_120 : decode cX9_tie 120 = .ok (.istore 6, 2) := by decide +kernel
theorem dX9_tie_122 : decode cX9_tie 122 = .ok (.aload_n 0, 1) := by decide +kernel
theorem dX9_tie_123 : decode cX9_tie 123 = .ok (.getfield 32, 3) := by decide +kernel
theorem dX9_tie_126 : decode cX9_tie 126 = .ok (.iload 4, 2) := by decide +kernel
theorem dX9_tie_128 : decode cX9_tie 128 = .ok (.iaload, 1) := by decide +kernel
theorem dX9_tie_129 : decode cX9_tie 129 = .ok (.iload 5, 2) := by decide +kernel
theorem dX9_tie_131 : decode cX9_tie 131 = .ok (.if_icmp .gt 9, 3) := by decide +kernel
theorem dX9_tie_134 : decode cX9_tie 134 = .ok (.iinc 4 1, 3) := by decide +kernel
theorem dX9_tie_137 : decode cX9_tie 137 = .ok (.goto (-15), 3) := by decide +kernel
theorem dX9_tie_140 : decode cX9_tie 140 = .ok (.aload_n 0, 1) := by decide +kernel
theorem dX9_tie_141 : decode cX9_tie 141 = .ok (.getfield 74, 3) := by decide +kernel
theorem dX9_tie_144 : decode cX9_tie 144 = .ok (.iload 6, 2) := by decide +kernel
theorem dX9_tie_146 : decode cX9_tie 146 = .ok (.aload_n 0, 1) := by decide +kernel
theorem dX9_tie_147 : decode cX9_tie 147 = .ok (.getfield 29, 3) := by decide +kernel
theorem dX9_tie_150 : decode cX9_tie 150 = .ok (.iload 5, 2) := by decide +kernel
theorem dX9_tie_152 : decode cX9_tie 152 = .ok (.iaload, 1) := by decide +kernel
theorem dX9_tie_153 : decode cX9_tie 153 = .ok (.iastore, 1) := by decide +kernel
theorem dX9_tie_154 : decode cX9_tie 154 = .ok (.aload_n 0, 1) := by decide +kernel
theorem dX9_tie_155 : decode cX9_tie 155 = .ok (.getfield 77, 3) := by decide +kernel
theorem dX9_tie_158 : decode cX9_tie 158 = .ok (.iload 6, 2) := by decide +kernel
theorem dX9_tie_160 : decode cX9_tie 160 = .ok (.aload_n 0, 1) := by decide +kernel
theorem dX9_tie_161 : decode cX9_tie 161 = .ok (.getfield 29, 3) := by decide +kernel
theorem dX9_tie_164 : decode cX9_tie 164 = .ok (.iload 5, 2) := by decide +kernel
theorem dX9_tie_166 : decode cX9_tie 166 = .ok (.iaload, 1) := by decide +kernel
theorem dX9_tie_167 : decode cX9_tie 167 = .ok (.iastore, 1) := by decide +kernel
theorem dX9_tie_168 : decode cX9_tie 168 = .ok (.aload_n 0, 1) := by decide +kernel
theorem dX9_tie_169 : decode cX9_tie 169 = .ok (.getfield 80, 3) := by decide +kernel
theorem dX9_tie_172 : decode cX9_tie 172 = .ok (.iload 6, 2) := by decide +kernel
theorem dX9_tie_174 : decode cX9_tie 174 = .ok (.aload_n 0, 1) := by decide +kernel
theorem dX9_tie_175 : decode cX9_tie 175 = .ok (.aload_n 0, 1) := by decide +kernel
theorem dX9_tie_176 : decode cX9_tie 176 = .ok (.getfield 29, 3) := by decide +kernel
theorem dX9_tie_179 : decode cX9_tie 179 = .ok (.iload 5, 2) := by decide +kernel
theorem dX9_tie_181 : decode cX9_tie 181 = .ok (.iaload, 1) := by decide +kernel
theorem dX9_tie_182 : decode cX9_tie 182 = .ok (.invokevirtual 188, 3) := by decide +kernel
theorem dX9_tie_185 : decode cX9_tie 185 = .ok (.iastore, 1) := by decide +kernel
theorem dX9_tie_186 : decode cX9_tie 186 = .ok (.aload_n 0, 1) := by decide +kernel
theorem dX9_tie_187 : decode cX9_tie 187 = .ok (.getfield 83, 3) := by decide +kernel
theorem dX9_tie_190 : decode cX9_tie 190 = .ok (.iload 6, 2) := by decide +kernel
theorem dX9_tie_192 : decode cX9_tie 192 = .ok (.iload 4, 2) := by decide +kernel
theorem dX9_tie_194 : decode cX9_tie 194 = .ok (.iastore, 1) := by decide +kernel
theorem dX9_tie_195 : decode cX9_tie 195 = .ok (.iinc 5 1, 3) := by decide +kernel
theorem dX9_tie_198 : decode cX9_tie 198 = .ok (.goto (-97), 3) := by decide +kernel
theorem dX9_tie_201 : decode cX9_tie 201 = .ok (.aload_n 0, 1) := by decide +kernel
theorem dX9_tie_202 : decode cX9_tie 202 = .ok (.getfield 86, 3) := by decide +kernel
theorem dX9_tie_205 : decode cX9_tie 205 = .ok (.aload_n 0, 1) := by decide +kernel
theorem dX9_tie_206 : decode cX9_tie 206 = .ok (.getfield 71, 3) := by decide +kernel
theorem dX9_tie_209 : decode cX9_tie 209 = .ok (.iload_n 3, 1) := by decide +kernel
theorem dX9_tie_210 : decode cX9_tie 210 = .ok (.iastore, 1) := by decide +kernel
theorem dX9_tie_211 : decode cX9_tie 211 = .ok (.aload_n 0, 1) := by decide +kernel
theorem dX9_tie_212 : decode cX9_tie 212 = .ok (.dup, 1) := by decide +kernel
theorem dX9_tie_213 : decode cX9_tie 213 = .ok (.getfield 71, 3) := by decide +kernel
theorem dX9_tie_216 : decode cX9_tie 216 = .ok (.iconst 1, 1) := by decide +kernel
theorem dX9_tie_217 : decode cX9_tie 217 = .ok (.iadd, 1) := by decide +kernel
theorem dX9_tie_218 : decode cX9_tie 218 = .ok (.putfield 71, 3) := by decide +kernel
theorem dX9_tie_221 : decode cX9_tie 221 = .ok (.aload_n 0, 1) := by decide +kernel
theorem dX9_tie_222 : decode cX9_tie 222 = .ok (.getfield 71, 3) := by decide +kernel
theorem dX9_tie_225 : decode cX9_tie 225 = .ok (.iconst 1, 1) := by decide +kernel
theorem dX9_tie_226 : decode cX9_tie 226 = .ok (.isub, 1) := by decide +kernel
theorem dX9_tie_227 : decode cX9_tie 227 = .ok (.ireturn, 1) := by decide +kernel
theorem dX9_isKnot_0 : decode cX9_isKnot 0 = .ok (.aload_n 0, 1) := by decide +kernel
theorem dX9_isKnot_1 : decode cX9_isKnot 1 = .ok (.iload_n 1, 1) := by decide +kernel
theorem dX9_isKnot_2 : decode cX9_isKnot 2 = .ok (.iconst 0, 1) := by decide +kernel
theorem dX9_isKnot_3 : decode cX9_isKnot 3 = .ok (.aload_n 0, 1) := by decide +kernel
theorem dX9_isKnot_4 : decode cX9_isKnot 4 = .ok (.getfield 71, 3) := by decide +kernel
theorem dX9_isKnot_7 : decode cX9_isKnot 7 = .ok (.iconst 1, 1) := by decide +kernel
theorem dX9_isKnot_8 : decode cX9_isKnot 8 = .ok (.isub, 1) := by decide +kernel
theorem dX9_isKnot_9 : decode cX9_isKnot 9 = .ok (.invokevirtual 137, 3) := by decide +kernel
theorem dX9_isKnot_12 : decode cX9_isKnot 12 = .ok (.ifCond .eq 22, 3) := by decide +kernel
theorem dX9_isKnot_15 : decode cX9_isKnot 15 = .ok (.aload_n 0, 1) := by decide +kernel
theorem dX9_isKnot_16 : decode cX9_isKnot 16 = .ok (.iload_n 2, 1) := by decide +kernel
theorem dX9_isKnot_17 : decode cX9_isKnot 17 = .ok (.iconst 0, 1) := by decide +kernel
theorem dX9_isKnot_18 : decode cX9_isKnot 18 = .ok (.aload_n 0, 1) := by decide +kernel
theorem dX9_isKnot_19 : decode cX9_isKnot 19 = .ok (.getfield 134, 3) := by decide +kernel
theorem dX9_isKnot_22 : decode cX9_isKnot 22 = .ok (.iconst 1, 1) := by decide +kernel
theorem dX9_isKnot_23 : decode cX9_isKnot 23 = .ok (.isub, 1) := by decide +kernel
theorem dX9_isKnot_24 : decode cX9_isKnot 24 = .ok (.invokevirtual 137, 3) := by decide +kernel
theorem dX9_isKnot_27 : decode cX9_isKnot 27 = .ok (.ifCond .eq 7, 3) := by decide +kernel
theorem dX9_isKnot_30 : decode cX9_isKnot 30 = .ok (.iconst 1, 1) := by decide +kernel
theorem dX9_isKnot_31 : decode cX9_isKnot 31 = .ok (.goto 4, 3) := by decide +kernel
theorem dX9_isKnot_34 : decode cX9_isKnot 34 = .ok (.iconst 0, 1) := by decide +kernel
theorem dX9_isKnot_35 : decode cX9_isKnot 35 = .ok (.ireturn, 1) := by decide +kernel
theorem dX9_knot_0 : decode cX9_knot 0 = .ok (.aload_n 0, 1) := by decide +kernel
theorem dX9_knot_1 : decode cX9_knot 1 = .ok (.iload_n 1, 1) := by decide +kernel
theorem dX9_knot_2 : decode cX9_knot 2 = .ok (.iload_n 2, 1) := by decide +kernel
theorem dX9_knot_3 : decode cX9_knot 3 = .ok (.invokevirtual 191, 3) := by decide +kernel
theorem dX9_knot_6 : decode cX9_knot 6 = .ok (.ifCond .eq 17, 3) := by decide +kernel
theorem dX9_knot_9 : decode cX9_knot 9 = .ok (.aload_n 0, 1) := by decide +kernel
theorem dX9_knot_10 : decode cX9_knot 10 = .ok (.getfield 77, 3) := by decide +kernel
theorem dX9_knot_13 : decode cX9_knot 13 = .ok (.bipush 40, 2) := by decide +kernel
theorem dX9_knot_15 : decode cX9_knot 15 = .ok (.iload_n 1, 1) := by decide +kernel
theorem dX9_knot_16 : decode cX9_knot 16 = .ok (.imul, 1) := by decide +kernel
theorem dX9_knot_17 : decode cX9_knot 17 = .ok (.iload_n 2, 1) := by decide +kernel
theorem dX9_knot_18 : decode cX9_knot 18 = .ok (.iadd, 1) := by decide +kernel
theorem dX9_knot_19 : decode cX9_knot 19 = .ok (.iaload, 1) := by decide +kernel
theorem dX9_knot_20 : decode cX9_knot 20 = .ok (.goto 4, 3) := by decide +kernel
theorem dX9_knot_23 : decode cX9_knot 23 = .ok (.iconst (-1), 1) := by decide +kernel
theorem dX9_knot_24 : decode cX9_knot 24 = .ok (.ireturn, 1) := by decide +kernel
theorem dX9_look_0 : decode cX9_look 0 = .ok (.aload_n 0, 1) := by decide +kernel
theorem dX9_look_1 : decode cX9_look 1 = .ok (.iload_n 1, 1) := by decide +kernel
theorem dX9_look_2 : decode cX9_look 2 = .ok (.iload_n 2, 1) := by decide +kernel
theorem dX9_look_3 : decode cX9_look 3 = .ok (.invokevirtual 191, 3) := by decide +kernel
theorem dX9_look_6 : decode cX9_look 6 = .ok (.ifCond .eq 13, 3) := by decide +kernel
theorem dX9_look_9 : decode cX9_look 9 = .ok (.aload_n 0, 1) := by decide +kernel
theorem dX9_look_10 : decode cX9_look 10 = .ok (.iload_n 3, 1) := by decide +kernel
theorem dX9_look_11 : decode cX9_look 11 = .ok (.iconst 0, 1) := by decide +kernel
theorem dX9_look_12 : decode cX9_look 12 = .ok (.iconst 4, 1) := by decide +kernel
theorem dX9_look_13 : decode cX9_look 13 = .ok (.invokevirtual 137, 3) := by decide +kernel
theorem dX9_look_16 : decode cX9_look 16 = .ok (.ifCond .ne 5, 3) := by decide +kernel
theorem dX9_look_19 : decode cX9_look 19 = .ok (.iconst (-1), 1) := by decide +kernel
theorem dX9_look_20 : decode cX9_look 20 = .ok (.ireturn, 1) := by decide +kernel
theorem dX9_look_21 : decode cX9_look 21 = .ok (.bipush 40, 2) := by decide +kernel
theorem dX9_look_23 : decode cX9_look 23 = .ok (.iload_n 1, 1) := by decide +kernel
theorem dX9_look_24 : decode cX9_look 24 = .ok (.imul, 1) := by decide +kernel
theorem dX9_look_25 : decode cX9_look 25 = .ok (.iload_n 2, 1) := by decide +kernel
theorem dX9_look_26 : decode cX9_look 26 = .ok (.iadd, 1) := by decide +kernel
theorem dX9_look_27 : decode cX9_look 27 = .ok (.istore 4, 2) := by decide +kernel
theorem dX9_look_29 : decode cX9_look 29 = .ok (.iload_n 3, 1) := by decide +kernel
theorem dX9_look_30 : decode cX9_look 30 = .ok (.ifCond .ne 11, 3) := by decide +kernel
theorem dX9_look_33 : decode cX9_look 33 = .ok (.aload_n 0, 1) := by decide +kernel
theorem dX9_look_34 : decode cX9_look 34 = .ok (.iload_n 2, 1) := by decide +kernel
theorem dX9_look_35 : decode cX9_look 35 = .ok (.invokevirtual 178, 3) := by decide +kernel
theorem dX9_look_38 : decode cX9_look 38 = .ok (.goto 70, 3) := by decide +kernel
theorem dX9_look_41 : decode cX9_look 41 = .ok (.iload_n 3, 1) := by decide +kernel
theorem dX9_look_42 : decode cX9_look 42 = .ok (.iconst 1, 1) := by decide +kernel
theorem dX9_look_43 : decode cX9_look 43 = .ok (.if_icmp .ne 13, 3) := by decide +kernel
theorem dX9_look_46 : decode cX9_look 46 = .ok (.aload_n 0, 1) := by decide +kernel
theorem dX9_look_47 : decode cX9_look 47 = .ok (.getfield 80, 3) := by decide +kernel
theorem dX9_look_50 : decode cX9_look 50 = .ok (.iload 4, 2) := by decide +kernel
theorem dX9_look_52 : decode cX9_look 52 = .ok (.iaload, 1) := by decide +kernel
theorem dX9_look_53 : decode cX9_look 53 = .ok (.goto 55, 3) := by decide +kernel
theorem dX9_look_56 : decode cX9_look 56 = .ok (.iload_n 3, 1) := by decide +kernel
theorem dX9_look_57 : decode cX9_look 57 = .ok (.iconst 2, 1) := by decide +kernel
theorem dX9_look_58 : decode cX9_look 58 = .ok (.if_icmp .ne 13, 3) := by decide +kernel
theorem dX9_look_61 : decode cX9_look 61 = .ok (.aload_n 0, 1) := by decide +kernel
theorem dX9_look_62 : decode cX9_look 62 = .ok (.getfield 74, 3) := by decide +kernel
theorem dX9_look_65 : decode cX9_look 65 = .ok (.iload 4, 2) := by decide +kernel
theorem dX9_look_67 : decode cX9_look 67 = .ok (.iaload, 1) := by decide +kernel
theorem dX9_look_68 : decode cX9_look 68 = .ok (.goto 40, 3) := by decide +kernel
theorem dX9_look_71 : decode cX9_look 71 = .ok (.iload_n 3, 1) := by decide +kernel
theorem dX9_look_72 : decode cX9_look 72 = .ok (.iconst 3, 1) := by decide +kernel
theorem dX9_look_73 : decode cX9_look 73 = .ok (.if_icmp .ne 13, 3) := by decide +kernel
theorem dX9_look_76 : decode cX9_look 76 = .ok (.aload_n 0, 1) := by decide +kernel
theorem dX9_look_77 : decode cX9_look 77 = .ok (.getfield 83, 3) := by decide +kernel
theorem dX9_look_80 : decode cX9_look 80 = .ok (.iload 4, 2) := by decide +kernel
theorem dX9_look_82 : decode cX9_look 82 = .ok (.iaload, 1) := by decide +kernel
theorem dX9_look_83 : decode cX9_look 83 = .ok (.goto 25, 3) := by decide +kernel
theorem dX9_look_86 : decode cX9_look 86 = .ok (.aload_n 0, 1) := by decide +kernel
theorem dX9_look_87 : decode cX9_look 87 = .ok (.getfield 77, 3) := by decide +kernel
theorem dX9_look_90 : decode cX9_look 90 = .ok (.iload 4, 2) := by decide +kernel
theorem dX9_look_92 : decode cX9_look 92 = .ok (.iaload, 1) := by decide +kernel
theorem dX9_look_93 : decode cX9_look 93 = .ok (.aload_n 0, 1) := by decide +kernel
theorem dX9_look_94 : decode cX9_look 94 = .ok (.getfield 74, 3) := by decide +kernel
theorem dX9_look_97 : decode cX9_look 97 = .ok (.iload 4, 2) := by decide +kernel
theorem dX9_look_99 : decode cX9_look 99 = .ok (.iaload, 1) := by decide +kernel
theorem dX9_look_100 : decode cX9_look 100 = .ok (.if_icmp .eq 7, 3) := by decide +kernel
theorem dX9_look_103 : decode cX9_look 103 = .ok (.iconst 1, 1) := by decide +kernel
theorem dX9_look_104 : decode cX9_look 104 = .ok (.goto 4, 3) := by decide +kernel
theorem dX9_look_107 : decode cX9_look 107 = .ok (.iconst 0, 1) := by decide +kernel
theorem dX9_look_108 : decode cX9_look 108 = .ok (.ireturn, 1) := by decide +kernel
theorem dX9_found_0 : decode cX9_found 0 = .ok (.aload_n 0, 1) := by decide +kernel
theorem dX9_found_1 : decode cX9_found 1 = .ok (.iload_n 1, 1) := by decide +kernel
theorem dX9_found_2 : decode cX9_found 2 = .ok (.iload_n 2, 1) := by decide +kernel
theorem dX9_found_3 : decode cX9_found 3 = .ok (.invokevirtual 191, 3) := by decide +kernel
theorem dX9_found_6 : decode cX9_found 6 = .ok (.ifCond .eq 11, 3) := by decide +kernel
theorem dX9_found_9 : decode cX9_found 9 = .ok (.aload_n 0, 1) := by decide +kernel
theorem dX9_found_10 : decode cX9_found 10 = .ok (.iload_n 3, 1) := by decide +kernel
theorem dX9_found_11 : decode cX9_found 11 = .ok (.invokevirtual 145, 3) := by decide +kernel
theorem dX9_found_14 : decode cX9_found 14 = .ok (.ifCond .ne 5, 3) := by decide +kernel
theorem dX9_found_17 : decode cX9_found 17 = .ok (.iconst (-1), 1) := by decide +kernel
theorem dX9_found_18 : decode cX9_found 18 = .ok (.ireturn, 1) := by decide +kernel
theorem dX9_found_19 : decode cX9_found 19 = .ok (.aload_n 0, 1) := by decide +kernel
theorem dX9_found_20 : decode cX9_found 20 = .ok (.getfield 77, 3) := by decide +kernel
theorem dX9_found_23 : decode cX9_found 23 = .ok (.bipush 40, 2) := by decide +kernel
theorem dX9_found_25 : decode cX9_found 25 = .ok (.iload_n 1, 1) := by decide +kernel
theorem dX9_found_26 : decode cX9_found 26 = .ok (.imul, 1) := by decide +kernel
theorem dX9_found_27 : decode cX9_found 27 = .ok (.iload_n 2, 1) := by decide +kernel
theorem dX9_found_28 : decode cX9_found 28 = .ok (.iadd, 1) := by decide +kernel
theorem dX9_found_29 : decode cX9_found 29 = .ok (.iload_n 3, 1) := by decide +kernel
theorem dX9_found_30 : decode cX9_found 30 = .ok (.iastore, 1) := by decide +kernel
theorem dX9_found_31 : decode cX9_found 31 = .ok (.iload_n 3, 1) := by decide +kernel
theorem dX9_found_32 : decode cX9_found 32 = .ok (.aload_n 0, 1) := by decide +kernel
theorem dX9_found_33 : decode cX9_found 33 = .ok (.getfield 74, 3) := by decide +kernel
theorem dX9_found_36 : decode cX9_found 36 = .ok (.bipush 40, 2) := by decide +kernel
theorem dX9_found_38 : decode cX9_found 38 = .ok (.iload_n 1, 1) := by decide +kernel
theorem dX9_found_39 : decode cX9_found 39 = .ok (.imul, 1) := by decide +kernel
theorem dX9_found_40 : decode cX9_found 40 = .ok (.iload_n 2, 1) := by decide +kernel
theorem dX9_found_41 : decode cX9_found 41 = .ok (.iadd, 1) := by decide +kernel
theorem dX9_found_42 : decode cX9_found 42 = .ok (.iaload, 1) := by decide +kernel
theorem dX9_found_43 : decode cX9_found 43 = .ok (.if_icmp .eq 7, 3) := by decide +kernel
theorem dX9_found_46 : decode cX9_found 46 = .ok (.iconst 1, 1) := by decide +kernel
theorem dX9_found_47 : decode cX9_found 47 = .ok (.goto 4, 3) := by decide +kernel
theorem dX9_found_50 : decode cX9_found 50 = .ok (.iconst 0, 1) := by decide +kernel
theorem dX9_found_51 : decode cX9_found 51 = .ok (.ireturn, 1) := by decide +kernel
theorem dX9_cut_0 : decode cX9_cut 0 = .ok (.aload_n 0, 1) := by decide +kernel
theorem dX9_cut_1 : decode cX9_cut 1 = .ok (.getfield 71, 3) := by decide +kernel
theorem dX9_cut_4 : decode cX9_cut 4 = .ok (.ifCond .ne 6, 3) := by decide +kernel
theorem dX9_cut_7 : decode cX9_cut 7 = .ok (.bipush (-3), 2) := by decide +kernel
theorem dX9_cut_9 : decode cX9_cut 9 = .ok (.ireturn, 1) := by decide +kernel
theorem dX9_cut_10 : decode cX9_cut 10 = .ok (.aload_n 0, 1) := by decide +kernel
theorem dX9_cut_11 : decode cX9_cut 11 = .ok (.dup, 1) := by decide +kernel
theorem dX9_cut_12 : decode cX9_cut 12 = .ok (.getfield 71, 3) := by decide +kernel
theorem dX9_cut_15 : decode cX9_cut 15 = .ok (.iconst 1, 1) := by decide +kernel
theorem dX9_cut_16 : decode cX9_cut 16 = .ok (.isub, 1) := by decide +kernel
theorem dX9_cut_17 : decode cX9_cut 17 = .ok (.putfield 71, 3) := by decide +kernel
theorem dX9_cut_20 : decode cX9_cut 20 = .ok (.aload_n 0, 1) := by decide +kernel
theorem dX9_cut_21 : decode cX9_cut 21 = .ok (.getfield 71, 3) := by decide +kernel
theorem dX9_cut_24 : decode cX9_cut 24 = .ok (.ireturn, 1) := by decide +kernel
theorem dX9_minutes_0 : decode cX9_minutes 0 = .ok (.aload_n 0, 1) := by decide +kernel
theorem dX9_minutes_1 : decode cX9_minutes 1 = .ok (.iload_n 1, 1) := by decide +kernel
theorem dX9_minutes_2 : decode cX9_minutes 2 = .ok (.iconst 0, 1) := by decide +kernel
theorem dX9_minutes_3 : decode cX9_minutes 3 = .ok (.aload_n 0, 1) := by decide +kernel
theorem dX9_minutes_4 : decode cX9_minutes 4 = .ok (.getfield 71, 3) := by decide +kernel
theorem dX9_minutes_7 : decode cX9_minutes 7 = .ok (.iconst 1, 1) := by decide +kernel
theorem dX9_minutes_8 : decode cX9_minutes 8 = .ok (.isub, 1) := by decide +kernel
theorem dX9_minutes_9 : decode cX9_minutes 9 = .ok (.invokevirtual 137, 3) := by decide +kernel
theorem dX9_minutes_12 : decode cX9_minutes 12 = .ok (.ifCond .eq 12, 3) := by decide +kernel
theorem dX9_minutes_15 : decode cX9_minutes 15 = .ok (.aload_n 0, 1) := by decide +kernel
theorem dX9_minutes_16 : decode cX9_minutes 16 = .ok (.getfield 86, 3) := by decide +kernel
theorem dX9_minutes_19 : decode cX9_minutes 19 = .ok (.iload_n 1, 1) := by decide +kernel
theorem dX9_minutes_20 : decode cX9_minutes 20 = .ok (.iaload, 1) := by decide +kernel
theorem dX9_minutes_21 : decode cX9_minutes 21 = .ok (.goto 4, 3) := by decide +kernel
theorem dX9_minutes_24 : decode cX9_minutes 24 = .ok (.iconst (-1), 1) := by decide +kernel
theorem dX9_minutes_25 : decode cX9_minutes 25 = .ok (.ireturn, 1) := by decide +kernel
theorem dX9_shifts_0 : decode cX9_shifts 0 = .ok (.aload_n 0, 1) := by decide +kernel
theorem dX9_shifts_1 : decode cX9_shifts 1 = .ok (.iload_n 1, 1) := by decide +kernel
theorem dX9_shifts_2 : decode cX9_shifts 2 = .ok (.iconst 0, 1) := by decide +kernel
theorem dX9_shifts_3 : decode cX9_shifts 3 = .ok (.iconst 1, 1) := by decide +kernel
theorem dX9_shifts_4 : decode cX9_shifts 4 = .ok (.invokevirtual 137, 3) := by decide +kernel
theorem dX9_shifts_7 : decode cX9_shifts 7 = .ok (.ifCond .ne 5, 3) := by decide +kernel
theorem dX9_shifts_10 : decode cX9_shifts 10 = .ok (.iconst (-1), 1) := by decide +kernel
theorem dX9_shifts_11 : decode cX9_shifts 11 = .ok (.ireturn, 1) := by decide +kernel
theorem dX9_shifts_12 : decode cX9_shifts 12 = .ok (.iconst 0, 1) := by decide +kernel
theorem dX9_shifts_13 : decode cX9_shifts 13 = .ok (.istore_n 2, 1) := by decide +kernel
theorem dX9_shifts_14 : decode cX9_shifts 14 = .ok (.iconst 0, 1) := by decide +kernel
theorem dX9_shifts_15 : decode cX9_shifts 15 = .ok (.istore_n 3, 1) := by decide +kernel
theorem dX9_shifts_16 : decode cX9_shifts 16 = .ok (.iload_n 3, 1) := by decide +kernel
theorem dX9_shifts_17 : decode cX9_shifts 17 = .ok (.bipush 8, 2) := by decide +kernel
theorem dX9_shifts_19 : decode cX9_shifts 19 = .ok (.if_icmp .ge 120, 3) := by decide +kernel
theorem dX9_shifts_22 : decode cX9_shifts 22 = .ok (.iconst (-1), 1) := by decide +kernel
theorem dX9_shifts_23 : decode cX9_shifts 23 = .ok (.istore 4, 2) := by decide +kernel
theorem dX9_shifts_25 : decode cX9_shifts 25 = .ok (.iconst 0, 1) := by decide +kernel
theorem dX9_shifts_26 : decode cX9_shifts 26 = .ok (.istore 5, 2) := by decide +kernel
theorem dX9_shifts_28 : decode cX9_shifts 28 = .ok (.iload 5, 2) := by decide +kernel
theorem dX9_shifts_30 : decode cX9_shifts 30 = .ok (.aload_n 0, 1) := by decide +kernel
theorem dX9_shifts_31 : decode cX9_shifts 31 = .ok (.getfield 71, 3) := by decide +kernel
theorem dX9_shifts_34 : decode cX9_shifts 34 = .ok (.if_icmp .ge 99, 3) := by decide +kernel
theorem dX9_shifts_37 : decode cX9_shifts 37 = .ok (.iconst 0, 1) := by decide +kernel
theorem dX9_shifts_38 : decode cX9_shifts 38 = .ok (.istore 6, 2) := by decide +kernel
theorem dX9_shifts_40 : decode cX9_shifts 40 = .ok (.iload 6, 2) := by decide +kernel
theorem dX9_shifts_42 : decode cX9_shifts 42 = .ok (.aload_n 0, 1) := by decide +kernel
theorem dX9_shifts_43 : decode cX9_shifts 43 = .ok (.getfield 134, 3) := by decide +kernel
theorem dX9_shifts_46 : decode cX9_shifts 46 = .ok (.if_icmp .ge 81, 3) := by decide +kernel
theorem dX9_shifts_49 : decode cX9_shifts 49 = .ok (.bipush 40, 2) := by decide +kernel
theorem dX9_shifts_51 : decode cX9_shifts 51 = .ok (.iload 5, 2) := by decide +kernel
theorem dX9_shifts_53 : decode cX9_shifts 53 = .ok (.imul, 1) := by decide +kernel
theorem dX9_shifts_54 : decode cX9_shifts 54 = .ok (.iload 6, 2) := by decide +kernel
theorem dX9_shifts_56 : decode cX9_shifts 56 = .ok (.iadd, 1) := by decide +kernel
theorem dX9_shifts_57 : decode cX9_shifts 57 = .ok (.istore 7, 2) := by decide +kernel
theorem dX9_shifts_59 : decode cX9_shifts 59 = .ok (.aload_n 0, 1) := by decide +kernel
theorem dX9_shifts_60 : decode cX9_shifts 60 = .ok (.getfield 74, 3) := by decide +kernel
theorem dX9_shifts_63 : decode cX9_shifts 63 = .ok (.iload 7, 2) := by decide +kernel
theorem dX9_shifts_65 : decode cX9_shifts 65 = .ok (.iaload, 1) := by decide +kernel
theorem dX9_shifts_66 : decode cX9_shifts 66 = .ok (.iload_n 3, 1) := by decide +kernel
theorem dX9_shifts_67 : decode cX9_shifts 67 = .ok (.if_icmp .eq 6, 3) := by decide +kernel
theorem dX9_shifts_70 : decode cX9_shifts 70 = .ok (.goto 51, 3) := by decide +kernel
theorem dX9_shifts_73 : decode cX9_shifts 73 = .ok (.iload_n 2, 1) := by decide +kernel
theorem dX9_shifts_74 : decode cX9_shifts 74 = .ok (.iload 4, 2) := by decide +kernel
theorem dX9_shifts_76 : decode cX9_shifts 76 = .ok (.ifCond .lt 38, 3) := by decide +kernel
theorem dX9_shifts_79 : decode cX9_shifts 79 = .ok (.aload_n 0, 1) := by decide +kernel
theorem dX9_shifts_80 : decode cX9_shifts 80 = .ok (.getfield 80, 3) := by decide +kernel
theorem dX9_shifts_83 : decode cX9_shifts 83 = .ok (.iload 4, 2) := by decide +kernel
theorem dX9_shifts_85 : decode cX9_shifts 85 = .ok (.iaload, 1) := by decide +kernel
theorem dX9_shifts_86 : decode cX9_shifts 86 = .ok (.aload_n 0, 1) := by decide +kernel
theorem dX9_shifts_87 : decode cX9_shifts 87 = .ok (.getfield 80, 3) := by decide +kernel
theorem dX9_shifts_90 : decode cX9_shifts 90 = .ok (.iload 7, 2) := by decide +kernel
theorem dX9_shifts_92 : decode cX9_shifts 92 = .ok (.iaload, 1) := by decide +kernel
theorem dX9_shifts_93 : decode cX9_shifts 93 = .ok (.if_icmp .eq 21, 3) := by decide +kernel
theorem dX9_shifts_96 : decode cX9_shifts 96 = .ok (.iload_n 1, 1) := by decide +kernel
theorem dX9_shifts_97 : decode cX9_shifts 97 = .ok (.ifCond .eq 13, 3) := by decide +kernel
theorem dX9_shifts_100 : decode cX9_shifts 100 = .ok (.iload 4, 2) := by decide +kernel
theorem dX9_shifts_102 : decode cX9_shifts 102 = .ok (.bipush 40, 2) := by decide +kernel
theorem dX9_shifts_104 : decode cX9_shifts 104 = .ok (.idiv, 1) := by decide +kernel
theorem dX9_shifts_105 : decode cX9_shifts 105 = .ok (.iload 5, 2) := by decide +kernel
theorem dX9_shifts_107 : decode cX9_shifts 107 = .ok (.if_icmp .ne 7, 3) := by decide +kernel
theorem dX9_shifts_110 : decode cX9_shifts 110 = .ok (.iconst 1, 1) := by decide +kernel
theorem dX9_shifts_111 : decode cX9_shifts 111 = .ok (.goto 4, 3) := by decide +kernel
theorem dX9_shifts_114 : decode cX9_shifts 114 = .ok (.iconst 0, 1) := by decide +kernel
theorem dX9_shifts_115 : decode cX9_shifts 115 = .ok (.iadd, 1) := by decide +kernel
theorem dX9_shifts_116 : decode cX9_shifts 116 = .ok (.istore_n 2, 1) := by decide +kernel
theorem dX9_shifts_117 : decode cX9_shifts 117 = .ok (.iload 7, 2) := by decide +kernel
theorem dX9_shifts_119 : decode cX9_shifts 119 = .ok (.istore 4, 2) := by decide +kernel
theorem dX9_shifts_121 : decode cX9_shifts 121 = .ok (.iinc 6 1, 3) := by decide +kernel
theorem dX9_shifts_124 : decode cX9_shifts 124 = .ok (.goto (-84), 3) := by decide +kernel
theorem dX9_shifts_127 : decode cX9_shifts 127 = .ok (.iinc 5 1, 3) := by decide +kernel
theorem dX9_shifts_130 : decode cX9_shifts 130 = .ok (.goto (-102), 3) := by decide +kernel
theorem dX9_shifts_133 : decode cX9_shifts 133 = .ok (.iinc 3 1, 3) := by decide +kernel
theorem dX9_shifts_136 : decode cX9_shifts 136 = .ok (.goto (-120), 3) := by decide +kernel
theorem dX9_shifts_139 : decode cX9_shifts 139 = .ok (.iload_n 2, 1) := by decide +kernel
theorem dX9_shifts_140 : decode cX9_shifts 140 = .ok (.ireturn, 1) := by decide +kernel
theorem dX9_wool_0 : decode cX9_wool 0 = .ok (.aload_n 0, 1) := by decide +kernel
theorem dX9_wool_1 : decode cX9_wool 1 = .ok (.iload_n 1, 1) := by decide +kernel
theorem dX9_wool_2 : decode cX9_wool 2 = .ok (.invokevirtual 145, 3) := by decide +kernel
theorem dX9_wool_5 : decode cX9_wool 5 = .ok (.ifCond .eq 11, 3) := by decide +kernel
theorem dX9_wool_8 : decode cX9_wool 8 = .ok (.aload_n 0, 1) := by decide +kernel
theorem dX9_wool_9 : decode cX9_wool 9 = .ok (.iload_n 1, 1) := by decide +kernel
theorem dX9_wool_10 : decode cX9_wool 10 = .ok (.invokevirtual 175, 3) := by decide +kernel
theorem dX9_wool_13 : decode cX9_wool 13 = .ok (.goto 4, 3) := by decide +kernel
theorem dX9_wool_16 : decode cX9_wool 16 = .ok (.iconst (-1), 1) := by decide +kernel
theorem dX9_wool_17 : decode cX9_wool 17 = .ok (.ireturn, 1) := by decide +kernel
theorem dX9_hands_0 : decode cX9_hands 0 = .ok (.aload_n 0, 1) := by decide +kernel
theorem dX9_hands_1 : decode cX9_hands 1 = .ok (.iload_n 1, 1) := by decide +kernel
theorem dX9_hands_2 : decode cX9_hands 2 = .ok (.iconst 0, 1) := by decide +kernel
theorem dX9_hands_3 : decode cX9_hands 3 = .ok (.iconst 5, 1) := by decide +kernel
theorem dX9_hands_4 : decode cX9_hands 4 = .ok (.invokevirtual 137, 3) := by decide +kernel
theorem dX9_hands_7 : decode cX9_hands 7 = .ok (.ifCond .eq 13, 3) := by decide +kernel
theorem dX9_hands_10 : decode cX9_hands 10 = .ok (.aload_n 0, 1) := by decide +kernel
theorem dX9_hands_11 : decode cX9_hands 11 = .ok (.iload_n 2, 1) := by decide +kernel
theorem dX9_hands_12 : decode cX9_hands 12 = .ok (.iconst 0, 1) := by decide +kernel
theorem dX9_hands_13 : decode cX9_hands 13 = .ok (.iconst 2, 1) := by decide +kernel
theorem dX9_hands_14 : decode cX9_hands 14 = .ok (.invokevirtual 137, 3) := by decide +kernel
theorem dX9_hands_17 : decode cX9_hands 17 = .ok (.ifCond .ne 5, 3) := by decide +kernel
theorem dX9_hands_20 : decode cX9_hands 20 = .ok (.iconst (-1), 1) := by decide +kernel
theorem dX9_hands_21 : decode cX9_hands 21 = .ok (.ireturn, 1) := by decide +kernel
theorem dX9_hands_22 : decode cX9_hands 22 = .ok (.iconst 0, 1) := by decide +kernel
theorem dX9_hands_23 : decode cX9_hands 23 = .ok (.istore_n 3, 1) := by decide +kernel
theorem dX9_hands_24 : decode cX9_hands 24 = .ok (.iconst 0, 1) := by decide +kernel
theorem dX9_hands_25 : decode cX9_hands 25 = .ok (.istore 4, 2) := by decide +kernel
theorem dX9_hands_27 : decode cX9_hands 27 = .ok (.iconst 0, 1) := by decide +kernel
theorem dX9_hands_28 : decode cX9_hands 28 = .ok (.istore 5, 2) := by decide +kernel
theorem dX9_hands_30 : decode cX9_hands 30 = .ok (.iload 5, 2) := by decide +kernel
theorem dX9_hands_32 : decode cX9_hands 32 = .ok (.aload_n 0, 1) := by decide +kernel
theorem dX9_hands_33 : decode cX9_hands 33 = .ok (.getfield 71, 3) := by decide +kernel
theorem dX9_hands_36 : decode cX9_hands 36 = .ok (.if_icmp .ge 82, 3) := by decide +kernel
theorem dX9_hands_39 : decode cX9_hands 39 = .ok (.iconst 0, 1) := by decide +kernel
theorem dX9_hands_40 : decode cX9_hands 40 = .ok (.istore 6, 2) := by decide +kernel
theorem dX9_hands_42 : decode cX9_hands 42 = .ok (.iload 6, 2) := by decide +kernel
theorem dX9_hands_44 : decode cX9_hands 44 = .ok (.aload_n 0, 1) := by decide +kernel
theorem dX9_hands_45 : decode cX9_hands 45 = .ok (.getfield 134, 3) := by decide +kernel
theorem dX9_hands_48 : decode cX9_hands 48 = .ok (.if_icmp .ge 64, 3) := by decide +kernel
theorem dX9_hands_51 : decode cX9_hands 51 = .ok (.aload_n 0, 1) := by decide +kernel
theorem dX9_hands_52 : decode cX9_hands 52 = .ok (.iload 6, 2) := by decide +kernel
theorem dX9_hands_54 : decode cX9_hands 54 = .ok (.invokevirtual 178, 3) := by decide +kernel
theorem dX9_hands_57 : decode cX9_hands 57 = .ok (.iload_n 1, 1) := by decide +kernel
theorem dX9_hands_58 : decode cX9_hands 58 = .ok (.if_icmp .eq 6, 3) := by decide +kernel
theorem dX9_hands_61 : decode cX9_hands 61 = .ok (.goto 45, 3) := by decide +kernel
theorem dX9_hands_64 : decode cX9_hands 64 = .ok (.iinc 3 1, 3) := by decide +kernel
theorem dX9_hands_67 : decode cX9_hands 67 = .ok (.iload 4, 2) := by decide +kernel
theorem dX9_hands_69 : decode cX9_hands 69 = .ok (.aload_n 0, 1) := by decide +kernel
theorem dX9_hands_70 : decode cX9_hands 70 = .ok (.getfield 77, 3) := by decide +kernel
theorem dX9_hands_73 : decode cX9_hands 73 = .ok (.bipush 40, 2) := by decide +kernel
theorem dX9_hands_75 : decode cX9_hands 75 = .ok (.iload 5, 2) := by decide +kernel
theorem dX9_hands_77 : decode cX9_hands 77 = .ok (.imul, 1) := by decide +kernel
theorem dX9_hands_78 : decode cX9_hands 78 = .ok (.iload 6, 2) := by decide +kernel
theorem dX9_hands_80 : decode cX9_hands 80 = .ok (.iadd, 1) := by decide +kernel
theorem dX9_hands_81 : decode cX9_hands 81 = .ok (.iaload, 1) := by decide +kernel
theorem dX9_hands_82 : decode cX9_hands 82 = .ok (.aload_n 0, 1) := by decide +kernel
theorem dX9_hands_83 : decode cX9_hands 83 = .ok (.getfield 74, 3) := by decide +kernel
theorem dX9_hands_86 : decode cX9_hands 86 = .ok (.bipush 40, 2) := by decide +kernel
theorem dX9_hands_88 : decode cX9_hands 88 = .ok (.iload 5, 2) := by decide +kernel
theorem dX9_hands_90 : decode cX9_hands 90 = .ok (.imul, 1) := by decide +kernel
theorem dX9_hands_91 : decode cX9_hands 91 = .ok (.iload 6, 2) := by decide +kernel
theorem dX9_hands_93 : decode cX9_hands 93 = .ok (.iadd, 1) := by decide +kernel
theorem dX9_hands_94 : decode cX9_hands 94 = .ok (.iaload, 1) := by decide +kernel
theorem dX9_hands_95 : decode cX9_hands 95 = .ok (.if_icmp .eq 7, 3) := by decide +kernel
theorem dX9_hands_98 : decode cX9_hands 98 = .ok (.iconst 1, 1) := by decide +kernel
theorem dX9_hands_99 : decode cX9_hands 99 = .ok (.goto 4, 3) := by decide +kernel
theorem dX9_hands_102 : decode cX9_hands 102 = .ok (.iconst 0, 1) := by decide +kernel
theorem dX9_hands_103 : decode cX9_hands 103 = .ok (.iadd, 1) := by decide +kernel
theorem dX9_hands_104 : decode cX9_hands 104 = .ok (.istore 4, 2) := by decide +kernel
theorem dX9_hands_106 : decode cX9_hands 106 = .ok (.iinc 6 1, 3) := by decide +kernel
theorem dX9_hands_109 : decode cX9_hands 109 = .ok (.goto (-67), 3) := by decide +kernel
theorem dX9_hands_112 : decode cX9_hands 112 = .ok (.iinc 5 1, 3) := by decide +kernel
theorem dX9_hands_115 : decode cX9_hands 115 = .ok (.goto (-85), 3) := by decide +kernel
theorem dX9_hands_118 : decode cX9_hands 118 = .ok (.iload_n 3, 1) := by decide +kernel
theorem dX9_hands_119 : decode cX9_hands 119 = .ok (.bipush 10, 2) := by decide +kernel
theorem dX9_hands_121 : decode cX9_hands 121 = .ok (.idiv, 1) := by decide +kernel
theorem dX9_hands_122 : decode cX9_hands 122 = .ok (.iconst 5, 1) := by decide +kernel
theorem dX9_hands_123 : decode cX9_hands 123 = .ok (.imul, 1) := by decide +kernel
theorem dX9_hands_124 : decode cX9_hands 124 = .ok (.bipush 20, 2) := by decide +kernel
theorem dX9_hands_126 : decode cX9_hands 126 = .ok (.iload 4, 2) := by decide +kernel
theorem dX9_hands_128 : decode cX9_hands 128 = .ok (.imul, 1) := by decide +kernel
theorem dX9_hands_129 : decode cX9_hands 129 = .ok (.isub, 1) := by decide +kernel
theorem dX9_hands_130 : decode cX9_hands 130 = .ok (.istore 5, 2) := by decide +kernel
theorem dX9_hands_132 : decode cX9_hands 132 = .ok (.iload_n 2, 1) := by decide +kernel
theorem dX9_hands_133 : decode cX9_hands 133 = .ok (.ifCond .ne 7, 3) := by decide +kernel
theorem dX9_hands_136 : decode cX9_hands 136 = .ok (.iload_n 3, 1) := by decide +kernel
theorem dX9_hands_137 : decode cX9_hands 137 = .ok (.goto 24, 3) := by decide +kernel
theorem dX9_hands_140 : decode cX9_hands 140 = .ok (.iload_n 2, 1) := by decide +kernel
theorem dX9_hands_141 : decode cX9_hands 141 = .ok (.iconst 1, 1) := by decide +kernel
theorem dX9_hands_142 : decode cX9_hands 142 = .ok (.if_icmp .ne 8, 3) := by decide +kernel
theorem dX9_hands_145 : decode cX9_hands 145 = .ok (.iload 4, 2) := by decide +kernel
theorem dX9_hands_147 : decode cX9_hands 147 = .ok (.goto 14, 3) := by decide +kernel
theorem dX9_hands_150 : decode cX9_hands 150 = .ok (.iload 5, 2) := by decide +kernel
theorem dX9_hands_152 : decode cX9_hands 152 = .ok (.ifCond .le 8, 3) := by decide +kernel
theorem dX9_hands_155 : decode cX9_hands 155 = .ok (.iload 5, 2) := by decide +kernel
theorem dX9_hands_157 : decode cX9_hands 157 = .ok (.goto 4, 3) := by decide +kernel
theorem dX9_hands_160 : decode cX9_hands 160 = .ok (.iconst 0, 1) := by decide +kernel
theorem dX9_hands_161 : decode cX9_hands 161 = .ok (.ireturn, 1) := by decide +kernel
theorem dX9_unlike_0 : decode cX9_unlike 0 = .ok (.aload_n 0, 1) := by decide +kernel
theorem dX9_unlike_1 : decode cX9_unlike 1 = .ok (.iload_n 1, 1) := by decide +kernel
theorem dX9_unlike_2 : decode cX9_unlike 2 = .ok (.iconst 0, 1) := by decide +kernel
theorem dX9_unlike_3 : decode cX9_unlike 3 = .ok (.aload_n 0, 1) := by decide +kernel
theorem dX9_unlike_4 : decode cX9_unlike 4 = .ok (.getfield 71, 3) := by decide +kernel
theorem dX9_unlike_7 : decode cX9_unlike 7 = .ok (.iconst 1, 1) := by decide +kernel
end
section
theorem dX9_unlike_8 : decode cX9_unlike 8 = .ok (.isub, 1) := by decide +kernel
theorem dX9_unlike_9 : decode cX9_unlike 9 = .ok (.invokevirtual 137, 3) := by decide +kernel
theorem dX9_unlike_12 : decode cX9_unlike 12 = .ok (.ifCond .eq 18, 3) := by decide +kernel
theorem dX9_unlike_15 : decode cX9_unlike 15 = .ok (.aload_n 0, 1) := by decide +kernel
theorem dX9_unlike_16 : decode cX9_unlike 16 = .ok (.iload_n 2, 1) := by decide +kernel
theorem dX9_unlike_17 : decode cX9_unlike 17 = .ok (.iconst (-1), 1) := by decide +kernel
theorem dX9_unlike_18 : decode cX9_unlike 18 = .ok (.aload_n 0, 1) := by decide +kernel
theorem dX9_unlike_19 : decode cX9_unlike 19 = .ok (.getfield 71, 3) := by decide +kernel
theorem dX9_unlike_22 : decode cX9_unlike 22 = .ok (.iconst 1, 1) := by decide +kernel
theorem dX9_unlike_23 : decode cX9_unlike 23 = .ok (.isub, 1) := by decide +kernel
theorem dX9_unlike_24 : decode cX9_unlike 24 = .ok (.invokevirtual 137, 3) := by decide +kernel
theorem dX9_unlike_27 : decode cX9_unlike 27 = .ok (.ifCond .ne 5, 3) := by decide +kernel
theorem dX9_unlike_30 : decode cX9_unlike 30 = .ok (.iconst (-1), 1) := by decide +kernel
theorem dX9_unlike_31 : decode cX9_unlike 31 = .ok (.ireturn, 1) := by decide +kernel
theorem dX9_unlike_32 : decode cX9_unlike 32 = .ok (.iconst 0, 1) := by decide +kernel
theorem dX9_unlike_33 : decode cX9_unlike 33 = .ok (.istore_n 3, 1) := by decide +kernel
theorem dX9_unlike_34 : decode cX9_unlike 34 = .ok (.iconst 0, 1) := by decide +kernel
theorem dX9_unlike_35 : decode cX9_unlike 35 = .ok (.istore 4, 2) := by decide +kernel
theorem dX9_unlike_37 : decode cX9_unlike 37 = .ok (.iload 4, 2) := by decide +kernel
theorem dX9_unlike_39 : decode cX9_unlike 39 = .ok (.aload_n 0, 1) := by decide +kernel
theorem dX9_unlike_40 : decode cX9_unlike 40 = .ok (.getfield 134, 3) := by decide +kernel
theorem dX9_unlike_43 : decode cX9_unlike 43 = .ok (.if_icmp .ge 70, 3) := by decide +kernel
theorem dX9_unlike_46 : decode cX9_unlike 46 = .ok (.iload_n 3, 1) := by decide +kernel
theorem dX9_unlike_47 : decode cX9_unlike 47 = .ok (.aload_n 0, 1) := by decide +kernel
theorem dX9_unlike_48 : decode cX9_unlike 48 = .ok (.getfield 77, 3) := by decide +kernel
theorem dX9_unlike_51 : decode cX9_unlike 51 = .ok (.bipush 40, 2) := by decide +kernel
theorem dX9_unlike_53 : decode cX9_unlike 53 = .ok (.iload_n 1, 1) := by decide +kernel
theorem dX9_unlike_54 : decode cX9_unlike 54 = .ok (.imul, 1) := by decide +kernel
theorem dX9_unlike_55 : decode cX9_unlike 55 = .ok (.iload 4, 2) := by decide +kernel
theorem dX9_unlike_57 : decode cX9_unlike 57 = .ok (.iadd, 1) := by decide +kernel
theorem dX9_unlike_58 : decode cX9_unlike 58 = .ok (.iaload, 1) := by decide +kernel
theorem dX9_unlike_59 : decode cX9_unlike 59 = .ok (.iload_n 2, 1) := by decide +kernel
theorem dX9_unlike_60 : decode cX9_unlike 60 = .ok (.ifCond .ge 25, 3) := by decide +kernel
theorem dX9_unlike_63 : decode cX9_unlike 63 = .ok (.aload_n 0, 1) := by decide +kernel
theorem dX9_unlike_64 : decode cX9_unlike 64 = .ok (.getfield 77, 3) := by decide +kernel
theorem dX9_unlike_67 : decode cX9_unlike 67 = .ok (.bipush 40, 2) := by decide +kernel
theorem dX9_unlike_69 : decode cX9_unlike 69 = .ok (.iload_n 1, 1) := by decide +kernel
theorem dX9_unlike_70 : decode cX9_unlike 70 = .ok (.imul, 1) := by decide +kernel
theorem dX9_unlike_71 : decode cX9_unlike 71 = .ok (.aload_n 0, 1) := by decide +kernel
theorem dX9_unlike_72 : decode cX9_unlike 72 = .ok (.getfield 134, 3) := by decide +kernel
theorem dX9_unlike_75 : decode cX9_unlike 75 = .ok (.iadd, 1) := by decide +kernel
theorem dX9_unlike_76 : decode cX9_unlike 76 = .ok (.iconst 1, 1) := by decide +kernel
theorem dX9_unlike_77 : decode cX9_unlike 77 = .ok (.isub, 1) := by decide +kernel
theorem dX9_unlike_78 : decode cX9_unlike 78 = .ok (.iload 4, 2) := by decide +kernel
theorem dX9_unlike_80 : decode cX9_unlike 80 = .ok (.isub, 1) := by decide +kernel
theorem dX9_unlike_81 : decode cX9_unlike 81 = .ok (.iaload, 1) := by decide +kernel
theorem dX9_unlike_82 : decode cX9_unlike 82 = .ok (.goto 15, 3) := by decide +kernel
theorem dX9_unlike_85 : decode cX9_unlike 85 = .ok (.aload_n 0, 1) := by decide +kernel
theorem dX9_unlike_86 : decode cX9_unlike 86 = .ok (.getfield 77, 3) := by decide +kernel
theorem dX9_unlike_89 : decode cX9_unlike 89 = .ok (.bipush 40, 2) := by decide +kernel
theorem dX9_unlike_91 : decode cX9_unlike 91 = .ok (.iload_n 2, 1) := by decide +kernel
theorem dX9_unlike_92 : decode cX9_unlike 92 = .ok (.imul, 1) := by decide +kernel
theorem dX9_unlike_93 : decode cX9_unlike 93 = .ok (.iload 4, 2) := by decide +kernel
theorem dX9_unlike_95 : decode cX9_unlike 95 = .ok (.iadd, 1) := by decide +kernel
theorem dX9_unlike_96 : decode cX9_unlike 96 = .ok (.iaload, 1) := by decide +kernel
theorem dX9_unlike_97 : decode cX9_unlike 97 = .ok (.if_icmp .eq 7, 3) := by decide +kernel
theorem dX9_unlike_100 : decode cX9_unlike 100 = .ok (.iconst 1, 1) := by decide +kernel
theorem dX9_unlike_101 : decode cX9_unlike 101 = .ok (.goto 4, 3) := by decide +kernel
theorem dX9_unlike_104 : decode cX9_unlike 104 = .ok (.iconst 0, 1) := by decide +kernel
theorem dX9_unlike_105 : decode cX9_unlike 105 = .ok (.iadd, 1) := by decide +kernel
theorem dX9_unlike_106 : decode cX9_unlike 106 = .ok (.istore_n 3, 1) := by decide +kernel
theorem dX9_unlike_107 : decode cX9_unlike 107 = .ok (.iinc 4 1, 3) := by decide +kernel
theorem dX9_unlike_110 : decode cX9_unlike 110 = .ok (.goto (-73), 3) := by decide +kernel
theorem dX9_unlike_113 : decode cX9_unlike 113 = .ok (.iload_n 3, 1) := by decide +kernel
theorem dX9_unlike_114 : decode cX9_unlike 114 = .ok (.ireturn, 1) := by decide +kernel
theorem dX9_areUnits_0 : decode cX9_areUnits 0 = .ok (.aload_n 0, 1) := by decide +kernel
theorem dX9_areUnits_1 : decode cX9_areUnits 1 = .ok (.iload_n 1, 1) := by decide +kernel
theorem dX9_areUnits_2 : decode cX9_areUnits 2 = .ok (.iconst 1, 1) := by decide +kernel
theorem dX9_areUnits_3 : decode cX9_areUnits 3 = .ok (.bipush 40, 2) := by decide +kernel
theorem dX9_areUnits_5 : decode cX9_areUnits 5 = .ok (.invokevirtual 137, 3) := by decide +kernel
theorem dX9_areUnits_8 : decode cX9_areUnits 8 = .ok (.ifCond .eq 23, 3) := by decide +kernel
theorem dX9_areUnits_11 : decode cX9_areUnits 11 = .ok (.aload_n 0, 1) := by decide +kernel
theorem dX9_areUnits_12 : decode cX9_areUnits 12 = .ok (.iload_n 2, 1) := by decide +kernel
theorem dX9_areUnits_13 : decode cX9_areUnits 13 = .ok (.iconst 1, 1) := by decide +kernel
theorem dX9_areUnits_14 : decode cX9_areUnits 14 = .ok (.bipush 40, 2) := by decide +kernel
theorem dX9_areUnits_16 : decode cX9_areUnits 16 = .ok (.invokevirtual 137, 3) := by decide +kernel
theorem dX9_areUnits_19 : decode cX9_areUnits 19 = .ok (.ifCond .eq 12, 3) := by decide +kernel
theorem dX9_areUnits_22 : decode cX9_areUnits 22 = .ok (.iload_n 1, 1) := by decide +kernel
theorem dX9_areUnits_23 : decode cX9_areUnits 23 = .ok (.iload_n 2, 1) := by decide +kernel
theorem dX9_areUnits_24 : decode cX9_areUnits 24 = .ok (.if_icmp .eq 7, 3) := by decide +kernel
theorem dX9_areUnits_27 : decode cX9_areUnits 27 = .ok (.iconst 1, 1) := by decide +kernel
theorem dX9_areUnits_28 : decode cX9_areUnits 28 = .ok (.goto 4, 3) := by decide +kernel
theorem dX9_areUnits_31 : decode cX9_areUnits 31 = .ok (.iconst 0, 1) := by decide +kernel
theorem dX9_areUnits_32 : decode cX9_areUnits 32 = .ok (.ireturn, 1) := by decide +kernel
theorem dX9_wayOf_0 : decode cX9_wayOf 0 = .ok (.bipush (-4), 2) := by decide +kernel
theorem dX9_wayOf_2 : decode cX9_wayOf 2 = .ok (.istore 4, 2) := by decide +kernel
theorem dX9_wayOf_4 : decode cX9_wayOf 4 = .ok (.sipush 1000, 3) := by decide +kernel
theorem dX9_wayOf_7 : decode cX9_wayOf 7 = .ok (.istore 5, 2) := by decide +kernel
theorem dX9_wayOf_9 : decode cX9_wayOf 9 = .ok (.iload_n 1, 1) := by decide +kernel
theorem dX9_wayOf_10 : decode cX9_wayOf 10 = .ok (.iload_n 2, 1) := by decide +kernel
theorem dX9_wayOf_11 : decode cX9_wayOf 11 = .ok (.idiv, 1) := by decide +kernel
theorem dX9_wayOf_12 : decode cX9_wayOf 12 = .ok (.istore 6, 2) := by decide +kernel
theorem dX9_wayOf_14 : decode cX9_wayOf 14 = .ok (.iload 6, 2) := by decide +kernel
theorem dX9_wayOf_16 : decode cX9_wayOf 16 = .ok (.ifCond .lt 61, 3) := by decide +kernel
theorem dX9_wayOf_19 : decode cX9_wayOf 19 = .ok (.iload_n 1, 1) := by decide +kernel
theorem dX9_wayOf_20 : decode cX9_wayOf 20 = .ok (.iload 6, 2) := by decide +kernel
theorem dX9_wayOf_22 : decode cX9_wayOf 22 = .ok (.iload_n 2, 1) := by decide +kernel
theorem dX9_wayOf_23 : decode cX9_wayOf 23 = .ok (.imul, 1) := by decide +kernel
theorem dX9_wayOf_24 : decode cX9_wayOf 24 = .ok (.isub, 1) := by decide +kernel
theorem dX9_wayOf_25 : decode cX9_wayOf 25 = .ok (.istore 7, 2) := by decide +kernel
theorem dX9_wayOf_27 : decode cX9_wayOf 27 = .ok (.iload 7, 2) := by decide +kernel
theorem dX9_wayOf_29 : decode cX9_wayOf 29 = .ok (.iload_n 3, 1) := by decide +kernel
theorem dX9_wayOf_30 : decode cX9_wayOf 30 = .ok (.irem, 1) := by decide +kernel
theorem dX9_wayOf_31 : decode cX9_wayOf 31 = .ok (.ifCond .ne 40, 3) := by decide +kernel
theorem dX9_wayOf_34 : decode cX9_wayOf 34 = .ok (.iload 6, 2) := by decide +kernel
theorem dX9_wayOf_36 : decode cX9_wayOf 36 = .ok (.iload 7, 2) := by decide +kernel
theorem dX9_wayOf_38 : decode cX9_wayOf 38 = .ok (.iload_n 3, 1) := by decide +kernel
theorem dX9_wayOf_39 : decode cX9_wayOf 39 = .ok (.idiv, 1) := by decide +kernel
theorem dX9_wayOf_40 : decode cX9_wayOf 40 = .ok (.iadd, 1) := by decide +kernel
theorem dX9_wayOf_41 : decode cX9_wayOf 41 = .ok (.iload 5, 2) := by decide +kernel
theorem dX9_wayOf_43 : decode cX9_wayOf 43 = .ok (.if_icmp .lt 6, 3) := by decide +kernel
theorem dX9_wayOf_46 : decode cX9_wayOf 46 = .ok (.goto 25, 3) := by decide +kernel
theorem dX9_wayOf_49 : decode cX9_wayOf 49 = .ok (.iload 6, 2) := by decide +kernel
theorem dX9_wayOf_51 : decode cX9_wayOf 51 = .ok (.iload 7, 2) := by decide +kernel
theorem dX9_wayOf_53 : decode cX9_wayOf 53 = .ok (.iload_n 3, 1) := by decide +kernel
theorem dX9_wayOf_54 : decode cX9_wayOf 54 = .ok (.idiv, 1) := by decide +kernel
theorem dX9_wayOf_55 : decode cX9_wayOf 55 = .ok (.iadd, 1) := by decide +kernel
theorem dX9_wayOf_56 : decode cX9_wayOf 56 = .ok (.istore 5, 2) := by decide +kernel
theorem dX9_wayOf_58 : decode cX9_wayOf 58 = .ok (.sipush 1000, 3) := by decide +kernel
theorem dX9_wayOf_61 : decode cX9_wayOf 61 = .ok (.iload 6, 2) := by decide +kernel
theorem dX9_wayOf_63 : decode cX9_wayOf 63 = .ok (.imul, 1) := by decide +kernel
theorem dX9_wayOf_64 : decode cX9_wayOf 64 = .ok (.iload 7, 2) := by decide +kernel
theorem dX9_wayOf_66 : decode cX9_wayOf 66 = .ok (.iload_n 3, 1) := by decide +kernel
theorem dX9_wayOf_67 : decode cX9_wayOf 67 = .ok (.idiv, 1) := by decide +kernel
theorem dX9_wayOf_68 : decode cX9_wayOf 68 = .ok (.iadd, 1) := by decide +kernel
theorem dX9_wayOf_69 : decode cX9_wayOf 69 = .ok (.istore 4, 2) := by decide +kernel
theorem dX9_wayOf_71 : decode cX9_wayOf 71 = .ok (.iinc 6 (-1), 3) := by decide +kernel
theorem dX9_wayOf_74 : decode cX9_wayOf 74 = .ok (.goto (-60), 3) := by decide +kernel
theorem dX9_wayOf_77 : decode cX9_wayOf 77 = .ok (.iload 4, 2) := by decide +kernel
theorem dX9_wayOf_79 : decode cX9_wayOf 79 = .ok (.ireturn, 1) := by decide +kernel
theorem dX9_side_0 : decode cX9_side 0 = .ok (.aload_n 0, 1) := by decide +kernel
theorem dX9_side_1 : decode cX9_side 1 = .ok (.iload_n 1, 1) := by decide +kernel
theorem dX9_side_2 : decode cX9_side 2 = .ok (.iconst 1, 1) := by decide +kernel
theorem dX9_side_3 : decode cX9_side 3 = .ok (.sipush 400, 3) := by decide +kernel
theorem dX9_side_6 : decode cX9_side 6 = .ok (.invokevirtual 137, 3) := by decide +kernel
theorem dX9_side_9 : decode cX9_side 9 = .ok (.ifCond .eq 22, 3) := by decide +kernel
theorem dX9_side_12 : decode cX9_side 12 = .ok (.aload_n 0, 1) := by decide +kernel
theorem dX9_side_13 : decode cX9_side 13 = .ok (.iload_n 2, 1) := by decide +kernel
theorem dX9_side_14 : decode cX9_side 14 = .ok (.iload_n 3, 1) := by decide +kernel
theorem dX9_side_15 : decode cX9_side 15 = .ok (.invokevirtual 195, 3) := by decide +kernel
theorem dX9_side_18 : decode cX9_side 18 = .ok (.ifCond .eq 13, 3) := by decide +kernel
theorem dX9_side_21 : decode cX9_side 21 = .ok (.aload_n 0, 1) := by decide +kernel
theorem dX9_side_22 : decode cX9_side 22 = .ok (.iload_n 1, 1) := by decide +kernel
theorem dX9_side_23 : decode cX9_side 23 = .ok (.iload_n 2, 1) := by decide +kernel
theorem dX9_side_24 : decode cX9_side 24 = .ok (.iload_n 3, 1) := by decide +kernel
theorem dX9_side_25 : decode cX9_side 25 = .ok (.invokevirtual 198, 3) := by decide +kernel
theorem dX9_side_28 : decode cX9_side 28 = .ok (.goto 4, 3) := by decide +kernel
theorem dX9_side_31 : decode cX9_side 31 = .ok (.iconst (-1), 1) := by decide +kernel
theorem dX9_side_32 : decode cX9_side 32 = .ok (.ireturn, 1) := by decide +kernel
theorem dX9_meets_0 : decode cX9_meets 0 = .ok (.iload_n 1, 1) := by decide +kernel
theorem dX9_meets_1 : decode cX9_meets 1 = .ok (.sipush 1000, 3) := by decide +kernel
theorem dX9_meets_4 : decode cX9_meets 4 = .ok (.irem, 1) := by decide +kernel
theorem dX9_meets_5 : decode cX9_meets 5 = .ok (.ifCond .le 7, 3) := by decide +kernel
theorem dX9_meets_8 : decode cX9_meets 8 = .ok (.iconst 1, 1) := by decide +kernel
theorem dX9_meets_9 : decode cX9_meets 9 = .ok (.goto 4, 3) := by decide +kernel
theorem dX9_meets_12 : decode cX9_meets 12 = .ok (.iconst 0, 1) := by decide +kernel
theorem dX9_meets_13 : decode cX9_meets 13 = .ok (.iload_n 2, 1) := by decide +kernel
theorem dX9_meets_14 : decode cX9_meets 14 = .ok (.sipush 1000, 3) := by decide +kernel
theorem dX9_meets_17 : decode cX9_meets 17 = .ok (.idiv, 1) := by decide +kernel
theorem dX9_meets_18 : decode cX9_meets 18 = .ok (.ifCond .le 7, 3) := by decide +kernel
theorem dX9_meets_21 : decode cX9_meets 21 = .ok (.iconst 1, 1) := by decide +kernel
theorem dX9_meets_22 : decode cX9_meets 22 = .ok (.goto 4, 3) := by decide +kernel
theorem dX9_meets_25 : decode cX9_meets 25 = .ok (.iconst 0, 1) := by decide +kernel
theorem dX9_meets_26 : decode cX9_meets 26 = .ok (.if_icmp .eq 7, 3) := by decide +kernel
theorem dX9_meets_29 : decode cX9_meets 29 = .ok (.iconst 1, 1) := by decide +kernel
theorem dX9_meets_30 : decode cX9_meets 30 = .ok (.goto 4, 3) := by decide +kernel
theorem dX9_meets_33 : decode cX9_meets 33 = .ok (.iconst 0, 1) := by decide +kernel
theorem dX9_meets_34 : decode cX9_meets 34 = .ok (.ireturn, 1) := by decide +kernel
theorem dX9_corner_0 : decode cX9_corner 0 = .ok (.aload_n 0, 1) := by decide +kernel
theorem dX9_corner_1 : decode cX9_corner 1 = .ok (.iload_n 1, 1) := by decide +kernel
theorem dX9_corner_2 : decode cX9_corner 2 = .ok (.iconst 1, 1) := by decide +kernel
theorem dX9_corner_3 : decode cX9_corner 3 = .ok (.sipush 400, 3) := by decide +kernel
theorem dX9_corner_6 : decode cX9_corner 6 = .ok (.invokevirtual 137, 3) := by decide +kernel
theorem dX9_corner_9 : decode cX9_corner 9 = .ok (.ifCond .eq 25, 3) := by decide +kernel
theorem dX9_corner_12 : decode cX9_corner 12 = .ok (.aload_n 0, 1) := by decide +kernel
theorem dX9_corner_13 : decode cX9_corner 13 = .ok (.iload_n 2, 1) := by decide +kernel
theorem dX9_corner_14 : decode cX9_corner 14 = .ok (.iconst 1, 1) := by decide +kernel
theorem dX9_corner_15 : decode cX9_corner 15 = .ok (.sipush 400, 3) := by decide +kernel
theorem dX9_corner_18 : decode cX9_corner 18 = .ok (.invokevirtual 137, 3) := by decide +kernel
theorem dX9_corner_21 : decode cX9_corner 21 = .ok (.ifCond .eq 13, 3) := by decide +kernel
theorem dX9_corner_24 : decode cX9_corner 24 = .ok (.aload_n 0, 1) := by decide +kernel
theorem dX9_corner_25 : decode cX9_corner 25 = .ok (.iload_n 3, 1) := by decide +kernel
theorem dX9_corner_26 : decode cX9_corner 26 = .ok (.iload 4, 2) := by decide +kernel
theorem dX9_corner_28 : decode cX9_corner 28 = .ok (.invokevirtual 195, 3) := by decide +kernel
theorem dX9_corner_31 : decode cX9_corner 31 = .ok (.ifCond .ne 5, 3) := by decide +kernel
theorem dX9_corner_34 : decode cX9_corner 34 = .ok (.iconst (-1), 1) := by decide +kernel
theorem dX9_corner_35 : decode cX9_corner 35 = .ok (.ireturn, 1) := by decide +kernel
theorem dX9_corner_36 : decode cX9_corner 36 = .ok (.aload_n 0, 1) := by decide +kernel
theorem dX9_corner_37 : decode cX9_corner 37 = .ok (.iload_n 1, 1) := by decide +kernel
theorem dX9_corner_38 : decode cX9_corner 38 = .ok (.iload_n 3, 1) := by decide +kernel
theorem dX9_corner_39 : decode cX9_corner 39 = .ok (.iload 4, 2) := by decide +kernel
theorem dX9_corner_41 : decode cX9_corner 41 = .ok (.invokevirtual 198, 3) := by decide +kernel
theorem dX9_corner_44 : decode cX9_corner 44 = .ok (.istore 5, 2) := by decide +kernel
theorem dX9_corner_46 : decode cX9_corner 46 = .ok (.aload_n 0, 1) := by decide +kernel
theorem dX9_corner_47 : decode cX9_corner 47 = .ok (.iload_n 2, 1) := by decide +kernel
theorem dX9_corner_48 : decode cX9_corner 48 = .ok (.iload_n 3, 1) := by decide +kernel
theorem dX9_corner_49 : decode cX9_corner 49 = .ok (.iload 4, 2) := by decide +kernel
theorem dX9_corner_51 : decode cX9_corner 51 = .ok (.invokevirtual 198, 3) := by decide +kernel
theorem dX9_corner_54 : decode cX9_corner 54 = .ok (.istore 6, 2) := by decide +kernel
theorem dX9_corner_56 : decode cX9_corner 56 = .ok (.iload 5, 2) := by decide +kernel
theorem dX9_corner_58 : decode cX9_corner 58 = .ok (.ifCond .lt 8, 3) := by decide +kernel
theorem dX9_corner_61 : decode cX9_corner 61 = .ok (.iload 6, 2) := by decide +kernel
theorem dX9_corner_63 : decode cX9_corner 63 = .ok (.ifCond .ge 8, 3) := by decide +kernel
theorem dX9_corner_66 : decode cX9_corner 66 = .ok (.bipush (-4), 2) := by decide +kernel
theorem dX9_corner_68 : decode cX9_corner 68 = .ok (.goto 19, 3) := by decide +kernel
theorem dX9_corner_71 : decode cX9_corner 71 = .ok (.aload_n 0, 1) := by decide +kernel
theorem dX9_corner_72 : decode cX9_corner 72 = .ok (.iload 5, 2) := by decide +kernel
theorem dX9_corner_74 : decode cX9_corner 74 = .ok (.iload 6, 2) := by decide +kernel
theorem dX9_corner_76 : decode cX9_corner 76 = .ok (.invokevirtual 202, 3) := by decide +kernel
theorem dX9_corner_79 : decode cX9_corner 79 = .ok (.ifCond .eq 7, 3) := by decide +kernel
theorem dX9_corner_82 : decode cX9_corner 82 = .ok (.iconst 1, 1) := by decide +kernel
theorem dX9_corner_83 : decode cX9_corner 83 = .ok (.goto 4, 3) := by decide +kernel
theorem dX9_corner_86 : decode cX9_corner 86 = .ok (.iconst 0, 1) := by decide +kernel
theorem dX9_corner_87 : decode cX9_corner 87 = .ok (.ireturn, 1) := by decide +kernel
theorem dX9_fits_0 : decode cX9_fits 0 = .ok (.aload_n 0, 1) := by decide +kernel
theorem dX9_fits_1 : decode cX9_fits 1 = .ok (.iload_n 1, 1) := by decide +kernel
theorem dX9_fits_2 : decode cX9_fits 2 = .ok (.iconst 1, 1) := by decide +kernel
theorem dX9_fits_3 : decode cX9_fits 3 = .ok (.sipush 400, 3) := by decide +kernel
theorem dX9_fits_6 : decode cX9_fits 6 = .ok (.invokevirtual 137, 3) := by decide +kernel
theorem dX9_fits_9 : decode cX9_fits 9 = .ok (.ifCond .eq 12, 3) := by decide +kernel
theorem dX9_fits_12 : decode cX9_fits 12 = .ok (.aload_n 0, 1) := by decide +kernel
theorem dX9_fits_13 : decode cX9_fits 13 = .ok (.iload_n 2, 1) := by decide +kernel
theorem dX9_fits_14 : decode cX9_fits 14 = .ok (.iload_n 3, 1) := by decide +kernel
theorem dX9_fits_15 : decode cX9_fits 15 = .ok (.invokevirtual 195, 3) := by decide +kernel
theorem dX9_fits_18 : decode cX9_fits 18 = .ok (.ifCond .ne 5, 3) := by decide +kernel
theorem dX9_fits_21 : decode cX9_fits 21 = .ok (.iconst (-1), 1) := by decide +kernel
theorem dX9_fits_22 : decode cX9_fits 22 = .ok (.ireturn, 1) := by decide +kernel
theorem dX9_fits_23 : decode cX9_fits 23 = .ok (.iload_n 1, 1) := by decide +kernel
theorem dX9_fits_24 : decode cX9_fits 24 = .ok (.istore 4, 2) := by decide +kernel
theorem dX9_fits_26 : decode cX9_fits 26 = .ok (.iload 4, 2) := by decide +kernel
theorem dX9_fits_28 : decode cX9_fits 28 = .ok (.sipush 400, 3) := by decide +kernel
theorem dX9_fits_31 : decode cX9_fits 31 = .ok (.if_icmp .gt 38, 3) := by decide +kernel
theorem dX9_fits_34 : decode cX9_fits 34 = .ok (.aload_n 0, 1) := by decide +kernel
theorem dX9_fits_35 : decode cX9_fits 35 = .ok (.iload 4, 2) := by decide +kernel
theorem dX9_fits_37 : decode cX9_fits 37 = .ok (.iload_n 2, 1) := by decide +kernel
theorem dX9_fits_38 : decode cX9_fits 38 = .ok (.iload_n 3, 1) := by decide +kernel
theorem dX9_fits_39 : decode cX9_fits 39 = .ok (.invokevirtual 198, 3) := by decide +kernel
theorem dX9_fits_42 : decode cX9_fits 42 = .ok (.istore 5, 2) := by decide +kernel
theorem dX9_fits_44 : decode cX9_fits 44 = .ok (.iload 5, 2) := by decide +kernel
theorem dX9_fits_46 : decode cX9_fits 46 = .ok (.ifCond .lt 17, 3) := by decide +kernel
theorem dX9_fits_49 : decode cX9_fits 49 = .ok (.aload_n 0, 1) := by decide +kernel
theorem dX9_fits_50 : decode cX9_fits 50 = .ok (.iload 5, 2) := by decide +kernel
theorem dX9_fits_52 : decode cX9_fits 52 = .ok (.iload 5, 2) := by decide +kernel
theorem dX9_fits_54 : decode cX9_fits 54 = .ok (.invokevirtual 202, 3) := by decide +kernel
theorem dX9_fits_57 : decode cX9_fits 57 = .ok (.ifCond .eq 6, 3) := by decide +kernel
theorem dX9_fits_60 : decode cX9_fits 60 = .ok (.iload 4, 2) := by decide +kernel
theorem dX9_fits_62 : decode cX9_fits 62 = .ok (.ireturn, 1) := by decide +kernel
theorem dX9_fits_63 : decode cX9_fits 63 = .ok (.iinc 4 1, 3) := by decide +kernel
theorem dX9_fits_66 : decode cX9_fits 66 = .ok (.goto (-40), 3) := by decide +kernel
theorem dX9_fits_69 : decode cX9_fits 69 = .ok (.bipush (-4), 2) := by decide +kernel
theorem dX9_fits_71 : decode cX9_fits 71 = .ok (.ireturn, 1) := by decide +kernel
theorem dX9_village_0 : decode cX9_village 0 = .ok (.aload_n 0, 1) := by decide +kernel
theorem dX9_village_1 : decode cX9_village 1 = .ok (.iload_n 1, 1) := by decide +kernel
theorem dX9_village_2 : decode cX9_village 2 = .ok (.iconst 0, 1) := by decide +kernel
theorem dX9_village_3 : decode cX9_village 3 = .ok (.sipush 255, 3) := by decide +kernel
theorem dX9_village_6 : decode cX9_village 6 = .ok (.invokevirtual 137, 3) := by decide +kernel
theorem dX9_village_9 : decode cX9_village 9 = .ok (.ifCond .ne 5, 3) := by decide +kernel
theorem dX9_village_12 : decode cX9_village 12 = .ok (.iconst (-1), 1) := by decide +kernel
theorem dX9_village_13 : decode cX9_village 13 = .ok (.ireturn, 1) := by decide +kernel
theorem dX9_village_14 : decode cX9_village 14 = .ok (.aload_n 0, 1) := by decide +kernel
theorem dX9_village_15 : decode cX9_village 15 = .ok (.getfield 89, 3) := by decide +kernel
theorem dX9_village_18 : decode cX9_village 18 = .ok (.bipush 8, 2) := by decide +kernel
theorem dX9_village_20 : decode cX9_village 20 = .ok (.if_icmp .ne 6, 3) := by decide +kernel
theorem dX9_village_23 : decode cX9_village 23 = .ok (.bipush (-2), 2) := by decide +kernel
theorem dX9_village_25 : decode cX9_village 25 = .ok (.ireturn, 1) := by decide +kernel
theorem dX9_village_26 : decode cX9_village 26 = .ok (.aload_n 0, 1) := by decide +kernel
theorem dX9_village_27 : decode cX9_village 27 = .ok (.getfield 98, 3) := by decide +kernel
theorem dX9_village_30 : decode cX9_village 30 = .ok (.aload_n 0, 1) := by decide +kernel
theorem dX9_village_31 : decode cX9_village 31 = .ok (.getfield 89, 3) := by decide +kernel
theorem dX9_village_34 : decode cX9_village 34 = .ok (.iload_n 1, 1) := by decide +kernel
theorem dX9_village_35 : decode cX9_village 35 = .ok (.iastore, 1) := by decide +kernel
theorem dX9_village_36 : decode cX9_village 36 = .ok (.aload_n 0, 1) := by decide +kernel
theorem dX9_village_37 : decode cX9_village 37 = .ok (.dup, 1) := by decide +kernel
theorem dX9_village_38 : decode cX9_village 38 = .ok (.getfield 89, 3) := by decide +kernel
theorem dX9_village_41 : decode cX9_village 41 = .ok (.iconst 1, 1) := by decide +kernel
theorem dX9_village_42 : decode cX9_village 42 = .ok (.iadd, 1) := by decide +kernel
theorem dX9_village_43 : decode cX9_village 43 = .ok (.putfield 89, 3) := by decide +kernel
theorem dX9_village_46 : decode cX9_village 46 = .ok (.aload_n 0, 1) := by decide +kernel
theorem dX9_village_47 : decode cX9_village 47 = .ok (.getfield 89, 3) := by decide +kernel
theorem dX9_village_50 : decode cX9_village 50 = .ok (.iconst 1, 1) := by decide +kernel
theorem dX9_village_51 : decode cX9_village 51 = .ok (.isub, 1) := by decide +kernel
theorem dX9_village_52 : decode cX9_village 52 = .ok (.ireturn, 1) := by decide +kernel
theorem dX9_apart_0 : decode cX9_apart 0 = .ok (.iconst 0, 1) := by decide +kernel
theorem dX9_apart_1 : decode cX9_apart 1 = .ok (.istore_n 3, 1) := by decide +kernel
theorem dX9_apart_2 : decode cX9_apart 2 = .ok (.iconst 0, 1) := by decide +kernel
theorem dX9_apart_3 : decode cX9_apart 3 = .ok (.istore 4, 2) := by decide +kernel
theorem dX9_apart_5 : decode cX9_apart 5 = .ok (.iload 4, 2) := by decide +kernel
theorem dX9_apart_7 : decode cX9_apart 7 = .ok (.bipush 8, 2) := by decide +kernel
theorem dX9_apart_9 : decode cX9_apart 9 = .ok (.if_icmp .ge 30, 3) := by decide +kernel
theorem dX9_apart_12 : decode cX9_apart 12 = .ok (.iload_n 3, 1) := by decide +kernel
theorem dX9_apart_13 : decode cX9_apart 13 = .ok (.aload_n 0, 1) := by decide +kernel
theorem dX9_apart_14 : decode cX9_apart 14 = .ok (.getfield 98, 3) := by decide +kernel
theorem dX9_apart_17 : decode cX9_apart 17 = .ok (.iload_n 1, 1) := by decide +kernel
theorem dX9_apart_18 : decode cX9_apart 18 = .ok (.iaload, 1) := by decide +kernel
theorem dX9_apart_19 : decode cX9_apart 19 = .ok (.aload_n 0, 1) := by decide +kernel
theorem dX9_apart_20 : decode cX9_apart 20 = .ok (.getfield 98, 3) := by decide +kernel
theorem dX9_apart_23 : decode cX9_apart 23 = .ok (.iload_n 2, 1) := by decide +kernel
theorem dX9_apart_24 : decode cX9_apart 24 = .ok (.iaload, 1) := by decide +kernel
theorem dX9_apart_25 : decode cX9_apart 25 = .ok (.ixor, 1) := by decide +kernel
theorem dX9_apart_26 : decode cX9_apart 26 = .ok (.iload 4, 2) := by decide +kernel
theorem dX9_apart_28 : decode cX9_apart 28 = .ok (.ishr, 1) := by decide +kernel
theorem dX9_apart_29 : decode cX9_apart 29 = .ok (.iconst 1, 1) := by decide +kernel
theorem dX9_apart_30 : decode cX9_apart 30 = .ok (.iand, 1) := by decide +kernel
theorem dX9_apart_31 : decode cX9_apart 31 = .ok (.iadd, 1) := by decide +kernel
theorem dX9_apart_32 : decode cX9_apart 32 = .ok (.istore_n 3, 1) := by decide +kernel
theorem dX9_apart_33 : decode cX9_apart 33 = .ok (.iinc 4 1, 3) := by decide +kernel
theorem dX9_apart_36 : decode cX9_apart 36 = .ok (.goto (-31), 3) := by decide +kernel
theorem dX9_apart_39 : decode cX9_apart 39 = .ok (.iload_n 3, 1) := by decide +kernel
theorem dX9_apart_40 : decode cX9_apart 40 = .ok (.ireturn, 1) := by decide +kernel
theorem dX9_join_0 : decode cX9_join 0 = .ok (.aload_n 0, 1) := by decide +kernel
theorem dX9_join_1 : decode cX9_join 1 = .ok (.getfield 101, 3) := by decide +kernel
theorem dX9_join_4 : decode cX9_join 4 = .ok (.iload_n 2, 1) := by decide +kernel
theorem dX9_join_5 : decode cX9_join 5 = .ok (.iaload, 1) := by decide +kernel
theorem dX9_join_6 : decode cX9_join 6 = .ok (.istore_n 3, 1) := by decide +kernel
theorem dX9_join_7 : decode cX9_join 7 = .ok (.aload_n 0, 1) := by decide +kernel
theorem dX9_join_8 : decode cX9_join 8 = .ok (.getfield 101, 3) := by decide +kernel
theorem dX9_join_11 : decode cX9_join 11 = .ok (.iload_n 1, 1) := by decide +kernel
theorem dX9_join_12 : decode cX9_join 12 = .ok (.iaload, 1) := by decide +kernel
theorem dX9_join_13 : decode cX9_join 13 = .ok (.istore 4, 2) := by decide +kernel
theorem dX9_join_15 : decode cX9_join 15 = .ok (.iconst 0, 1) := by decide +kernel
theorem dX9_join_16 : decode cX9_join 16 = .ok (.istore 5, 2) := by decide +kernel
theorem dX9_join_18 : decode cX9_join 18 = .ok (.iload 5, 2) := by decide +kernel
theorem dX9_join_20 : decode cX9_join 20 = .ok (.aload_n 0, 1) := by decide +kernel
theorem dX9_join_21 : decode cX9_join 21 = .ok (.getfield 89, 3) := by decide +kernel
theorem dX9_join_24 : decode cX9_join 24 = .ok (.if_icmp .ge 29, 3) := by decide +kernel
theorem dX9_join_27 : decode cX9_join 27 = .ok (.aload_n 0, 1) := by decide +kernel
theorem dX9_join_28 : decode cX9_join 28 = .ok (.getfield 101, 3) := by decide +kernel
theorem dX9_join_31 : decode cX9_join 31 = .ok (.iload 5, 2) := by decide +kernel
theorem dX9_join_33 : decode cX9_join 33 = .ok (.iaload, 1) := by decide +kernel
theorem dX9_join_34 : decode cX9_join 34 = .ok (.iload_n 3, 1) := by decide +kernel
theorem dX9_join_35 : decode cX9_join 35 = .ok (.if_icmp .ne 12, 3) := by decide +kernel
theorem dX9_join_38 : decode cX9_join 38 = .ok (.aload_n 0, 1) := by decide +kernel
theorem dX9_join_39 : decode cX9_join 39 = .ok (.getfield 101, 3) := by decide +kernel
theorem dX9_join_42 : decode cX9_join 42 = .ok (.iload 5, 2) := by decide +kernel
theorem dX9_join_44 : decode cX9_join 44 = .ok (.iload 4, 2) := by decide +kernel
theorem dX9_join_46 : decode cX9_join 46 = .ok (.iastore, 1) := by decide +kernel
theorem dX9_join_47 : decode cX9_join 47 = .ok (.iinc 5 1, 3) := by decide +kernel
theorem dX9_join_50 : decode cX9_join 50 = .ok (.goto (-32), 3) := by decide +kernel
theorem dX9_join_53 : decode cX9_join 53 = .ok (.return_, 1) := by decide +kernel
theorem dX9_makeTree_0 : decode cX9_makeTree 0 = .ok (.aload_n 0, 1) := by decide +kernel
theorem dX9_makeTree_1 : decode cX9_makeTree 1 = .ok (.iconst 0, 1) := by decide +kernel
theorem dX9_makeTree_2 : decode cX9_makeTree 2 = .ok (.putfield 92, 3) := by decide +kernel
theorem dX9_makeTree_5 : decode cX9_makeTree 5 = .ok (.aload_n 0, 1) := by decide +kernel
theorem dX9_makeTree_6 : decode cX9_makeTree 6 = .ok (.iconst 0, 1) := by decide +kernel
theorem dX9_makeTree_7 : decode cX9_makeTree 7 = .ok (.putfield 95, 3) := by decide +kernel
theorem dX9_makeTree_10 : decode cX9_makeTree 10 = .ok (.iconst 0, 1) := by decide +kernel
theorem dX9_makeTree_11 : decode cX9_makeTree 11 = .ok (.istore_n 1, 1) := by decide +kernel
theorem dX9_makeTree_12 : decode cX9_makeTree 12 = .ok (.iload_n 1, 1) := by decide +kernel
theorem dX9_makeTree_13 : decode cX9_makeTree 13 = .ok (.aload_n 0, 1) := by decide +kernel
theorem dX9_makeTree_14 : decode cX9_makeTree 14 = .ok (.getfield 89, 3) := by decide +kernel
theorem dX9_makeTree_17 : decode cX9_makeTree 17 = .ok (.if_icmp .ge 16, 3) := by decide +kernel
theorem dX9_makeTree_20 : decode cX9_makeTree 20 = .ok (.aload_n 0, 1) := by decide +kernel
theorem dX9_makeTree_21 : decode cX9_makeTree 21 = .ok (.getfield 101, 3) := by decide +kernel
theorem dX9_makeTree_24 : decode cX9_makeTree 24 = .ok (.iload_n 1, 1) := by decide +kernel
theorem dX9_makeTree_25 : decode cX9_makeTree 25 = .ok (.iload_n 1, 1) := by decide +kernel
theorem dX9_makeTree_26 : decode cX9_makeTree 26 = .ok (.iastore, 1) := by decide +kernel
theorem dX9_makeTree_27 : decode cX9_makeTree 27 = .ok (.iinc 1 1, 3) := by decide +kernel
theorem dX9_makeTree_30 : decode cX9_makeTree 30 = .ok (.goto (-18), 3) := by decide +kernel
theorem dX9_makeTree_33 : decode cX9_makeTree 33 = .ok (.iconst 0, 1) := by decide +kernel
theorem dX9_makeTree_34 : decode cX9_makeTree 34 = .ok (.istore_n 1, 1) := by decide +kernel
theorem dX9_makeTree_35 : decode cX9_makeTree 35 = .ok (.iload_n 1, 1) := by decide +kernel
theorem dX9_makeTree_36 : decode cX9_makeTree 36 = .ok (.bipush 9, 2) := by decide +kernel
theorem dX9_makeTree_38 : decode cX9_makeTree 38 = .ok (.if_icmp .ge 112, 3) := by decide +kernel
theorem dX9_makeTree_41 : decode cX9_makeTree 41 = .ok (.iconst 0, 1) := by decide +kernel
theorem dX9_makeTree_42 : decode cX9_makeTree 42 = .ok (.istore_n 2, 1) := by decide +kernel
theorem dX9_makeTree_43 : decode cX9_makeTree 43 = .ok (.iload_n 2, 1) := by decide +kernel
theorem dX9_makeTree_44 : decode cX9_makeTree 44 = .ok (.aload_n 0, 1) := by decide +kernel
theorem dX9_makeTree_45 : decode cX9_makeTree 45 = .ok (.getfield 89, 3) := by decide +kernel
theorem dX9_makeTree_48 : decode cX9_makeTree 48 = .ok (.if_icmp .ge 96, 3) := by decide +kernel
theorem dX9_makeTree_51 : decode cX9_makeTree 51 = .ok (.iload_n 2, 1) := by decide +kernel
theorem dX9_makeTree_52 : decode cX9_makeTree 52 = .ok (.iconst 1, 1) := by decide +kernel
theorem dX9_makeTree_53 : decode cX9_makeTree 53 = .ok (.iadd, 1) := by decide +kernel
theorem dX9_makeTree_54 : decode cX9_makeTree 54 = .ok (.istore_n 3, 1) := by decide +kernel
theorem dX9_makeTree_55 : decode cX9_makeTree 55 = .ok (.iload_n 3, 1) := by decide +kernel
theorem dX9_makeTree_56 : decode cX9_makeTree 56 = .ok (.aload_n 0, 1) := by decide +kernel
theorem dX9_makeTree_57 : decode cX9_makeTree 57 = .ok (.getfield 89, 3) := by decide +kernel
theorem dX9_makeTree_60 : decode cX9_makeTree 60 = .ok (.if_icmp .ge 78, 3) := by decide +kernel
theorem dX9_makeTree_63 : decode cX9_makeTree 63 = .ok (.aload_n 0, 1) := by decide +kernel
theorem dX9_makeTree_64 : decode cX9_makeTree 64 = .ok (.iload_n 2, 1) := by decide +kernel
theorem dX9_makeTree_65 : decode cX9_makeTree 65 = .ok (.iload_n 3, 1) := by decide +kernel
theorem dX9_makeTree_66 : decode cX9_makeTree 66 = .ok (.invokevirtual 205, 3) := by decide +kernel
theorem dX9_makeTree_69 : decode cX9_makeTree 69 = .ok (.iload_n 1, 1) := by decide +kernel
theorem dX9_makeTree_70 : decode cX9_makeTree 70 = .ok (.if_icmp .ne 62, 3) := by decide +kernel
theorem dX9_makeTree_73 : decode cX9_makeTree 73 = .ok (.aload_n 0, 1) := by decide +kernel
theorem dX9_makeTree_74 : decode cX9_makeTree 74 = .ok (.getfield 101, 3) := by decide +kernel
theorem dX9_makeTree_77 : decode cX9_makeTree 77 = .ok (.iload_n 2, 1) := by decide +kernel
theorem dX9_makeTree_78 : decode cX9_makeTree 78 = .ok (.iaload, 1) := by decide +kernel
theorem dX9_makeTree_79 : decode cX9_makeTree 79 = .ok (.aload_n 0, 1) := by decide +kernel
theorem dX9_makeTree_80 : decode cX9_makeTree 80 = .ok (.getfield 101, 3) := by decide +kernel
theorem dX9_makeTree_83 : decode cX9_makeTree 83 = .ok (.iload_n 3, 1) := by decide +kernel
theorem dX9_makeTree_84 : decode cX9_makeTree 84 = .ok (.iaload, 1) := by decide +kernel
theorem dX9_makeTree_85 : decode cX9_makeTree 85 = .ok (.if_icmp .ne 6, 3) := by decide +kernel
theorem dX9_makeTree_88 : decode cX9_makeTree 88 = .ok (.goto 44, 3) := by decide +kernel
theorem dX9_makeTree_91 : decode cX9_makeTree 91 = .ok (.aload_n 0, 1) := by decide +kernel
theorem dX9_makeTree_92 : decode cX9_makeTree 92 = .ok (.iload_n 2, 1) := by decide +kernel
theorem dX9_makeTree_93 : decode cX9_makeTree 93 = .ok (.iload_n 3, 1) := by decide +kernel
theorem dX9_makeTree_94 : decode cX9_makeTree 94 = .ok (.invokevirtual 208, 3) := by decide +kernel
theorem dX9_makeTree_97 : decode cX9_makeTree 97 = .ok (.aload_n 0, 1) := by decide +kernel
theorem dX9_makeTree_98 : decode cX9_makeTree 98 = .ok (.getfield 104, 3) := by decide +kernel
theorem dX9_makeTree_101 : decode cX9_makeTree 101 = .ok (.aload_n 0, 1) := by decide +kernel
theorem dX9_makeTree_102 : decode cX9_makeTree 102 = .ok (.getfield 92, 3) := by decide +kernel
theorem dX9_makeTree_105 : decode cX9_makeTree 105 = .ok (.bipush 10, 2) := by decide +kernel
theorem dX9_makeTree_107 : decode cX9_makeTree 107 = .ok (.iload_n 2, 1) := by decide +kernel
theorem dX9_makeTree_108 : decode cX9_makeTree 108 = .ok (.imul, 1) := by decide +kernel
theorem dX9_makeTree_109 : decode cX9_makeTree 109 = .ok (.iload_n 3, 1) := by decide +kernel
theorem dX9_makeTree_110 : decode cX9_makeTree 110 = .ok (.iadd, 1) := by decide +kernel
theorem dX9_makeTree_111 : decode cX9_makeTree 111 = .ok (.iastore, 1) := by decide +kernel
theorem dX9_makeTree_112 : decode cX9_makeTree 112 = .ok (.aload_n 0, 1) := by decide +kernel
theorem dX9_makeTree_113 : decode cX9_makeTree 113 = .ok (.dup, 1) := by decide +kernel
theorem dX9_makeTree_114 : decode cX9_makeTree 114 = .ok (.getfield 92, 3) := by decide +kernel
theorem dX9_makeTree_117 : decode cX9_makeTree 117 = .ok (.iconst 1, 1) := by decide +kernel
theorem dX9_makeTree_118 : decode cX9_makeTree 118 = .ok (.iadd, 1) := by decide +kernel
theorem dX9_makeTree_119 : decode cX9_makeTree 119 = .ok (.putfield 92, 3) := by decide +kernel
theorem dX9_makeTree_122 : decode cX9_makeTree 122 = .ok (.aload_n 0, 1) := by decide +kernel
theorem dX9_makeTree_123 : decode cX9_makeTree 123 = .ok (.dup, 1) := by decide +kernel
theorem dX9_makeTree_124 : decode cX9_makeTree 124 = .ok (.getfield 95, 3) := by decide +kernel
theorem dX9_makeTree_127 : decode cX9_makeTree 127 = .ok (.iload_n 1, 1) := by decide +kernel
theorem dX9_makeTree_128 : decode cX9_makeTree 128 = .ok (.iadd, 1) := by decide +kernel
theorem dX9_makeTree_129 : decode cX9_makeTree 129 = .ok (.putfield 95, 3) := by decide +kernel
theorem dX9_makeTree_132 : decode cX9_makeTree 132 = .ok (.iinc 3 1, 3) := by decide +kernel
theorem dX9_makeTree_135 : decode cX9_makeTree 135 = .ok (.goto (-80), 3) := by decide +kernel
theorem dX9_makeTree_138 : decode cX9_makeTree 138 = .ok (.iinc 2 1, 3) := by decide +kernel
theorem dX9_makeTree_141 : decode cX9_makeTree 141 = .ok (.goto (-98), 3) := by decide +kernel
theorem dX9_makeTree_144 : decode cX9_makeTree 144 = .ok (.iinc 1 1, 3) := by decide +kernel
theorem dX9_makeTree_147 : decode cX9_makeTree 147 = .ok (.goto (-112), 3) := by decide +kernel
theorem dX9_makeTree_150 : decode cX9_makeTree 150 = .ok (.return_, 1) := by decide +kernel
theorem dX9_tree_0 : decode cX9_tree 0 = .ok (.aload_n 0, 1) := by decide +kernel
theorem dX9_tree_1 : decode cX9_tree 1 = .ok (.getfield 89, 3) := by decide +kernel
theorem dX9_tree_4 : decode cX9_tree 4 = .ok (.ifCond .ne 6, 3) := by decide +kernel
theorem dX9_tree_7 : decode cX9_tree 7 = .ok (.bipush (-3), 2) := by decide +kernel
theorem dX9_tree_9 : decode cX9_tree 9 = .ok (.ireturn, 1) := by decide +kernel
theorem dX9_tree_10 : decode cX9_tree 10 = .ok (.aload_n 0, 1) := by decide +kernel
theorem dX9_tree_11 : decode cX9_tree 11 = .ok (.invokevirtual 212, 3) := by decide +kernel
theorem dX9_tree_14 : decode cX9_tree 14 = .ok (.aload_n 0, 1) := by decide +kernel
theorem dX9_tree_15 : decode cX9_tree 15 = .ok (.getfield 95, 3) := by decide +kernel
theorem dX9_tree_18 : decode cX9_tree 18 = .ok (.ireturn, 1) := by decide +kernel
theorem dX9_link_0 : decode cX9_link 0 = .ok (.iload_n 1, 1) := by decide +kernel
theorem dX9_link_1 : decode cX9_link 1 = .ok (.ifCond .ge 5, 3) := by decide +kernel
theorem dX9_link_4 : decode cX9_link 4 = .ok (.iconst (-1), 1) := by decide +kernel
theorem dX9_link_5 : decode cX9_link 5 = .ok (.ireturn, 1) := by decide +kernel
theorem dX9_link_6 : decode cX9_link 6 = .ok (.aload_n 0, 1) := by decide +kernel
theorem dX9_link_7 : decode cX9_link 7 = .ok (.invokevirtual 212, 3) := by decide +kernel
theorem dX9_link_10 : decode cX9_link 10 = .ok (.iload_n 1, 1) := by decide +kernel
theorem dX9_link_11 : decode cX9_link 11 = .ok (.aload_n 0, 1) := by decide +kernel
theorem dX9_link_12 : decode cX9_link 12 = .ok (.getfield 92, 3) := by decide +kernel
theorem dX9_link_15 : decode cX9_link 15 = .ok (.if_icmp .ge 12, 3) := by decide +kernel
theorem dX9_link_18 : decode cX9_link 18 = .ok (.aload_n 0, 1) := by decide +kernel
theorem dX9_link_19 : decode cX9_link 19 = .ok (.getfield 104, 3) := by decide +kernel
theorem dX9_link_22 : decode cX9_link 22 = .ok (.iload_n 1, 1) := by decide +kernel
theorem dX9_link_23 : decode cX9_link 23 = .ok (.iaload, 1) := by decide +kernel
theorem dX9_link_24 : decode cX9_link 24 = .ok (.goto 5, 3) := by decide +kernel
theorem dX9_link_27 : decode cX9_link 27 = .ok (.bipush (-3), 2) := by decide +kernel
theorem dX9_link_29 : decode cX9_link 29 = .ok (.ireturn, 1) := by decide +kernel
theorem dX9_isTree_0 : decode cX9_isTree 0 = .ok (.iconst 0, 1) := by decide +kernel
theorem dX9_isTree_1 : decode cX9_isTree 1 = .ok (.istore 4, 2) := by decide +kernel
theorem dX9_isTree_3 : decode cX9_isTree 3 = .ok (.iload 4, 2) := by decide +kernel
theorem dX9_isTree_5 : decode cX9_isTree 5 = .ok (.aload_n 0, 1) := by decide +kernel
theorem dX9_isTree_6 : decode cX9_isTree 6 = .ok (.getfield 89, 3) := by decide +kernel
theorem dX9_isTree_9 : decode cX9_isTree 9 = .ok (.if_icmp .ge 18, 3) := by decide +kernel
theorem dX9_isTree_12 : decode cX9_isTree 12 = .ok (.aload_n 0, 1) := by decide +kernel
theorem dX9_isTree_13 : decode cX9_isTree 13 = .ok (.getfield 101, 3) := by decide +kernel
theorem dX9_isTree_16 : decode cX9_isTree 16 = .ok (.iload 4, 2) := by decide +kernel
theorem dX9_isTree_18 : decode cX9_isTree 18 = .ok (.iload 4, 2) := by decide +kernel
theorem dX9_isTree_20 : decode cX9_isTree 20 = .ok (.iastore, 1) := by decide +kernel
theorem dX9_isTree_21 : decode cX9_isTree 21 = .ok (.iinc 4 1, 3) := by decide +kernel
theorem dX9_isTree_24 : decode cX9_isTree 24 = .ok (.goto (-21), 3) := by decide +kernel
theorem dX9_isTree_27 : decode cX9_isTree 27 = .ok (.iload_n 3, 1) := by decide +kernel
theorem dX9_isTree_28 : decode cX9_isTree 28 = .ok (.istore 4, 2) := by decide +kernel
theorem dX9_isTree_30 : decode cX9_isTree 30 = .ok (.iconst 0, 1) := by decide +kernel
theorem dX9_isTree_31 : decode cX9_isTree 31 = .ok (.istore 5, 2) := by decide +kernel
theorem dX9_isTree_33 : decode cX9_isTree 33 = .ok (.iload 5, 2) := by decide +kernel
theorem dX9_isTree_35 : decode cX9_isTree 35 = .ok (.iload_n 2, 1) := by decide +kernel
theorem dX9_isTree_36 : decode cX9_isTree 36 = .ok (.if_icmp .ge 91, 3) := by decide +kernel
theorem dX9_isTree_39 : decode cX9_isTree 39 = .ok (.iload_n 1, 1) := by decide +kernel
theorem dX9_isTree_40 : decode cX9_isTree 40 = .ok (.iload 5, 2) := by decide +kernel
theorem dX9_isTree_42 : decode cX9_isTree 42 = .ok (.ishr, 1) := by decide +kernel
theorem dX9_isTree_43 : decode cX9_isTree 43 = .ok (.iconst 1, 1) := by decide +kernel
theorem dX9_isTree_44 : decode cX9_isTree 44 = .ok (.iand, 1) := by decide +kernel
theorem dX9_isTree_45 : decode cX9_isTree 45 = .ok (.ifCond .ne 6, 3) := by decide +kernel
theorem dX9_isTree_48 : decode cX9_isTree 48 = .ok (.goto 73, 3) := by decide +kernel
theorem dX9_isTree_51 : decode cX9_isTree 51 = .ok (.aload_n 0, 1) := by decide +kernel
theorem dX9_isTree_52 : decode cX9_isTree 52 = .ok (.getfield 101, 3) := by decide +kernel
theorem dX9_isTree_55 : decode cX9_isTree 55 = .ok (.aload_n 0, 1) := by decide +kernel
theorem dX9_isTree_56 : decode cX9_isTree 56 = .ok (.getfield 107, 3) := by decide +kernel
theorem dX9_isTree_59 : decode cX9_isTree 59 = .ok (.iload 5, 2) := by decide +kernel
theorem dX9_isTree_61 : decode cX9_isTree 61 = .ok (.iaload, 1) := by decide +kernel
theorem dX9_isTree_62 : decode cX9_isTree 62 = .ok (.iaload, 1) := by decide +kernel
theorem dX9_isTree_63 : decode cX9_isTree 63 = .ok (.aload_n 0, 1) := by decide +kernel
theorem dX9_isTree_64 : decode cX9_isTree 64 = .ok (.getfield 101, 3) := by decide +kernel
theorem dX9_isTree_67 : decode cX9_isTree 67 = .ok (.aload_n 0, 1) := by decide +kernel
theorem dX9_isTree_68 : decode cX9_isTree 68 = .ok (.getfield 110, 3) := by decide +kernel
theorem dX9_isTree_71 : decode cX9_isTree 71 = .ok (.iload 5, 2) := by decide +kernel
theorem dX9_isTree_73 : decode cX9_isTree 73 = .ok (.iaload, 1) := by decide +kernel
theorem dX9_isTree_74 : decode cX9_isTree 74 = .ok (.iaload, 1) := by decide +kernel
theorem dX9_isTree_75 : decode cX9_isTree 75 = .ok (.if_icmp .ne 5, 3) := by decide +kernel
theorem dX9_isTree_78 : decode cX9_isTree 78 = .ok (.iconst 0, 1) := by decide +kernel
theorem dX9_isTree_79 : decode cX9_isTree 79 = .ok (.ireturn, 1) := by decide +kernel
theorem dX9_isTree_80 : decode cX9_isTree 80 = .ok (.aload_n 0, 1) := by decide +kernel
theorem dX9_isTree_81 : decode cX9_isTree 81 = .ok (.aload_n 0, 1) := by decide +kernel
theorem dX9_isTree_82 : decode cX9_isTree 82 = .ok (.getfield 107, 3) := by decide +kernel
theorem dX9_isTree_85 : decode cX9_isTree 85 = .ok (.iload 5, 2) := by decide +kernel
theorem dX9_isTree_87 : decode cX9_isTree 87 = .ok (.iaload, 1) := by decide +kernel
theorem dX9_isTree_88 : decode cX9_isTree 88 = .ok (.aload_n 0, 1) := by decide +kernel
theorem dX9_isTree_89 : decode cX9_isTree 89 = .ok (.getfield 110, 3) := by decide +kernel
theorem dX9_isTree_92 : decode cX9_isTree 92 = .ok (.iload 5, 2) := by decide +kernel
theorem dX9_isTree_94 : decode cX9_isTree 94 = .ok (.iaload, 1) := by decide +kernel
theorem dX9_isTree_95 : decode cX9_isTree 95 = .ok (.invokevirtual 208, 3) := by decide +kernel
theorem dX9_isTree_98 : decode cX9_isTree 98 = .ok (.iload 4, 2) := by decide +kernel
theorem dX9_isTree_100 : decode cX9_isTree 100 = .ok (.aload_n 0, 1) := by decide +kernel
theorem dX9_isTree_101 : decode cX9_isTree 101 = .ok (.aload_n 0, 1) := by decide +kernel
theorem dX9_isTree_102 : decode cX9_isTree 102 = .ok (.getfield 107, 3) := by decide +kernel
theorem dX9_isTree_105 : decode cX9_isTree 105 = .ok (.iload 5, 2) := by decide +kernel
theorem dX9_isTree_107 : decode cX9_isTree 107 = .ok (.iaload, 1) := by decide +kernel
theorem dX9_isTree_108 : decode cX9_isTree 108 = .ok (.aload_n 0, 1) := by decide +kernel
theorem dX9_isTree_109 : decode cX9_isTree 109 = .ok (.getfield 110, 3) := by decide +kernel
theorem dX9_isTree_112 : decode cX9_isTree 112 = .ok (.iload 5, 2) := by decide +kernel
theorem dX9_isTree_114 : decode cX9_isTree 114 = .ok (.iaload, 1) := by decide +kernel
theorem dX9_isTree_115 : decode cX9_isTree 115 = .ok (.invokevirtual 205, 3) := by decide +kernel
theorem dX9_isTree_118 : decode cX9_isTree 118 = .ok (.isub, 1) := by decide +kernel
theorem dX9_isTree_119 : decode cX9_isTree 119 = .ok (.istore 4, 2) := by decide +kernel
theorem dX9_isTree_121 : decode cX9_isTree 121 = .ok (.iinc 5 1, 3) := by decide +kernel
theorem dX9_isTree_124 : decode cX9_isTree 124 = .ok (.goto (-91), 3) := by decide +kernel
theorem dX9_isTree_127 : decode cX9_isTree 127 = .ok (.iload 4, 2) := by decide +kernel
theorem dX9_isTree_129 : decode cX9_isTree 129 = .ok (.ifCond .ne 7, 3) := by decide +kernel
theorem dX9_isTree_132 : decode cX9_isTree 132 = .ok (.iconst 1, 1) := by decide +kernel
theorem dX9_isTree_133 : decode cX9_isTree 133 = .ok (.goto 4, 3) := by decide +kernel
theorem dX9_isTree_136 : decode cX9_isTree 136 = .ok (.iconst 0, 1) := by decide +kernel
theorem dX9_isTree_137 : decode cX9_isTree 137 = .ok (.ireturn, 1) := by decide +kernel
theorem dX9_rivals_0 : decode cX9_rivals 0 = .ok (.aload_n 0, 1) := by decide +kernel
theorem dX9_rivals_1 : decode cX9_rivals 1 = .ok (.getfield 89, 3) := by decide +kernel
theorem dX9_rivals_4 : decode cX9_rivals 4 = .ok (.ifCond .ne 6, 3) := by decide +kernel
theorem dX9_rivals_7 : decode cX9_rivals 7 = .ok (.bipush (-3), 2) := by decide +kernel
theorem dX9_rivals_9 : decode cX9_rivals 9 = .ok (.ireturn, 1) := by decide +kernel
theorem dX9_rivals_10 : decode cX9_rivals 10 = .ok (.aload_n 0, 1) := by decide +kernel
theorem dX9_rivals_11 : decode cX9_rivals 11 = .ok (.getfield 89, 3) := by decide +kernel
theorem dX9_rivals_14 : decode cX9_rivals 14 = .ok (.bipush 6, 2) := by decide +kernel
theorem dX9_rivals_16 : decode cX9_rivals 16 = .ok (.if_icmp .le 6, 3) := by decide +kernel
theorem dX9_rivals_19 : decode cX9_rivals 19 = .ok (.bipush (-5), 2) := by decide +kernel
theorem dX9_rivals_21 : decode cX9_rivals 21 = .ok (.ireturn, 1) := by decide +kernel
theorem dX9_rivals_22 : decode cX9_rivals 22 = .ok (.aload_n 0, 1) := by decide +kernel
theorem dX9_rivals_23 : decode cX9_rivals 23 = .ok (.invokevirtual 212, 3) := by decide +kernel
theorem dX9_rivals_26 : decode cX9_rivals 26 = .ok (.aload_n 0, 1) := by decide +kernel
theorem dX9_rivals_27 : decode cX9_rivals 27 = .ok (.getfield 95, 3) := by decide +kernel
theorem dX9_rivals_30 : decode cX9_rivals 30 = .ok (.istore_n 1, 1) := by decide +kernel
theorem dX9_rivals_31 : decode cX9_rivals 31 = .ok (.iconst 0, 1) := by decide +kernel
theorem dX9_rivals_32 : decode cX9_rivals 32 = .ok (.istore_n 2, 1) := by decide +kernel
theorem dX9_rivals_33 : decode cX9_rivals 33 = .ok (.iconst 0, 1) := by decide +kernel
theorem dX9_rivals_34 : decode cX9_rivals 34 = .ok (.istore_n 3, 1) := by decide +kernel
theorem dX9_rivals_35 : decode cX9_rivals 35 = .ok (.iload_n 3, 1) := by decide +kernel
theorem dX9_rivals_36 : decode cX9_rivals 36 = .ok (.aload_n 0, 1) := by decide +kernel
theorem dX9_rivals_37 : decode cX9_rivals 37 = .ok (.getfield 89, 3) := by decide +kernel
theorem dX9_rivals_40 : decode cX9_rivals 40 = .ok (.if_icmp .ge 47, 3) := by decide +kernel
theorem dX9_rivals_43 : decode cX9_rivals 43 = .ok (.iload_n 3, 1) := by decide +kernel
theorem dX9_rivals_44 : decode cX9_rivals 44 = .ok (.iconst 1, 1) := by decide +kernel
theorem dX9_rivals_45 : decode cX9_rivals 45 = .ok (.iadd, 1) := by decide +kernel
theorem dX9_rivals_46 : decode cX9_rivals 46 = .ok (.istore 4, 2) := by decide +kernel
theorem dX9_rivals_48 : decode cX9_rivals 48 = .ok (.iload 4, 2) := by decide +kernel
theorem dX9_rivals_50 : decode cX9_rivals 50 = .ok (.aload_n 0, 1) := by decide +kernel
theorem dX9_rivals_51 : decode cX9_rivals 51 = .ok (.getfield 89, 3) := by decide +kernel
theorem dX9_rivals_54 : decode cX9_rivals 54 = .ok (.if_icmp .ge 27, 3) := by decide +kernel
theorem dX9_rivals_57 : decode cX9_rivals 57 = .ok (.aload_n 0, 1) := by decide +kernel
theorem dX9_rivals_58 : decode cX9_rivals 58 = .ok (.getfield 107, 3) := by decide +kernel
theorem dX9_rivals_61 : decode cX9_rivals 61 = .ok (.iload_n 2, 1) := by decide +kernel
theorem dX9_rivals_62 : decode cX9_rivals 62 = .ok (.iload_n 3, 1) := by decide +kernel
theorem dX9_rivals_63 : decode cX9_rivals 63 = .ok (.iastore, 1) := by decide +kernel
theorem dX9_rivals_64 : decode cX9_rivals 64 = .ok (.aload_n 0, 1) := by decide +kernel
theorem dX9_rivals_65 : decode cX9_rivals 65 = .ok (.getfield 110, 3) := by decide +kernel
theorem dX9_rivals_68 : decode cX9_rivals 68 = .ok (.iload_n 2, 1) := by decide +kernel
theorem dX9_rivals_69 : decode cX9_rivals 69 = .ok (.iload 4, 2) := by decide +kernel
theorem dX9_rivals_71 : decode cX9_rivals 71 = .ok (.iastore, 1) := by decide +kernel
theorem dX9_rivals_72 : decode cX9_rivals 72 = .ok (.iinc 2 1, 3) := by decide +kernel
theorem dX9_rivals_75 : decode cX9_rivals 75 = .ok (.iinc 4 1, 3) := by decide +kernel
theorem dX9_rivals_78 : decode cX9_rivals 78 = .ok (.goto (-30), 3) := by decide +kernel
theorem dX9_rivals_81 : decode cX9_rivals 81 = .ok (.iinc 3 1, 3) := by decide +kernel
theorem dX9_rivals_84 : decode cX9_rivals 84 = .ok (.goto (-49), 3) := by decide +kernel
theorem dX9_rivals_87 : decode cX9_rivals 87 = .ok (.iconst 0, 1) := by decide +kernel
theorem dX9_rivals_88 : decode cX9_rivals 88 = .ok (.istore_n 3, 1) := by decide +kernel
theorem dX9_rivals_89 : decode cX9_rivals 89 = .ok (.iconst 0, 1) := by decide +kernel
theorem dX9_rivals_90 : decode cX9_rivals 90 = .ok (.istore 4, 2) := by decide +kernel
theorem dX9_rivals_92 : decode cX9_rivals 92 = .ok (.iload 4, 2) := by decide +kernel
theorem dX9_rivals_94 : decode cX9_rivals 94 = .ok (.iconst 1, 1) := by decide +kernel
theorem dX9_rivals_95 : decode cX9_rivals 95 = .ok (.iload_n 2, 1) := by decide +kernel
theorem dX9_rivals_96 : decode cX9_rivals 96 = .ok (.ishl, 1) := by decide +kernel
theorem dX9_rivals_97 : decode cX9_rivals 97 = .ok (.if_icmp .ge 69, 3) := by decide +kernel
theorem dX9_rivals_100 : decode cX9_rivals 100 = .ok (.iconst 0, 1) := by decide +kernel
theorem dX9_rivals_101 : decode cX9_rivals 101 = .ok (.istore 5, 2) := by decide +kernel
theorem dX9_rivals_103 : decode cX9_rivals 103 = .ok (.iload 4, 2) := by decide +kernel
theorem dX9_rivals_105 : decode cX9_rivals 105 = .ok (.istore 6, 2) := by decide +kernel
theorem dX9_rivals_107 : decode cX9_rivals 107 = .ok (.iload 6, 2) := by decide +kernel
theorem dX9_rivals_109 : decode cX9_rivals 109 = .ok (.ifCond .le 21, 3) := by decide +kernel
theorem dX9_rivals_112 : decode cX9_rivals 112 = .ok (.iload 5, 2) := by decide +kernel
theorem dX9_rivals_114 : decode cX9_rivals 114 = .ok (.iload 6, 2) := by decide +kernel
theorem dX9_rivals_116 : decode cX9_rivals 116 = .ok (.iconst 1, 1) := by decide +kernel
theorem dX9_rivals_117 : decode cX9_rivals 117 = .ok (.iand, 1) := by decide +kernel
theorem dX9_rivals_118 : decode cX9_rivals 118 = .ok (.iadd, 1) := by decide +kernel
theorem dX9_rivals_119 : decode cX9_rivals 119 = .ok (.istore 5, 2) := by decide +kernel
theorem dX9_rivals_121 : decode cX9_rivals 121 = .ok (.iload 6, 2) := by decide +kernel
theorem dX9_rivals_123 : decode cX9_rivals 123 = .ok (.iconst 1, 1) := by decide +kernel
theorem dX9_rivals_124 : decode cX9_rivals 124 = .ok (.ishr, 1) := by decide +kernel
theorem dX9_rivals_125 : decode cX9_rivals 125 = .ok (.istore 6, 2) := by decide +kernel
end
section
theorem dX9_rivals_127 : decode cX9_rivals 127 = .ok (.goto (-20), 3) := by decide +kernel
theorem dX9_rivals_130 : decode cX9_rivals 130 = .ok (.iload_n 3, 1) := by decide +kernel
theorem dX9_rivals_131 : decode cX9_rivals 131 = .ok (.iload 5, 2) := by decide +kernel
theorem dX9_rivals_133 : decode cX9_rivals 133 = .ok (.aload_n 0, 1) := by decide +kernel
theorem dX9_rivals_134 : decode cX9_rivals 134 = .ok (.getfield 89, 3) := by decide +kernel
theorem dX9_rivals_137 : decode cX9_rivals 137 = .ok (.iconst 1, 1) := by decide +kernel
theorem dX9_rivals_138 : decode cX9_rivals 138 = .ok (.isub, 1) := by decide +kernel
theorem dX9_rivals_139 : decode cX9_rivals 139 = .ok (.if_icmp .ne 18, 3) := by decide +kernel
theorem dX9_rivals_142 : decode cX9_rivals 142 = .ok (.aload_n 0, 1) := by decide +kernel
theorem dX9_rivals_143 : decode cX9_rivals 143 = .ok (.iload 4, 2) := by decide +kernel
theorem dX9_rivals_145 : decode cX9_rivals 145 = .ok (.iload_n 2, 1) := by decide +kernel
theorem dX9_rivals_146 : decode cX9_rivals 146 = .ok (.iload_n 1, 1) := by decide +kernel
theorem dX9_rivals_147 : decode cX9_rivals 147 = .ok (.invokevirtual 215, 3) := by decide +kernel
theorem dX9_rivals_150 : decode cX9_rivals 150 = .ok (.ifCond .eq 7, 3) := by decide +kernel
theorem dX9_rivals_153 : decode cX9_rivals 153 = .ok (.iconst 1, 1) := by decide +kernel
theorem dX9_rivals_154 : decode cX9_rivals 154 = .ok (.goto 4, 3) := by decide +kernel
theorem dX9_rivals_157 : decode cX9_rivals 157 = .ok (.iconst 0, 1) := by decide +kernel
theorem dX9_rivals_158 : decode cX9_rivals 158 = .ok (.iadd, 1) := by decide +kernel
theorem dX9_rivals_159 : decode cX9_rivals 159 = .ok (.istore_n 3, 1) := by decide +kernel
theorem dX9_rivals_160 : decode cX9_rivals 160 = .ok (.iinc 4 1, 3) := by decide +kernel
theorem dX9_rivals_163 : decode cX9_rivals 163 = .ok (.goto (-71), 3) := by decide +kernel
theorem dX9_rivals_166 : decode cX9_rivals 166 = .ok (.iload_n 3, 1) := by decide +kernel
theorem dX9_rivals_167 : decode cX9_rivals 167 = .ok (.ireturn, 1) := by decide +kernel
theorem dX9_faults_0 : decode cX9_faults 0 = .ok (.iconst 0, 1) := by decide +kernel
theorem dX9_faults_1 : decode cX9_faults 1 = .ok (.istore_n 1, 1) := by decide +kernel
theorem dX9_faults_2 : decode cX9_faults 2 = .ok (.iconst 0, 1) := by decide +kernel
theorem dX9_faults_3 : decode cX9_faults 3 = .ok (.istore_n 2, 1) := by decide +kernel
theorem dX9_faults_4 : decode cX9_faults 4 = .ok (.iload_n 2, 1) := by decide +kernel
theorem dX9_faults_5 : decode cX9_faults 5 = .ok (.aload_n 0, 1) := by decide +kernel
theorem dX9_faults_6 : decode cX9_faults 6 = .ok (.getfield 71, 3) := by decide +kernel
theorem dX9_faults_9 : decode cX9_faults 9 = .ok (.if_icmp .ge 58, 3) := by decide +kernel
theorem dX9_faults_12 : decode cX9_faults 12 = .ok (.iconst 0, 1) := by decide +kernel
theorem dX9_faults_13 : decode cX9_faults 13 = .ok (.istore_n 3, 1) := by decide +kernel
theorem dX9_faults_14 : decode cX9_faults 14 = .ok (.iload_n 3, 1) := by decide +kernel
theorem dX9_faults_15 : decode cX9_faults 15 = .ok (.aload_n 0, 1) := by decide +kernel
theorem dX9_faults_16 : decode cX9_faults 16 = .ok (.getfield 134, 3) := by decide +kernel
theorem dX9_faults_19 : decode cX9_faults 19 = .ok (.if_icmp .ge 42, 3) := by decide +kernel
theorem dX9_faults_22 : decode cX9_faults 22 = .ok (.iload_n 1, 1) := by decide +kernel
theorem dX9_faults_23 : decode cX9_faults 23 = .ok (.aload_n 0, 1) := by decide +kernel
theorem dX9_faults_24 : decode cX9_faults 24 = .ok (.getfield 77, 3) := by decide +kernel
theorem dX9_faults_27 : decode cX9_faults 27 = .ok (.bipush 40, 2) := by decide +kernel
theorem dX9_faults_29 : decode cX9_faults 29 = .ok (.iload_n 2, 1) := by decide +kernel
theorem dX9_faults_30 : decode cX9_faults 30 = .ok (.imul, 1) := by decide +kernel
theorem dX9_faults_31 : decode cX9_faults 31 = .ok (.iload_n 3, 1) := by decide +kernel
theorem dX9_faults_32 : decode cX9_faults 32 = .ok (.iadd, 1) := by decide +kernel
theorem dX9_faults_33 : decode cX9_faults 33 = .ok (.iaload, 1) := by decide +kernel
theorem dX9_faults_34 : decode cX9_faults 34 = .ok (.aload_n 0, 1) := by decide +kernel
theorem dX9_faults_35 : decode cX9_faults 35 = .ok (.getfield 74, 3) := by decide +kernel
theorem dX9_faults_38 : decode cX9_faults 38 = .ok (.bipush 40, 2) := by decide +kernel
theorem dX9_faults_40 : decode cX9_faults 40 = .ok (.iload_n 2, 1) := by decide +kernel
theorem dX9_faults_41 : decode cX9_faults 41 = .ok (.imul, 1) := by decide +kernel
theorem dX9_faults_42 : decode cX9_faults 42 = .ok (.iload_n 3, 1) := by decide +kernel
theorem dX9_faults_43 : decode cX9_faults 43 = .ok (.iadd, 1) := by decide +kernel
theorem dX9_faults_44 : decode cX9_faults 44 = .ok (.iaload, 1) := by decide +kernel
theorem dX9_faults_45 : decode cX9_faults 45 = .ok (.if_icmp .eq 7, 3) := by decide +kernel
theorem dX9_faults_48 : decode cX9_faults 48 = .ok (.iconst 1, 1) := by decide +kernel
theorem dX9_faults_49 : decode cX9_faults 49 = .ok (.goto 4, 3) := by decide +kernel
theorem dX9_faults_52 : decode cX9_faults 52 = .ok (.iconst 0, 1) := by decide +kernel
theorem dX9_faults_53 : decode cX9_faults 53 = .ok (.iadd, 1) := by decide +kernel
theorem dX9_faults_54 : decode cX9_faults 54 = .ok (.istore_n 1, 1) := by decide +kernel
theorem dX9_faults_55 : decode cX9_faults 55 = .ok (.iinc 3 1, 3) := by decide +kernel
theorem dX9_faults_58 : decode cX9_faults 58 = .ok (.goto (-44), 3) := by decide +kernel
theorem dX9_faults_61 : decode cX9_faults 61 = .ok (.iinc 2 1, 3) := by decide +kernel
theorem dX9_faults_64 : decode cX9_faults 64 = .ok (.goto (-60), 3) := by decide +kernel
theorem dX9_faults_67 : decode cX9_faults 67 = .ok (.iload_n 1, 1) := by decide +kernel
theorem dX9_faults_68 : decode cX9_faults 68 = .ok (.ireturn, 1) := by decide +kernel
theorem dX9_count_0 : decode cX9_count 0 = .ok (.iconst 0, 1) := by decide +kernel
theorem dX9_count_1 : decode cX9_count 1 = .ok (.istore_n 2, 1) := by decide +kernel
theorem dX9_count_2 : decode cX9_count 2 = .ok (.iload_n 1, 1) := by decide +kernel
theorem dX9_count_3 : decode cX9_count 3 = .ok (.tableswitch 89 0 5 #[37, 42, 47, 52, 57, 62], 37) := by decide +kernel
theorem dX9_count_40 : decode cX9_count 40 = .ok (.aload_n 0, 1) := by decide +kernel
theorem dX9_count_41 : decode cX9_count 41 = .ok (.getfield 13, 3) := by decide +kernel
theorem dX9_count_44 : decode cX9_count 44 = .ok (.ireturn, 1) := by decide +kernel
theorem dX9_count_45 : decode cX9_count 45 = .ok (.aload_n 0, 1) := by decide +kernel
theorem dX9_count_46 : decode cX9_count 46 = .ok (.getfield 71, 3) := by decide +kernel
theorem dX9_count_49 : decode cX9_count 49 = .ok (.ireturn, 1) := by decide +kernel
theorem dX9_count_50 : decode cX9_count 50 = .ok (.aload_n 0, 1) := by decide +kernel
theorem dX9_count_51 : decode cX9_count 51 = .ok (.invokevirtual 218, 3) := by decide +kernel
theorem dX9_count_54 : decode cX9_count 54 = .ok (.ireturn, 1) := by decide +kernel
theorem dX9_count_55 : decode cX9_count 55 = .ok (.aload_n 0, 1) := by decide +kernel
theorem dX9_count_56 : decode cX9_count 56 = .ok (.getfield 89, 3) := by decide +kernel
theorem dX9_count_59 : decode cX9_count 59 = .ok (.ireturn, 1) := by decide +kernel
theorem dX9_count_60 : decode cX9_count 60 = .ok (.aload_n 0, 1) := by decide +kernel
theorem dX9_count_61 : decode cX9_count 61 = .ok (.getfield 134, 3) := by decide +kernel
theorem dX9_count_64 : decode cX9_count 64 = .ok (.ireturn, 1) := by decide +kernel
theorem dX9_count_65 : decode cX9_count 65 = .ok (.iconst 0, 1) := by decide +kernel
theorem dX9_count_66 : decode cX9_count 66 = .ok (.istore_n 3, 1) := by decide +kernel
theorem dX9_count_67 : decode cX9_count 67 = .ok (.iload_n 3, 1) := by decide +kernel
theorem dX9_count_68 : decode cX9_count 68 = .ok (.aload_n 0, 1) := by decide +kernel
theorem dX9_count_69 : decode cX9_count 69 = .ok (.getfield 71, 3) := by decide +kernel
theorem dX9_count_72 : decode cX9_count 72 = .ok (.if_icmp .ge 18, 3) := by decide +kernel
theorem dX9_count_75 : decode cX9_count 75 = .ok (.iload_n 2, 1) := by decide +kernel
theorem dX9_count_76 : decode cX9_count 76 = .ok (.aload_n 0, 1) := by decide +kernel
theorem dX9_count_77 : decode cX9_count 77 = .ok (.getfield 86, 3) := by decide +kernel
theorem dX9_count_80 : decode cX9_count 80 = .ok (.iload_n 3, 1) := by decide +kernel
theorem dX9_count_81 : decode cX9_count 81 = .ok (.iaload, 1) := by decide +kernel
theorem dX9_count_82 : decode cX9_count 82 = .ok (.iadd, 1) := by decide +kernel
theorem dX9_count_83 : decode cX9_count 83 = .ok (.istore_n 2, 1) := by decide +kernel
theorem dX9_count_84 : decode cX9_count 84 = .ok (.iinc 3 1, 3) := by decide +kernel
theorem dX9_count_87 : decode cX9_count 87 = .ok (.goto (-20), 3) := by decide +kernel
theorem dX9_count_90 : decode cX9_count 90 = .ok (.iload_n 2, 1) := by decide +kernel
theorem dX9_count_91 : decode cX9_count 91 = .ok (.ireturn, 1) := by decide +kernel
theorem dX9_count_92 : decode cX9_count 92 = .ok (.iconst (-1), 1) := by decide +kernel
theorem dX9_count_93 : decode cX9_count 93 = .ok (.ireturn, 1) := by decide +kernel
theorem dX9_isShelf_0 : decode cX9_isShelf 0 = .ok (.aload_n 0, 1) := by decide +kernel
theorem dX9_isShelf_1 : decode cX9_isShelf 1 = .ok (.iload_n 1, 1) := by decide +kernel
theorem dX9_isShelf_2 : decode cX9_isShelf 2 = .ok (.iconst 0, 1) := by decide +kernel
theorem dX9_isShelf_3 : decode cX9_isShelf 3 = .ok (.bipush 7, 2) := by decide +kernel
theorem dX9_isShelf_5 : decode cX9_isShelf 5 = .ok (.invokevirtual 137, 3) := by decide +kernel
theorem dX9_isShelf_8 : decode cX9_isShelf 8 = .ok (.ireturn, 1) := by decide +kernel
theorem dX9_wipe_0 : decode cX9_wipe 0 = .ok (.iconst 0, 1) := by decide +kernel
theorem dX9_wipe_1 : decode cX9_wipe 1 = .ok (.istore_n 2, 1) := by decide +kernel
theorem dX9_wipe_2 : decode cX9_wipe 2 = .ok (.iload_n 2, 1) := by decide +kernel
theorem dX9_wipe_3 : decode cX9_wipe 3 = .ok (.bipush 60, 2) := by decide +kernel
theorem dX9_wipe_5 : decode cX9_wipe 5 = .ok (.if_icmp .ge 21, 3) := by decide +kernel
theorem dX9_wipe_8 : decode cX9_wipe 8 = .ok (.aload_n 0, 1) := by decide +kernel
theorem dX9_wipe_9 : decode cX9_wipe 9 = .ok (.getfield 128, 3) := by decide +kernel
theorem dX9_wipe_12 : decode cX9_wipe 12 = .ok (.bipush 60, 2) := by decide +kernel
theorem dX9_wipe_14 : decode cX9_wipe 14 = .ok (.iload_n 1, 1) := by decide +kernel
theorem dX9_wipe_15 : decode cX9_wipe 15 = .ok (.imul, 1) := by decide +kernel
theorem dX9_wipe_16 : decode cX9_wipe 16 = .ok (.iload_n 2, 1) := by decide +kernel
theorem dX9_wipe_17 : decode cX9_wipe 17 = .ok (.iadd, 1) := by decide +kernel
theorem dX9_wipe_18 : decode cX9_wipe 18 = .ok (.iconst 0, 1) := by decide +kernel
theorem dX9_wipe_19 : decode cX9_wipe 19 = .ok (.iastore, 1) := by decide +kernel
theorem dX9_wipe_20 : decode cX9_wipe 20 = .ok (.iinc 2 1, 3) := by decide +kernel
theorem dX9_wipe_23 : decode cX9_wipe 23 = .ok (.goto (-21), 3) := by decide +kernel
theorem dX9_wipe_26 : decode cX9_wipe 26 = .ok (.return_, 1) := by decide +kernel
theorem dX9_keep_0 : decode cX9_keep 0 = .ok (.aload_n 0, 1) := by decide +kernel
theorem dX9_keep_1 : decode cX9_keep 1 = .ok (.iload_n 1, 1) := by decide +kernel
theorem dX9_keep_2 : decode cX9_keep 2 = .ok (.invokevirtual 222, 3) := by decide +kernel
theorem dX9_keep_5 : decode cX9_keep 5 = .ok (.ifCond .eq 67, 3) := by decide +kernel
theorem dX9_keep_8 : decode cX9_keep 8 = .ok (.iload_n 2, 1) := by decide +kernel
theorem dX9_keep_9 : decode cX9_keep 9 = .ok (.ifCond .eq 59, 3) := by decide +kernel
theorem dX9_keep_12 : decode cX9_keep 12 = .ok (.iload_n 2, 1) := by decide +kernel
theorem dX9_keep_13 : decode cX9_keep 13 = .ok (.iconst 4, 1) := by decide +kernel
theorem dX9_keep_14 : decode cX9_keep 14 = .ok (.if_icmp .eq 54, 3) := by decide +kernel
theorem dX9_keep_17 : decode cX9_keep 17 = .ok (.iload_n 2, 1) := by decide +kernel
theorem dX9_keep_18 : decode cX9_keep 18 = .ok (.iconst 1, 1) := by decide +kernel
theorem dX9_keep_19 : decode cX9_keep 19 = .ok (.if_icmp .ne 29, 3) := by decide +kernel
theorem dX9_keep_22 : decode cX9_keep 22 = .ok (.aload_n 0, 1) := by decide +kernel
theorem dX9_keep_23 : decode cX9_keep 23 = .ok (.iload_n 3, 1) := by decide +kernel
theorem dX9_keep_24 : decode cX9_keep 24 = .ok (.invokevirtual 165, 3) := by decide +kernel
theorem dX9_keep_27 : decode cX9_keep 27 = .ok (.ifCond .eq 21, 3) := by decide +kernel
theorem dX9_keep_30 : decode cX9_keep 30 = .ok (.aload_n 0, 1) := by decide +kernel
theorem dX9_keep_31 : decode cX9_keep 31 = .ok (.iload 4, 2) := by decide +kernel
theorem dX9_keep_33 : decode cX9_keep 33 = .ok (.iconst 0, 1) := by decide +kernel
theorem dX9_keep_34 : decode cX9_keep 34 = .ok (.aload_n 0, 1) := by decide +kernel
theorem dX9_keep_35 : decode cX9_keep 35 = .ok (.getfield 16, 3) := by decide +kernel
theorem dX9_keep_38 : decode cX9_keep 38 = .ok (.iload_n 3, 1) := by decide +kernel
theorem dX9_keep_39 : decode cX9_keep 39 = .ok (.iaload, 1) := by decide +kernel
theorem dX9_keep_40 : decode cX9_keep 40 = .ok (.iconst 1, 1) := by decide +kernel
theorem dX9_keep_41 : decode cX9_keep 41 = .ok (.isub, 1) := by decide +kernel
theorem dX9_keep_42 : decode cX9_keep 42 = .ok (.invokevirtual 137, 3) := by decide +kernel
theorem dX9_keep_45 : decode cX9_keep 45 = .ok (.ifCond .ne 23, 3) := by decide +kernel
theorem dX9_keep_48 : decode cX9_keep 48 = .ok (.iload_n 2, 1) := by decide +kernel
theorem dX9_keep_49 : decode cX9_keep 49 = .ok (.iconst 3, 1) := by decide +kernel
theorem dX9_keep_50 : decode cX9_keep 50 = .ok (.if_icmp .ne 22, 3) := by decide +kernel
theorem dX9_keep_53 : decode cX9_keep 53 = .ok (.aload_n 0, 1) := by decide +kernel
theorem dX9_keep_54 : decode cX9_keep 54 = .ok (.iload_n 3, 1) := by decide +kernel
theorem dX9_keep_55 : decode cX9_keep 55 = .ok (.iconst 0, 1) := by decide +kernel
theorem dX9_keep_56 : decode cX9_keep 56 = .ok (.aload_n 0, 1) := by decide +kernel
theorem dX9_keep_57 : decode cX9_keep 57 = .ok (.getfield 71, 3) := by decide +kernel
theorem dX9_keep_60 : decode cX9_keep 60 = .ok (.iconst 1, 1) := by decide +kernel
theorem dX9_keep_61 : decode cX9_keep 61 = .ok (.isub, 1) := by decide +kernel
theorem dX9_keep_62 : decode cX9_keep 62 = .ok (.invokevirtual 137, 3) := by decide +kernel
theorem dX9_keep_65 : decode cX9_keep 65 = .ok (.ifCond .eq 7, 3) := by decide +kernel
theorem dX9_keep_68 : decode cX9_keep 68 = .ok (.iconst 1, 1) := by decide +kernel
theorem dX9_keep_69 : decode cX9_keep 69 = .ok (.goto 4, 3) := by decide +kernel
theorem dX9_keep_72 : decode cX9_keep 72 = .ok (.iconst 0, 1) := by decide +kernel
theorem dX9_keep_73 : decode cX9_keep 73 = .ok (.istore 5, 2) := by decide +kernel
theorem dX9_keep_75 : decode cX9_keep 75 = .ok (.iload 5, 2) := by decide +kernel
theorem dX9_keep_77 : decode cX9_keep 77 = .ok (.ifCond .ne 5, 3) := by decide +kernel
theorem dX9_keep_80 : decode cX9_keep 80 = .ok (.iconst (-1), 1) := by decide +kernel
theorem dX9_keep_81 : decode cX9_keep 81 = .ok (.ireturn, 1) := by decide +kernel
theorem dX9_keep_82 : decode cX9_keep 82 = .ok (.aload_n 0, 1) := by decide +kernel
theorem dX9_keep_83 : decode cX9_keep 83 = .ok (.getfield 113, 3) := by decide +kernel
theorem dX9_keep_86 : decode cX9_keep 86 = .ok (.iload_n 1, 1) := by decide +kernel
theorem dX9_keep_87 : decode cX9_keep 87 = .ok (.iload_n 2, 1) := by decide +kernel
theorem dX9_keep_88 : decode cX9_keep 88 = .ok (.iastore, 1) := by decide +kernel
theorem dX9_keep_89 : decode cX9_keep 89 = .ok (.aload_n 0, 1) := by decide +kernel
theorem dX9_keep_90 : decode cX9_keep 90 = .ok (.iload_n 1, 1) := by decide +kernel
theorem dX9_keep_91 : decode cX9_keep 91 = .ok (.invokevirtual 225, 3) := by decide +kernel
theorem dX9_keep_94 : decode cX9_keep 94 = .ok (.iload_n 2, 1) := by decide +kernel
theorem dX9_keep_95 : decode cX9_keep 95 = .ok (.iconst 1, 1) := by decide +kernel
theorem dX9_keep_96 : decode cX9_keep 96 = .ok (.if_icmp .ne 57, 3) := by decide +kernel
theorem dX9_keep_99 : decode cX9_keep 99 = .ok (.aload_n 0, 1) := by decide +kernel
theorem dX9_keep_100 : decode cX9_keep 100 = .ok (.getfield 116, 3) := by decide +kernel
theorem dX9_keep_103 : decode cX9_keep 103 = .ok (.iload_n 1, 1) := by decide +kernel
theorem dX9_keep_104 : decode cX9_keep 104 = .ok (.aload_n 0, 1) := by decide +kernel
theorem dX9_keep_105 : decode cX9_keep 105 = .ok (.getfield 20, 3) := by decide +kernel
theorem dX9_keep_108 : decode cX9_keep 108 = .ok (.bipush 12, 2) := by decide +kernel
theorem dX9_keep_110 : decode cX9_keep 110 = .ok (.iload_n 3, 1) := by decide +kernel
theorem dX9_keep_111 : decode cX9_keep 111 = .ok (.imul, 1) := by decide +kernel
theorem dX9_keep_112 : decode cX9_keep 112 = .ok (.iload 4, 2) := by decide +kernel
theorem dX9_keep_114 : decode cX9_keep 114 = .ok (.iadd, 1) := by decide +kernel
theorem dX9_keep_115 : decode cX9_keep 115 = .ok (.iaload, 1) := by decide +kernel
theorem dX9_keep_116 : decode cX9_keep 116 = .ok (.iastore, 1) := by decide +kernel
theorem dX9_keep_117 : decode cX9_keep 117 = .ok (.aload_n 0, 1) := by decide +kernel
theorem dX9_keep_118 : decode cX9_keep 118 = .ok (.getfield 119, 3) := by decide +kernel
theorem dX9_keep_121 : decode cX9_keep 121 = .ok (.iload_n 1, 1) := by decide +kernel
theorem dX9_keep_122 : decode cX9_keep 122 = .ok (.aload_n 0, 1) := by decide +kernel
theorem dX9_keep_123 : decode cX9_keep 123 = .ok (.getfield 23, 3) := by decide +kernel
theorem dX9_keep_126 : decode cX9_keep 126 = .ok (.bipush 12, 2) := by decide +kernel
theorem dX9_keep_128 : decode cX9_keep 128 = .ok (.iload_n 3, 1) := by decide +kernel
theorem dX9_keep_129 : decode cX9_keep 129 = .ok (.imul, 1) := by decide +kernel
theorem dX9_keep_130 : decode cX9_keep 130 = .ok (.iload 4, 2) := by decide +kernel
theorem dX9_keep_132 : decode cX9_keep 132 = .ok (.iadd, 1) := by decide +kernel
theorem dX9_keep_133 : decode cX9_keep 133 = .ok (.iaload, 1) := by decide +kernel
theorem dX9_keep_134 : decode cX9_keep 134 = .ok (.iastore, 1) := by decide +kernel
theorem dX9_keep_135 : decode cX9_keep 135 = .ok (.aload_n 0, 1) := by decide +kernel
theorem dX9_keep_136 : decode cX9_keep 136 = .ok (.getfield 122, 3) := by decide +kernel
theorem dX9_keep_139 : decode cX9_keep 139 = .ok (.iload_n 1, 1) := by decide +kernel
theorem dX9_keep_140 : decode cX9_keep 140 = .ok (.aload_n 0, 1) := by decide +kernel
theorem dX9_keep_141 : decode cX9_keep 141 = .ok (.getfield 26, 3) := by decide +kernel
theorem dX9_keep_144 : decode cX9_keep 144 = .ok (.bipush 12, 2) := by decide +kernel
theorem dX9_keep_146 : decode cX9_keep 146 = .ok (.iload_n 3, 1) := by decide +kernel
theorem dX9_keep_147 : decode cX9_keep 147 = .ok (.imul, 1) := by decide +kernel
theorem dX9_keep_148 : decode cX9_keep 148 = .ok (.iload 4, 2) := by decide +kernel
theorem dX9_keep_150 : decode cX9_keep 150 = .ok (.iadd, 1) := by decide +kernel
theorem dX9_keep_151 : decode cX9_keep 151 = .ok (.iaload, 1) := by decide +kernel
theorem dX9_keep_152 : decode cX9_keep 152 = .ok (.iastore, 1) := by decide +kernel
theorem dX9_keep_153 : decode cX9_keep 153 = .ok (.aload_n 0, 1) := by decide +kernel
theorem dX9_keep_154 : decode cX9_keep 154 = .ok (.getfield 125, 3) := by decide +kernel
theorem dX9_keep_157 : decode cX9_keep 157 = .ok (.iload_n 1, 1) := by decide +kernel
theorem dX9_keep_158 : decode cX9_keep 158 = .ok (.iload_n 2, 1) := by decide +kernel
theorem dX9_keep_159 : decode cX9_keep 159 = .ok (.iconst 3, 1) := by decide +kernel
theorem dX9_keep_160 : decode cX9_keep 160 = .ok (.if_icmp .ne 10, 3) := by decide +kernel
theorem dX9_keep_163 : decode cX9_keep 163 = .ok (.aload_n 0, 1) := by decide +kernel
theorem dX9_keep_164 : decode cX9_keep 164 = .ok (.getfield 134, 3) := by decide +kernel
theorem dX9_keep_167 : decode cX9_keep 167 = .ok (.goto 7, 3) := by decide +kernel
theorem dX9_keep_170 : decode cX9_keep 170 = .ok (.aload_n 0, 1) := by decide +kernel
theorem dX9_keep_171 : decode cX9_keep 171 = .ok (.getfield 71, 3) := by decide +kernel
theorem dX9_keep_174 : decode cX9_keep 174 = .ok (.iastore, 1) := by decide +kernel
theorem dX9_keep_175 : decode cX9_keep 175 = .ok (.iconst 0, 1) := by decide +kernel
theorem dX9_keep_176 : decode cX9_keep 176 = .ok (.istore 6, 2) := by decide +kernel
theorem dX9_keep_178 : decode cX9_keep 178 = .ok (.iload 6, 2) := by decide +kernel
theorem dX9_keep_180 : decode cX9_keep 180 = .ok (.aload_n 0, 1) := by decide +kernel
theorem dX9_keep_181 : decode cX9_keep 181 = .ok (.getfield 134, 3) := by decide +kernel
theorem dX9_keep_184 : decode cX9_keep 184 = .ok (.if_icmp .ge 38, 3) := by decide +kernel
theorem dX9_keep_187 : decode cX9_keep 187 = .ok (.iload_n 2, 1) := by decide +kernel
theorem dX9_keep_188 : decode cX9_keep 188 = .ok (.iconst 3, 1) := by decide +kernel
theorem dX9_keep_189 : decode cX9_keep 189 = .ok (.if_icmp .ne 33, 3) := by decide +kernel
theorem dX9_keep_192 : decode cX9_keep 192 = .ok (.aload_n 0, 1) := by decide +kernel
theorem dX9_keep_193 : decode cX9_keep 193 = .ok (.getfield 128, 3) := by decide +kernel
theorem dX9_keep_196 : decode cX9_keep 196 = .ok (.bipush 60, 2) := by decide +kernel
theorem dX9_keep_198 : decode cX9_keep 198 = .ok (.iload_n 1, 1) := by decide +kernel
theorem dX9_keep_199 : decode cX9_keep 199 = .ok (.imul, 1) := by decide +kernel
theorem dX9_keep_200 : decode cX9_keep 200 = .ok (.iload 6, 2) := by decide +kernel
theorem dX9_keep_202 : decode cX9_keep 202 = .ok (.iadd, 1) := by decide +kernel
theorem dX9_keep_203 : decode cX9_keep 203 = .ok (.aload_n 0, 1) := by decide +kernel
theorem dX9_keep_204 : decode cX9_keep 204 = .ok (.getfield 77, 3) := by decide +kernel
theorem dX9_keep_207 : decode cX9_keep 207 = .ok (.bipush 40, 2) := by decide +kernel
theorem dX9_keep_209 : decode cX9_keep 209 = .ok (.iload_n 3, 1) := by decide +kernel
theorem dX9_keep_210 : decode cX9_keep 210 = .ok (.imul, 1) := by decide +kernel
theorem dX9_keep_211 : decode cX9_keep 211 = .ok (.iload 6, 2) := by decide +kernel
theorem dX9_keep_213 : decode cX9_keep 213 = .ok (.iadd, 1) := by decide +kernel
theorem dX9_keep_214 : decode cX9_keep 214 = .ok (.iaload, 1) := by decide +kernel
theorem dX9_keep_215 : decode cX9_keep 215 = .ok (.iastore, 1) := by decide +kernel
theorem dX9_keep_216 : decode cX9_keep 216 = .ok (.iinc 6 1, 3) := by decide +kernel
theorem dX9_keep_219 : decode cX9_keep 219 = .ok (.goto (-41), 3) := by decide +kernel
theorem dX9_keep_222 : decode cX9_keep 222 = .ok (.iconst 0, 1) := by decide +kernel
theorem dX9_keep_223 : decode cX9_keep 223 = .ok (.istore 6, 2) := by decide +kernel
theorem dX9_keep_225 : decode cX9_keep 225 = .ok (.iload 6, 2) := by decide +kernel
theorem dX9_keep_227 : decode cX9_keep 227 = .ok (.aload_n 0, 1) := by decide +kernel
theorem dX9_keep_228 : decode cX9_keep 228 = .ok (.getfield 71, 3) := by decide +kernel
theorem dX9_keep_231 : decode cX9_keep 231 = .ok (.if_icmp .ge 33, 3) := by decide +kernel
theorem dX9_keep_234 : decode cX9_keep 234 = .ok (.iload_n 2, 1) := by decide +kernel
theorem dX9_keep_235 : decode cX9_keep 235 = .ok (.iconst 4, 1) := by decide +kernel
theorem dX9_keep_236 : decode cX9_keep 236 = .ok (.if_icmp .ne 28, 3) := by decide +kernel
theorem dX9_keep_239 : decode cX9_keep 239 = .ok (.aload_n 0, 1) := by decide +kernel
theorem dX9_keep_240 : decode cX9_keep 240 = .ok (.getfield 128, 3) := by decide +kernel
theorem dX9_keep_243 : decode cX9_keep 243 = .ok (.bipush 60, 2) := by decide +kernel
theorem dX9_keep_245 : decode cX9_keep 245 = .ok (.iload_n 1, 1) := by decide +kernel
theorem dX9_keep_246 : decode cX9_keep 246 = .ok (.imul, 1) := by decide +kernel
theorem dX9_keep_247 : decode cX9_keep 247 = .ok (.iload 6, 2) := by decide +kernel
theorem dX9_keep_249 : decode cX9_keep 249 = .ok (.iadd, 1) := by decide +kernel
theorem dX9_keep_250 : decode cX9_keep 250 = .ok (.aload_n 0, 1) := by decide +kernel
theorem dX9_keep_251 : decode cX9_keep 251 = .ok (.getfield 86, 3) := by decide +kernel
theorem dX9_keep_254 : decode cX9_keep 254 = .ok (.iload 6, 2) := by decide +kernel
theorem dX9_keep_256 : decode cX9_keep 256 = .ok (.iaload, 1) := by decide +kernel
theorem dX9_keep_257 : decode cX9_keep 257 = .ok (.iastore, 1) := by decide +kernel
theorem dX9_keep_258 : decode cX9_keep 258 = .ok (.iinc 6 1, 3) := by decide +kernel
theorem dX9_keep_261 : decode cX9_keep 261 = .ok (.goto (-36), 3) := by decide +kernel
theorem dX9_keep_264 : decode cX9_keep 264 = .ok (.iconst 0, 1) := by decide +kernel
theorem dX9_keep_265 : decode cX9_keep 265 = .ok (.ireturn, 1) := by decide +kernel
theorem dX9_make_0 : decode cX9_make 0 = .ok (.aload_n 0, 1) := by decide +kernel
theorem dX9_make_1 : decode cX9_make 1 = .ok (.iload_n 1, 1) := by decide +kernel
theorem dX9_make_2 : decode cX9_make 2 = .ok (.invokevirtual 222, 3) := by decide +kernel
theorem dX9_make_5 : decode cX9_make 5 = .ok (.ifCond .eq 19, 3) := by decide +kernel
theorem dX9_make_8 : decode cX9_make 8 = .ok (.aload_n 0, 1) := by decide +kernel
theorem dX9_make_9 : decode cX9_make 9 = .ok (.iload_n 2, 1) := by decide +kernel
theorem dX9_make_10 : decode cX9_make 10 = .ok (.iconst 3, 1) := by decide +kernel
theorem dX9_make_11 : decode cX9_make 11 = .ok (.iconst 4, 1) := by decide +kernel
theorem dX9_make_12 : decode cX9_make 12 = .ok (.invokevirtual 137, 3) := by decide +kernel
theorem dX9_make_15 : decode cX9_make 15 = .ok (.ifCond .eq 9, 3) := by decide +kernel
theorem dX9_make_18 : decode cX9_make 18 = .ok (.iload_n 3, 1) := by decide +kernel
theorem dX9_make_19 : decode cX9_make 19 = .ok (.bipush 60, 2) := by decide +kernel
theorem dX9_make_21 : decode cX9_make 21 = .ok (.if_icmp .le 5, 3) := by decide +kernel
theorem dX9_make_24 : decode cX9_make 24 = .ok (.iconst (-1), 1) := by decide +kernel
theorem dX9_make_25 : decode cX9_make 25 = .ok (.ireturn, 1) := by decide +kernel
theorem dX9_make_26 : decode cX9_make 26 = .ok (.iload_n 3, 1) := by decide +kernel
theorem dX9_make_27 : decode cX9_make 27 = .ok (.ifCond .ge 6, 3) := by decide +kernel
theorem dX9_make_30 : decode cX9_make 30 = .ok (.bipush (-14), 2) := by decide +kernel
theorem dX9_make_32 : decode cX9_make 32 = .ok (.ireturn, 1) := by decide +kernel
theorem dX9_make_33 : decode cX9_make 33 = .ok (.aload_n 0, 1) := by decide +kernel
theorem dX9_make_34 : decode cX9_make 34 = .ok (.getfield 113, 3) := by decide +kernel
theorem dX9_make_37 : decode cX9_make 37 = .ok (.iload_n 1, 1) := by decide +kernel
theorem dX9_make_38 : decode cX9_make 38 = .ok (.iload_n 2, 1) := by decide +kernel
theorem dX9_make_39 : decode cX9_make 39 = .ok (.iastore, 1) := by decide +kernel
theorem dX9_make_40 : decode cX9_make 40 = .ok (.aload_n 0, 1) := by decide +kernel
theorem dX9_make_41 : decode cX9_make 41 = .ok (.getfield 125, 3) := by decide +kernel
theorem dX9_make_44 : decode cX9_make 44 = .ok (.iload_n 1, 1) := by decide +kernel
theorem dX9_make_45 : decode cX9_make 45 = .ok (.iload_n 3, 1) := by decide +kernel
theorem dX9_make_46 : decode cX9_make 46 = .ok (.iastore, 1) := by decide +kernel
theorem dX9_make_47 : decode cX9_make 47 = .ok (.aload_n 0, 1) := by decide +kernel
theorem dX9_make_48 : decode cX9_make 48 = .ok (.iload_n 1, 1) := by decide +kernel
theorem dX9_make_49 : decode cX9_make 49 = .ok (.invokevirtual 225, 3) := by decide +kernel
theorem dX9_make_52 : decode cX9_make 52 = .ok (.iconst 0, 1) := by decide +kernel
theorem dX9_make_53 : decode cX9_make 53 = .ok (.ireturn, 1) := by decide +kernel
theorem dX9_element_0 : decode cX9_element 0 = .ok (.aload_n 0, 1) := by decide +kernel
theorem dX9_element_1 : decode cX9_element 1 = .ok (.aload_n 0, 1) := by decide +kernel
theorem dX9_element_2 : decode cX9_element 2 = .ok (.iload_n 1, 1) := by decide +kernel
theorem dX9_element_3 : decode cX9_element 3 = .ok (.invokevirtual 222, 3) := by decide +kernel
theorem dX9_element_6 : decode cX9_element 6 = .ok (.ifCond .ne 7, 3) := by decide +kernel
theorem dX9_element_9 : decode cX9_element 9 = .ok (.iconst 1, 1) := by decide +kernel
theorem dX9_element_10 : decode cX9_element 10 = .ok (.goto 35, 3) := by decide +kernel
theorem dX9_element_13 : decode cX9_element 13 = .ok (.aload_n 0, 1) := by decide +kernel
theorem dX9_element_14 : decode cX9_element 14 = .ok (.getfield 113, 3) := by decide +kernel
theorem dX9_element_17 : decode cX9_element 17 = .ok (.iload_n 1, 1) := by decide +kernel
theorem dX9_element_18 : decode cX9_element 18 = .ok (.iaload, 1) := by decide +kernel
theorem dX9_element_19 : decode cX9_element 19 = .ok (.iconst 3, 1) := by decide +kernel
theorem dX9_element_20 : decode cX9_element 20 = .ok (.if_icmp .lt 20, 3) := by decide +kernel
theorem dX9_element_23 : decode cX9_element 23 = .ok (.aload_n 0, 1) := by decide +kernel
theorem dX9_element_24 : decode cX9_element 24 = .ok (.iload_n 2, 1) := by decide +kernel
theorem dX9_element_25 : decode cX9_element 25 = .ok (.iconst 0, 1) := by decide +kernel
theorem dX9_element_26 : decode cX9_element 26 = .ok (.aload_n 0, 1) := by decide +kernel
theorem dX9_element_27 : decode cX9_element 27 = .ok (.getfield 125, 3) := by decide +kernel
theorem dX9_element_30 : decode cX9_element 30 = .ok (.iload_n 1, 1) := by decide +kernel
theorem dX9_element_31 : decode cX9_element 31 = .ok (.iaload, 1) := by decide +kernel
theorem dX9_element_32 : decode cX9_element 32 = .ok (.iconst 1, 1) := by decide +kernel
theorem dX9_element_33 : decode cX9_element 33 = .ok (.isub, 1) := by decide +kernel
theorem dX9_element_34 : decode cX9_element 34 = .ok (.invokevirtual 137, 3) := by decide +kernel
theorem dX9_element_37 : decode cX9_element 37 = .ok (.ifCond .ne 7, 3) := by decide +kernel
theorem dX9_element_40 : decode cX9_element 40 = .ok (.iconst 2, 1) := by decide +kernel
theorem dX9_element_41 : decode cX9_element 41 = .ok (.goto 4, 3) := by decide +kernel
theorem dX9_element_44 : decode cX9_element 44 = .ok (.iconst 0, 1) := by decide +kernel
theorem dX9_element_45 : decode cX9_element 45 = .ok (.putfield 1, 3) := by decide +kernel
theorem dX9_element_48 : decode cX9_element 48 = .ok (.aload_n 0, 1) := by decide +kernel
theorem dX9_element_49 : decode cX9_element 49 = .ok (.getfield 1, 3) := by decide +kernel
theorem dX9_element_52 : decode cX9_element 52 = .ok (.ifCond .le 7, 3) := by decide +kernel
theorem dX9_element_55 : decode cX9_element 55 = .ok (.lconst 0, 1) := by decide +kernel
theorem dX9_element_56 : decode cX9_element 56 = .ok (.goto 15, 3) := by decide +kernel
theorem dX9_element_59 : decode cX9_element 59 = .ok (.aload_n 0, 1) := by decide +kernel
theorem dX9_element_60 : decode cX9_element 60 = .ok (.getfield 128, 3) := by decide +kernel
theorem dX9_element_63 : decode cX9_element 63 = .ok (.bipush 60, 2) := by decide +kernel
theorem dX9_element_65 : decode cX9_element 65 = .ok (.iload_n 1, 1) := by decide +kernel
theorem dX9_element_66 : decode cX9_element 66 = .ok (.imul, 1) := by decide +kernel
theorem dX9_element_67 : decode cX9_element 67 = .ok (.iload_n 2, 1) := by decide +kernel
theorem dX9_element_68 : decode cX9_element 68 = .ok (.iadd, 1) := by decide +kernel
theorem dX9_element_69 : decode cX9_element 69 = .ok (.iaload, 1) := by decide +kernel
theorem dX9_element_70 : decode cX9_element 70 = .ok (.i2l, 1) := by decide +kernel
theorem dX9_element_71 : decode cX9_element 71 = .ok (.lreturn, 1) := by decide +kernel
theorem dX9_copy_0 : decode cX9_copy 0 = .ok (.aload_n 0, 1) := by decide +kernel
theorem dX9_copy_1 : decode cX9_copy 1 = .ok (.iload_n 1, 1) := by decide +kernel
theorem dX9_copy_2 : decode cX9_copy 2 = .ok (.invokevirtual 222, 3) := by decide +kernel
theorem dX9_copy_5 : decode cX9_copy 5 = .ok (.ifCond .eq 11, 3) := by decide +kernel
theorem dX9_copy_8 : decode cX9_copy 8 = .ok (.aload_n 0, 1) := by decide +kernel
theorem dX9_copy_9 : decode cX9_copy 9 = .ok (.iload_n 3, 1) := by decide +kernel
theorem dX9_copy_10 : decode cX9_copy 10 = .ok (.invokevirtual 222, 3) := by decide +kernel
theorem dX9_copy_13 : decode cX9_copy 13 = .ok (.ifCond .ne 5, 3) := by decide +kernel
theorem dX9_copy_16 : decode cX9_copy 16 = .ok (.iconst (-1), 1) := by decide +kernel
theorem dX9_copy_17 : decode cX9_copy 17 = .ok (.ireturn, 1) := by decide +kernel
theorem dX9_copy_18 : decode cX9_copy 18 = .ok (.aload_n 0, 1) := by decide +kernel
theorem dX9_copy_19 : decode cX9_copy 19 = .ok (.getfield 113, 3) := by decide +kernel
theorem dX9_copy_22 : decode cX9_copy 22 = .ok (.iload_n 1, 1) := by decide +kernel
theorem dX9_copy_23 : decode cX9_copy 23 = .ok (.iaload, 1) := by decide +kernel
theorem dX9_copy_24 : decode cX9_copy 24 = .ok (.ifCond .eq 12, 3) := by decide +kernel
theorem dX9_copy_27 : decode cX9_copy 27 = .ok (.aload_n 0, 1) := by decide +kernel
theorem dX9_copy_28 : decode cX9_copy 28 = .ok (.getfield 113, 3) := by decide +kernel
theorem dX9_copy_31 : decode cX9_copy 31 = .ok (.iload_n 3, 1) := by decide +kernel
theorem dX9_copy_32 : decode cX9_copy 32 = .ok (.iaload, 1) := by decide +kernel
theorem dX9_copy_33 : decode cX9_copy 33 = .ok (.ifCond .ne 6, 3) := by decide +kernel
theorem dX9_copy_36 : decode cX9_copy 36 = .ok (.bipush (-11), 2) := by decide +kernel
theorem dX9_copy_38 : decode cX9_copy 38 = .ok (.ireturn, 1) := by decide +kernel
theorem dX9_copy_39 : decode cX9_copy 39 = .ok (.aload_n 0, 1) := by decide +kernel
theorem dX9_copy_40 : decode cX9_copy 40 = .ok (.getfield 113, 3) := by decide +kernel
theorem dX9_copy_43 : decode cX9_copy 43 = .ok (.iload_n 1, 1) := by decide +kernel
theorem dX9_copy_44 : decode cX9_copy 44 = .ok (.iaload, 1) := by decide +kernel
theorem dX9_copy_45 : decode cX9_copy 45 = .ok (.iconst 3, 1) := by decide +kernel
theorem dX9_copy_46 : decode cX9_copy 46 = .ok (.if_icmp .lt 18, 3) := by decide +kernel
theorem dX9_copy_49 : decode cX9_copy 49 = .ok (.aload_n 0, 1) := by decide +kernel
theorem dX9_copy_50 : decode cX9_copy 50 = .ok (.getfield 113, 3) := by decide +kernel
theorem dX9_copy_53 : decode cX9_copy 53 = .ok (.iload_n 1, 1) := by decide +kernel
theorem dX9_copy_54 : decode cX9_copy 54 = .ok (.iaload, 1) := by decide +kernel
theorem dX9_copy_55 : decode cX9_copy 55 = .ok (.aload_n 0, 1) := by decide +kernel
theorem dX9_copy_56 : decode cX9_copy 56 = .ok (.getfield 113, 3) := by decide +kernel
theorem dX9_copy_59 : decode cX9_copy 59 = .ok (.iload_n 3, 1) := by decide +kernel
theorem dX9_copy_60 : decode cX9_copy 60 = .ok (.iaload, 1) := by decide +kernel
theorem dX9_copy_61 : decode cX9_copy 61 = .ok (.if_icmp .eq 6, 3) := by decide +kernel
theorem dX9_copy_64 : decode cX9_copy 64 = .ok (.bipush (-12), 2) := by decide +kernel
theorem dX9_copy_66 : decode cX9_copy 66 = .ok (.ireturn, 1) := by decide +kernel
theorem dX9_copy_67 : decode cX9_copy 67 = .ok (.iload 5, 2) := by decide +kernel
theorem dX9_copy_69 : decode cX9_copy 69 = .ok (.ifCond .lt 39, 3) := by decide +kernel
theorem dX9_copy_72 : decode cX9_copy 72 = .ok (.iload_n 2, 1) := by decide +kernel
theorem dX9_copy_73 : decode cX9_copy 73 = .ok (.ifCond .lt 35, 3) := by decide +kernel
theorem dX9_copy_76 : decode cX9_copy 76 = .ok (.iload 4, 2) := by decide +kernel
theorem dX9_copy_78 : decode cX9_copy 78 = .ok (.ifCond .lt 30, 3) := by decide +kernel
theorem dX9_copy_81 : decode cX9_copy 81 = .ok (.iload_n 2, 1) := by decide +kernel
theorem dX9_copy_82 : decode cX9_copy 82 = .ok (.aload_n 0, 1) := by decide +kernel
theorem dX9_copy_83 : decode cX9_copy 83 = .ok (.getfield 125, 3) := by decide +kernel
theorem dX9_copy_86 : decode cX9_copy 86 = .ok (.iload_n 1, 1) := by decide +kernel
theorem dX9_copy_87 : decode cX9_copy 87 = .ok (.iaload, 1) := by decide +kernel
theorem dX9_copy_88 : decode cX9_copy 88 = .ok (.iload 5, 2) := by decide +kernel
theorem dX9_copy_90 : decode cX9_copy 90 = .ok (.isub, 1) := by decide +kernel
theorem dX9_copy_91 : decode cX9_copy 91 = .ok (.if_icmp .gt 17, 3) := by decide +kernel
theorem dX9_copy_94 : decode cX9_copy 94 = .ok (.iload 4, 2) := by decide +kernel
theorem dX9_copy_96 : decode cX9_copy 96 = .ok (.aload_n 0, 1) := by decide +kernel
theorem dX9_copy_97 : decode cX9_copy 97 = .ok (.getfield 125, 3) := by decide +kernel
theorem dX9_copy_100 : decode cX9_copy 100 = .ok (.iload_n 3, 1) := by decide +kernel
theorem dX9_copy_101 : decode cX9_copy 101 = .ok (.iaload, 1) := by decide +kernel
theorem dX9_copy_102 : decode cX9_copy 102 = .ok (.iload 5, 2) := by decide +kernel
theorem dX9_copy_104 : decode cX9_copy 104 = .ok (.isub, 1) := by decide +kernel
theorem dX9_copy_105 : decode cX9_copy 105 = .ok (.if_icmp .le 6, 3) := by decide +kernel
theorem dX9_copy_108 : decode cX9_copy 108 = .ok (.bipush (-13), 2) := by decide +kernel
theorem dX9_copy_110 : decode cX9_copy 110 = .ok (.ireturn, 1) := by decide +kernel
theorem dX9_copy_111 : decode cX9_copy 111 = .ok (.iconst 0, 1) := by decide +kernel
theorem dX9_copy_112 : decode cX9_copy 112 = .ok (.istore 6, 2) := by decide +kernel
theorem dX9_copy_114 : decode cX9_copy 114 = .ok (.iload 6, 2) := by decide +kernel
theorem dX9_copy_116 : decode cX9_copy 116 = .ok (.iload 5, 2) := by decide +kernel
theorem dX9_copy_118 : decode cX9_copy 118 = .ok (.if_icmp .ge 30, 3) := by decide +kernel
theorem dX9_copy_121 : decode cX9_copy 121 = .ok (.aload_n 0, 1) := by decide +kernel
theorem dX9_copy_122 : decode cX9_copy 122 = .ok (.getfield 131, 3) := by decide +kernel
theorem dX9_copy_125 : decode cX9_copy 125 = .ok (.iload 6, 2) := by decide +kernel
theorem dX9_copy_127 : decode cX9_copy 127 = .ok (.aload_n 0, 1) := by decide +kernel
theorem dX9_copy_128 : decode cX9_copy 128 = .ok (.getfield 128, 3) := by decide +kernel
theorem dX9_copy_131 : decode cX9_copy 131 = .ok (.bipush 60, 2) := by decide +kernel
theorem dX9_copy_133 : decode cX9_copy 133 = .ok (.iload_n 1, 1) := by decide +kernel
theorem dX9_copy_134 : decode cX9_copy 134 = .ok (.imul, 1) := by decide +kernel
theorem dX9_copy_135 : decode cX9_copy 135 = .ok (.iload_n 2, 1) := by decide +kernel
theorem dX9_copy_136 : decode cX9_copy 136 = .ok (.iadd, 1) := by decide +kernel
theorem dX9_copy_137 : decode cX9_copy 137 = .ok (.iload 6, 2) := by decide +kernel
theorem dX9_copy_139 : decode cX9_copy 139 = .ok (.iadd, 1) := by decide +kernel
theorem dX9_copy_140 : decode cX9_copy 140 = .ok (.iaload, 1) := by decide +kernel
theorem dX9_copy_141 : decode cX9_copy 141 = .ok (.iastore, 1) := by decide +kernel
theorem dX9_copy_142 : decode cX9_copy 142 = .ok (.iinc 6 1, 3) := by decide +kernel
theorem dX9_copy_145 : decode cX9_copy 145 = .ok (.goto (-31), 3) := by decide +kernel
theorem dX9_copy_148 : decode cX9_copy 148 = .ok (.iconst 0, 1) := by decide +kernel
theorem dX9_copy_149 : decode cX9_copy 149 = .ok (.istore 6, 2) := by decide +kernel
theorem dX9_copy_151 : decode cX9_copy 151 = .ok (.iload 6, 2) := by decide +kernel
theorem dX9_copy_153 : decode cX9_copy 153 = .ok (.iload 5, 2) := by decide +kernel
theorem dX9_copy_155 : decode cX9_copy 155 = .ok (.if_icmp .ge 31, 3) := by decide +kernel
theorem dX9_copy_158 : decode cX9_copy 158 = .ok (.aload_n 0, 1) := by decide +kernel
theorem dX9_copy_159 : decode cX9_copy 159 = .ok (.getfield 128, 3) := by decide +kernel
theorem dX9_copy_162 : decode cX9_copy 162 = .ok (.bipush 60, 2) := by decide +kernel
theorem dX9_copy_164 : decode cX9_copy 164 = .ok (.iload_n 3, 1) := by decide +kernel
theorem dX9_copy_165 : decode cX9_copy 165 = .ok (.imul, 1) := by decide +kernel
theorem dX9_copy_166 : decode cX9_copy 166 = .ok (.iload 4, 2) := by decide +kernel
theorem dX9_copy_168 : decode cX9_copy 168 = .ok (.iadd, 1) := by decide +kernel
theorem dX9_copy_169 : decode cX9_copy 169 = .ok (.iload 6, 2) := by decide +kernel
theorem dX9_copy_171 : decode cX9_copy 171 = .ok (.iadd, 1) := by decide +kernel
theorem dX9_copy_172 : decode cX9_copy 172 = .ok (.aload_n 0, 1) := by decide +kernel
theorem dX9_copy_173 : decode cX9_copy 173 = .ok (.getfield 131, 3) := by decide +kernel
theorem dX9_copy_176 : decode cX9_copy 176 = .ok (.iload 6, 2) := by decide +kernel
theorem dX9_copy_178 : decode cX9_copy 178 = .ok (.iaload, 1) := by decide +kernel
theorem dX9_copy_179 : decode cX9_copy 179 = .ok (.iastore, 1) := by decide +kernel
theorem dX9_copy_180 : decode cX9_copy 180 = .ok (.iinc 6 1, 3) := by decide +kernel
theorem dX9_copy_183 : decode cX9_copy 183 = .ok (.goto (-32), 3) := by decide +kernel
theorem dX9_copy_186 : decode cX9_copy 186 = .ok (.iload 5, 2) := by decide +kernel
theorem dX9_copy_188 : decode cX9_copy 188 = .ok (.ireturn, 1) := by decide +kernel
theorem dX9_lacksStep_0 : decode cX9_lacksStep 0 = .ok (.aload_n 0, 1) := by decide +kernel
theorem dX9_lacksStep_1 : decode cX9_lacksStep 1 = .ok (.iload_n 1, 1) := by decide +kernel
theorem dX9_lacksStep_2 : decode cX9_lacksStep 2 = .ok (.invokevirtual 222, 3) := by decide +kernel
theorem dX9_lacksStep_5 : decode cX9_lacksStep 5 = .ok (.ifCond .ne 7, 3) := by decide +kernel
theorem dX9_lacksStep_8 : decode cX9_lacksStep 8 = .ok (.iconst (-1), 1) := by decide +kernel
theorem dX9_lacksStep_9 : decode cX9_lacksStep 9 = .ok (.goto 33, 3) := by decide +kernel
theorem dX9_lacksStep_12 : decode cX9_lacksStep 12 = .ok (.aload_n 0, 1) := by decide +kernel
theorem dX9_lacksStep_13 : decode cX9_lacksStep 13 = .ok (.getfield 113, 3) := by decide +kernel
theorem dX9_lacksStep_16 : decode cX9_lacksStep 16 = .ok (.iload_n 1, 1) := by decide +kernel
theorem dX9_lacksStep_17 : decode cX9_lacksStep 17 = .ok (.iaload, 1) := by decide +kernel
theorem dX9_lacksStep_18 : decode cX9_lacksStep 18 = .ok (.ifCond .ne 8, 3) := by decide +kernel
theorem dX9_lacksStep_21 : decode cX9_lacksStep 21 = .ok (.bipush (-11), 2) := by decide +kernel
theorem dX9_lacksStep_23 : decode cX9_lacksStep 23 = .ok (.goto 19, 3) := by decide +kernel
theorem dX9_lacksStep_26 : decode cX9_lacksStep 26 = .ok (.aload_n 0, 1) := by decide +kernel
theorem dX9_lacksStep_27 : decode cX9_lacksStep 27 = .ok (.getfield 113, 3) := by decide +kernel
theorem dX9_lacksStep_30 : decode cX9_lacksStep 30 = .ok (.iload_n 1, 1) := by decide +kernel
theorem dX9_lacksStep_31 : decode cX9_lacksStep 31 = .ok (.iaload, 1) := by decide +kernel
theorem dX9_lacksStep_32 : decode cX9_lacksStep 32 = .ok (.iconst 1, 1) := by decide +kernel
theorem dX9_lacksStep_33 : decode cX9_lacksStep 33 = .ok (.if_icmp .eq 8, 3) := by decide +kernel
theorem dX9_lacksStep_36 : decode cX9_lacksStep 36 = .ok (.bipush (-12), 2) := by decide +kernel
theorem dX9_lacksStep_38 : decode cX9_lacksStep 38 = .ok (.goto 4, 3) := by decide +kernel
theorem dX9_lacksStep_41 : decode cX9_lacksStep 41 = .ok (.iconst 0, 1) := by decide +kernel
theorem dX9_lacksStep_42 : decode cX9_lacksStep 42 = .ok (.ireturn, 1) := by decide +kernel
theorem dX9_weight_0 : decode cX9_weight 0 = .ok (.aload_n 0, 1) := by decide +kernel
theorem dX9_weight_1 : decode cX9_weight 1 = .ok (.iload_n 1, 1) := by decide +kernel
theorem dX9_weight_2 : decode cX9_weight 2 = .ok (.invokevirtual 229, 3) := by decide +kernel
theorem dX9_weight_5 : decode cX9_weight 5 = .ok (.ifCond .eq 9, 3) := by decide +kernel
theorem dX9_weight_8 : decode cX9_weight 8 = .ok (.aload_n 0, 1) := by decide +kernel
theorem dX9_weight_9 : decode cX9_weight 9 = .ok (.iload_n 1, 1) := by decide +kernel
theorem dX9_weight_10 : decode cX9_weight 10 = .ok (.invokevirtual 229, 3) := by decide +kernel
theorem dX9_weight_13 : decode cX9_weight 13 = .ok (.ireturn, 1) := by decide +kernel
theorem dX9_weight_14 : decode cX9_weight 14 = .ok (.aload_n 0, 1) := by decide +kernel
theorem dX9_weight_15 : decode cX9_weight 15 = .ok (.getfield 116, 3) := by decide +kernel
theorem dX9_weight_18 : decode cX9_weight 18 = .ok (.iload_n 1, 1) := by decide +kernel
theorem dX9_weight_19 : decode cX9_weight 19 = .ok (.iaload, 1) := by decide +kernel
theorem dX9_weight_20 : decode cX9_weight 20 = .ok (.istore_n 2, 1) := by decide +kernel
theorem dX9_weight_21 : decode cX9_weight 21 = .ok (.bipush 10, 2) := by decide +kernel
theorem dX9_weight_23 : decode cX9_weight 23 = .ok (.iload_n 2, 1) := by decide +kernel
theorem dX9_weight_24 : decode cX9_weight 24 = .ok (.iadd, 1) := by decide +kernel
theorem dX9_weight_25 : decode cX9_weight 25 = .ok (.aload_n 0, 1) := by decide +kernel
theorem dX9_weight_26 : decode cX9_weight 26 = .ok (.iload_n 2, 1) := by decide +kernel
theorem dX9_weight_27 : decode cX9_weight 27 = .ok (.invokevirtual 141, 3) := by decide +kernel
theorem dX9_weight_30 : decode cX9_weight 30 = .ok (.ifCond .eq 12, 3) := by decide +kernel
theorem dX9_weight_33 : decode cX9_weight 33 = .ok (.aload_n 0, 1) := by decide +kernel
theorem dX9_weight_34 : decode cX9_weight 34 = .ok (.getfield 122, 3) := by decide +kernel
theorem dX9_weight_37 : decode cX9_weight 37 = .ok (.iload_n 1, 1) := by decide +kernel
theorem dX9_weight_38 : decode cX9_weight 38 = .ok (.iaload, 1) := by decide +kernel
theorem dX9_weight_39 : decode cX9_weight 39 = .ok (.goto 4, 3) := by decide +kernel
theorem dX9_weight_42 : decode cX9_weight 42 = .ok (.iconst 0, 1) := by decide +kernel
theorem dX9_weight_43 : decode cX9_weight 43 = .ok (.iadd, 1) := by decide +kernel
theorem dX9_weight_44 : decode cX9_weight 44 = .ok (.iload_n 2, 1) := by decide +kernel
theorem dX9_weight_45 : decode cX9_weight 45 = .ok (.iconst 1, 1) := by decide +kernel
theorem dX9_weight_46 : decode cX9_weight 46 = .ok (.if_icmp .ne 8, 3) := by decide +kernel
theorem dX9_weight_49 : decode cX9_weight 49 = .ok (.bipush 100, 2) := by decide +kernel
theorem dX9_weight_51 : decode cX9_weight 51 = .ok (.goto 4, 3) := by decide +kernel
theorem dX9_weight_54 : decode cX9_weight 54 = .ok (.iconst 0, 1) := by decide +kernel
theorem dX9_weight_55 : decode cX9_weight 55 = .ok (.iadd, 1) := by decide +kernel
theorem dX9_weight_56 : decode cX9_weight 56 = .ok (.iload_n 2, 1) := by decide +kernel
theorem dX9_weight_57 : decode cX9_weight 57 = .ok (.iconst 2, 1) := by decide +kernel
theorem dX9_weight_58 : decode cX9_weight 58 = .ok (.if_icmp .eq 8, 3) := by decide +kernel
theorem dX9_weight_61 : decode cX9_weight 61 = .ok (.iload_n 2, 1) := by decide +kernel
theorem dX9_weight_62 : decode cX9_weight 62 = .ok (.iconst 3, 1) := by decide +kernel
theorem dX9_weight_63 : decode cX9_weight 63 = .ok (.if_icmp .ne 9, 3) := by decide +kernel
theorem dX9_weight_66 : decode cX9_weight 66 = .ok (.sipush 1000, 3) := by decide +kernel
theorem dX9_weight_69 : decode cX9_weight 69 = .ok (.goto 4, 3) := by decide +kernel
theorem dX9_weight_72 : decode cX9_weight 72 = .ok (.iconst 0, 1) := by decide +kernel
theorem dX9_weight_73 : decode cX9_weight 73 = .ok (.iadd, 1) := by decide +kernel
theorem dX9_weight_74 : decode cX9_weight 74 = .ok (.aload_n 0, 1) := by decide +kernel
theorem dX9_weight_75 : decode cX9_weight 75 = .ok (.iload_n 2, 1) := by decide +kernel
theorem dX9_weight_76 : decode cX9_weight 76 = .ok (.invokevirtual 148, 3) := by decide +kernel
theorem dX9_weight_79 : decode cX9_weight 79 = .ok (.ifCond .eq 12, 3) := by decide +kernel
theorem dX9_weight_82 : decode cX9_weight 82 = .ok (.aload_n 0, 1) := by decide +kernel
theorem dX9_weight_83 : decode cX9_weight 83 = .ok (.getfield 119, 3) := by decide +kernel
theorem dX9_weight_86 : decode cX9_weight 86 = .ok (.iload_n 1, 1) := by decide +kernel
theorem dX9_weight_87 : decode cX9_weight 87 = .ok (.iaload, 1) := by decide +kernel
theorem dX9_weight_88 : decode cX9_weight 88 = .ok (.goto 4, 3) := by decide +kernel
theorem dX9_weight_91 : decode cX9_weight 91 = .ok (.iconst 0, 1) := by decide +kernel
theorem dX9_weight_92 : decode cX9_weight 92 = .ok (.iadd, 1) := by decide +kernel
theorem dX9_weight_93 : decode cX9_weight 93 = .ok (.istore_n 3, 1) := by decide +kernel
theorem dX9_weight_94 : decode cX9_weight 94 = .ok (.iload_n 2, 1) := by decide +kernel
theorem dX9_weight_95 : decode cX9_weight 95 = .ok (.iconst 3, 1) := by decide +kernel
theorem dX9_weight_96 : decode cX9_weight 96 = .ok (.if_icmp .ne 9, 3) := by decide +kernel
theorem dX9_weight_99 : decode cX9_weight 99 = .ok (.iconst 2, 1) := by decide +kernel
theorem dX9_weight_100 : decode cX9_weight 100 = .ok (.iload_n 3, 1) := by decide +kernel
theorem dX9_weight_101 : decode cX9_weight 101 = .ok (.imul, 1) := by decide +kernel
theorem dX9_weight_102 : decode cX9_weight 102 = .ok (.goto 4, 3) := by decide +kernel
theorem dX9_weight_105 : decode cX9_weight 105 = .ok (.iload_n 3, 1) := by decide +kernel
theorem dX9_weight_106 : decode cX9_weight 106 = .ok (.ireturn, 1) := by decide +kernel
theorem dX9_toss_0 : decode cX9_toss 0 = .ok (.aload_n 0, 1) := by decide +kernel
theorem dX9_toss_1 : decode cX9_toss 1 = .ok (.iload_n 1, 1) := by decide +kernel
theorem dX9_toss_2 : decode cX9_toss 2 = .ok (.invokevirtual 229, 3) := by decide +kernel
theorem dX9_toss_5 : decode cX9_toss 5 = .ok (.ifCond .eq 9, 3) := by decide +kernel
theorem dX9_toss_8 : decode cX9_toss 8 = .ok (.aload_n 0, 1) := by decide +kernel
theorem dX9_toss_9 : decode cX9_toss 9 = .ok (.iload_n 1, 1) := by decide +kernel
theorem dX9_toss_10 : decode cX9_toss 10 = .ok (.invokevirtual 229, 3) := by decide +kernel
theorem dX9_toss_13 : decode cX9_toss 13 = .ok (.ireturn, 1) := by decide +kernel
theorem dX9_toss_14 : decode cX9_toss 14 = .ok (.aload_n 0, 1) := by decide +kernel
theorem dX9_toss_15 : decode cX9_toss 15 = .ok (.aload_n 0, 1) := by decide +kernel
theorem dX9_toss_16 : decode cX9_toss 16 = .ok (.getfield 116, 3) := by decide +kernel
theorem dX9_toss_19 : decode cX9_toss 19 = .ok (.iload_n 1, 1) := by decide +kernel
theorem dX9_toss_20 : decode cX9_toss 20 = .ok (.iaload, 1) := by decide +kernel
theorem dX9_toss_21 : decode cX9_toss 21 = .ok (.invokevirtual 148, 3) := by decide +kernel
theorem dX9_toss_24 : decode cX9_toss 24 = .ok (.ifCond .eq 12, 3) := by decide +kernel
theorem dX9_toss_27 : decode cX9_toss 27 = .ok (.aload_n 0, 1) := by decide +kernel
theorem dX9_toss_28 : decode cX9_toss 28 = .ok (.getfield 119, 3) := by decide +kernel
theorem dX9_toss_31 : decode cX9_toss 31 = .ok (.iload_n 1, 1) := by decide +kernel
theorem dX9_toss_32 : decode cX9_toss 32 = .ok (.iaload, 1) := by decide +kernel
theorem dX9_toss_33 : decode cX9_toss 33 = .ok (.goto 5, 3) := by decide +kernel
theorem dX9_toss_36 : decode cX9_toss 36 = .ok (.bipush (-15), 2) := by decide +kernel
theorem dX9_toss_38 : decode cX9_toss 38 = .ok (.ireturn, 1) := by decide +kernel
end
section
/-! THE FRAMEWORK. Every method's world is the whole world: cells numbered from the base gB on, in the order in which they were made; a reference in the picture is a cell's number; '.float 0' stands for ArrayList's empty static array, '.float 1' for the law's script. WW: the machine at a frame of the picture; MM: a method's contract over pictures. -/
abbrev Gw : Type := (Nat → ClassId) × (Nat → Nat → Nat) × (Nat → ClassId) × Nat × Nat × Nat × Nat × (Nat → Int32)
def gD (g : Gw) : va_G := (g.1, g.2.1)
def gA (g : Gw) : Nat → ClassId := g.2.2.1
def gB (g : Gw) : Nat := g.2.2.2.1
def gE (g : Gw) : Nat := g.2.2.2.2.1
def gS (g : Gw) : Nat := g.2.2.2.2.2.1
def gL (g : Gw) : Nat := g.2.2.2.2.2.2.1
def gX (g : Gw) : Nat → Int32 := g.2.2.2.2.2.2.2
abbrev Sg : Type := (Nat → va_E) × Nat
abbrev Md : Type := MethodName × ByteArray × Nat × Option FieldType
def fw_TE : u_T := fun _ => ("", "", "", false)
abbrev kcls : List vw_C := [(RX0, TX0, 9), (RX1, TX1, 6), (RX2, TX2, 1), (RX3, TX3, 5), (RX4, TX4, 4), (RX5, TX5, 3), (RX6, TX6, 8), (RX7, TX7, 3), (RX8, TX8, 5), (RX9, TX9, 42), (RJx4a65c, TJx4a65c, 3), ("java/lang/IllegalArgumentException", fw_TE, 0), ("java/lang/IllegalStateException", fw_TE, 0)]
def cv (g : Gw) (v : Value) : Value := match v with
  | .ref k => .ref (gB g + k)
  | .float x => .ref (if x = 0 then gE g else gS g)
  | .int x => .int x
  | .long x => .long x
  | .double x => .double x
  | .null => .null
  | .retAddr p => .retAddr p
def ce (g : Gw) (c : va_E) : va_E := match c with
  | .inr (ci, fs) => .inr (ci, fs.map (cv g))
  | .inl (t, n, .inl f) => .inl (gA g t, n, .inl f)
  | .inl (t, n, .inr (.inl f)) => .inl (gA g t, n, .inr (.inl f))
  | .inl (t, n, .inr (.inr (.inl f))) => .inl (gA g t, n, .inr (.inr (.inl f)))
  | .inl (t, n, .inr (.inr (.inr (.inl f)))) => .inl (gA g t, n, .inr (.inr (.inr (.inl f))))
  | .inl (t, n, .inr (.inr (.inr (.inr f)))) => .inl (gA g t, n, .inr (.inr (.inr (.inr (fun j => (f j).map (fun k => gB g + k))))))
def nilE : va_E := .inr (1000, [])
def wd (g : Gw) (h : Nat → va_E) (n : Nat) : va_W := (List.range n).map (fun k => (gB g + k, ce g (h k)))
def gF (g : Gw) : Nat → Prop := fun q => gB g ≤ q
def RH (g : Gw) (σ : Sg) (H : Heap) : Prop := H.size = gB g + σ.2 ∧ (∀ k, σ.2 ≤ k → σ.1 k = nilE) ∧ va_P (gD g) kcls (wd g σ.1 σ.2) H
abbrev tyl (g : Gw) : List (ClassId × FieldType) := [(gA g 0, .int), (gA g 1, .byte), (gA g 2, .short), (gA g 3, .long), (gA g 4, .object "java/lang/Object"), (gA g 5, .object RX7), (gA g 6, .object RX3), (gA g 7, .object RX4)]
def nestW : List Cond := [.methodLinkNest RX1 34 yX7_init RX8, .methodLinkNest RX8 39 yX6_init RX8, .methodLinkNest RX8 50 yX4_init RX8, .methodLinkNest RX0 53 yX2_init RX8, .methodLinkNest RX0 138 yX8_isWithin RX8]
def aoC : List String := ["java/lang/Object", RX7, RX3, RX4]
def caC : List String := [RX2, RX5]
def KW (g : Gw) (U : State) : Prop := va_K (gD g) kcls (tyl g) U ∧ (∀ w ∈ nestW, va_Nw w U) ∧ (∀ C ∈ aoC, va_AO C U) ∧ (∀ C ∈ caC, va_Nw (.castable C "java/lang/Object") U)
def SW (g : Gw) (U : State) (H : Heap) : Prop := va_Z "java/util/ArrayList" "DEFAULTCAPACITY_EMPTY_ELEMENTDATA" "[Ljava/lang/Object;" (.ref (gE g)) (gF g) U H ∧ va_T (.object "java/lang/Object") (gE g) 0 (fun _ => .null) (gF g) U H ∧ va_X (gS g) (gL g) (gX g) U H ∧ gS g < gB g ∧ gE g < gB g
def gw : List Cond := lw_tbl.filter goodWord
def wsm (μ : Md) : List Cond := .code μ.1 μ.2.1 μ.2.2.1 μ.2.2.2 :: gw
def rmm (d mc ms : Nat) : Room := { frames := d, cells := mc, slots := ms, locals := 40 * d }
def Pm (g : Gw) (σ : Sg) (vs : List Value) : Array Value → State → Prop := fun v U => v = (vs.map (cv g)).toArray ∧ RH g σ U.heap ∧ KW g U ∧ SW g U U.heap
def Qm (g : Gw) (Q : Option Value → Sg → Prop) : Array Value → State → Outcome → State → Prop := fun _ st oc t => (∃ (r : Option Value) (σ' : Sg), oc = .returned (r.map (cv g)) ∧ Q r σ' ∧ RH g σ' t.heap) ∧ va_F (gF g) st t
def MM (l : Launch) (g : Gw) (d : Nat) (μ : Md) (σ : Sg) (vs : List Value) (mc ms : Nat) (Q : Option Value → Sg → Prop) : Prop := Met l μ.1 (wsm μ) (rmm d mc ms) (Pm g σ vs) (Qm g Q) mc ms (gF g)
abbrev Cx : Type := Program × Launch × Env × Room × State × MethodId × Array Value × List Frame × Method × Code
def LH (g : Gw) (ls : Array Slot) (nL : Nat) (L : List (Option Value)) : Prop := ls.size = nL ∧ L.length = nL ∧ lv_wf ls ∧ ∀ (i : Nat) (v : Value), L[i]? = some (some v) → ls[i]? = some (.val (cv g v))
def XS (X : Cx) : State := X.2.2.2.2.1
def WW (X : Cx) (g : Gw) (nL : Nat) (Z : State → Prop) (kc ks pc : Nat) (L : List (Option Value)) (st : List Value) (σ : Sg) : Prop := match X with
  | (p, l, e, R, s, m, args, below, meth, c) => ∀ (H : Heap) (locs : List Loc) (ls : Array Slot), RH g σ H → va_S (gF g) s.heap H locs → LH g ls nL L → W p l e R s m args below meth c H locs kc ks Z (F0 m pc ls (st.map (cv g)))
/-- what is fixed in a body -/
def BX (X : Cx) (l0 : Launch) (g : Gw) (μ : Md) (d mc ms : Nat) : Prop := match X with
  | (p, l, e, R, s, m, args, below, meth, c) => l = l0 ∧ p.tables.exec = Jvm.exec ∧ c.code = μ.2.1 ∧ c.maxLocals = μ.2.2.1 ∧ meth.sig.returnType = μ.2.2.2 ∧ meth.locks = false ∧ meth.name = μ.1.name ∧ s.vm.findClass μ.1.cls = some m.cls ∧ (∀ w ∈ gw, w.before args s = true) ∧ KW g s ∧ SW g s s.heap ∧ gB g ≤ s.heap.size ∧ d ≤ R.frames ∧ 40 * d ≤ R.locals ∧ mc = R.cells ∧ ms = R.slots
/-! ===== pictures ===== -/
theorem cv_cat (g : Gw) (v : Value) : (cv g v).category = v.category := by cases v <;> rfl
theorem cv_cats (g : Gw) (l : List Value) : ((l.map (cv g)).map fun v => v.category).sum = (l.map fun v => v.category).sum := by
  rw [List.map_map]
  congr 1
  exact List.map_congr_left (fun v _ => cv_cat g v)
theorem wd_get {g : Gw} {h : Nat → va_E} {n k : Nat} (hk : k < n) : (wd g h n)[k]? = some (gB g + k, ce g (h k)) := by
  simp [wd, hk]
theorem wd_len (g : Gw) (h : Nat → va_E) (n : Nat) : (wd g h n).length = n := by simp [wd]
theorem wd_set {g : Gw} {h : Nat → va_E} {n k : Nat} (c : va_E) (_hk : k < n) : (wd g h n).set k (gB g + k, ce g c) = wd g (va_up h k c) n := by
  apply List.ext_getElem?
  intro i
  by_cases hi : i < n
  · by_cases hik : i = k
    · subst hik
      rw [List.getElem?_set_self (by rw [wd_len]; exact hi), wd_get hi, va_up_self]
    · rw [List.getElem?_set_ne (Ne.symm hik), wd_get hi, wd_get hi, va_up_ne _ _ hik]
  · rw [List.getElem?_eq_none (by rw [List.length_set, wd_len]; omega), List.getElem?_eq_none (by rw [wd_len]; omega)]
theorem wd_push (g : Gw) (h : Nat → va_E) (n : Nat) (c : va_E) : wd g h n ++ [(gB g + n, ce g c)] = wd g (va_up h n c) (n + 1) := by
  apply List.ext_getElem?
  intro i
  by_cases hi : i < n
  · rw [List.getElem?_append_left (by rw [wd_len]; exact hi), wd_get hi, wd_get (by omega), va_up_ne _ _ (by omega)]
  · rw [List.getElem?_append_right (by rw [wd_len]; omega), wd_len]
    by_cases he : i = n
    · subst he
      rw [wd_get (by omega), va_up_self, Nat.sub_self]
      rfl
    · rw [List.getElem?_eq_none (by simp; omega), List.getElem?_eq_none (by rw [wd_len]; omega)]
theorem wd_D (g : Gw) (h : Nat → va_E) (n : Nat) : va_D (gF g) (wd g h n) := by
  refine ⟨fun i j p q hp hq hpq => ?_, fun k q hq => ?_⟩
  · have h1 := (List.getElem?_eq_some_iff.mp hp).1
    have h2 := (List.getElem?_eq_some_iff.mp hq).1
    rw [wd_len] at h1 h2
    rw [wd_get h1] at hp
    rw [wd_get h2] at hq
    cases hp; cases hq
    exact Nat.add_left_cancel hpq
  · have h1 := (List.getElem?_eq_some_iff.mp hq).1
    rw [wd_len] at h1
    rw [wd_get h1] at hq
    cases hq
    exact Nat.le_add_right _ _
theorem RH.lt {g : Gw} {σ : Sg} {H : Heap} (h : RH g σ H) {k : Nat} {c : va_E} (hc : σ.1 k = c) (hn : c ≠ nilE) : k < σ.2 := by
  rcases Nat.lt_or_ge k σ.2 with q | q
  · exact q
  · exact absurd ((hc.symm).trans (h.2.1 k q)) hn
theorem RH.at {g : Gw} {σ : Sg} {H : Heap} (h : RH g σ H) {k : Nat} {c : va_E} (hc : σ.1 k = c) (hn : c ≠ nilE) : (wd g σ.1 σ.2)[k]? = some (gB g + k, ce g c) := by
  rw [wd_get (h.lt hc hn), hc]
theorem RH.up {g : Gw} {σ : Sg} {H H1 : Heap} (h : RH g σ H) {k : Nat} {c c1 : va_E} (hc : σ.1 k = c) (hn : c ≠ nilE) (hz : H1.size = H.size) (hP : va_P (gD g) kcls ((wd g σ.1 σ.2).set k (gB g + k, ce g c1)) H1) : RH g (va_up σ.1 k c1, σ.2) H1 := by
  have hk := h.lt hc hn
  rw [wd_set c1 hk] at hP
  refine ⟨by rw [hz]; exact h.1, fun j hj => ?_, hP⟩
  have hj' : σ.2 ≤ j := hj
  show va_up σ.1 k c1 j = nilE
  rw [va_up_ne _ _ (by omega)]
  exact h.2.1 j hj'
theorem RH.push {g : Gw} {σ : Sg} {H H1 : Heap} (h : RH g σ H) (c : va_E) (hz : H1.size = H.size + 1) (hP : va_P (gD g) kcls (wd g σ.1 σ.2 ++ [(gB g + σ.2, ce g c)]) H1) : RH g (va_up σ.1 σ.2 c, σ.2 + 1) H1 := by
  rw [wd_push] at hP
  refine ⟨by rw [hz, h.1]; exact Nat.add_assoc _ _ _, fun j hj => ?_, hP⟩
  have hj' : σ.2 + 1 ≤ j := hj
  show va_up σ.1 σ.2 c j = nilE
  rw [va_up_ne _ _ (by omega)]
  exact h.2.1 j (by omega)
theorem neI {x : ClassId × vp_A} : (Sum.inl x : va_E) ≠ nilE := fun h => by cases h
theorem neO {ci : Nat} {fs : List Value} {q : vw_C} (h : kcls[ci]? = some q) : (Sum.inr (ci, fs) : va_E) ≠ nilE := by
  intro z
  cases z
  cases h
theorem KW.warm {g : Gw} {s U : State} (hW : s.WarmedH U.vm) (h : KW g s) : KW g U := by
  refine ⟨va_K.moved hW.alike h.1, fun w hw => ?_, fun C hC => va_AO.moved hW.alike (h.2.2.1 C hC), fun C hC => va_Nw.warmC hW (h.2.2.2 C hC)⟩
  have h1 := h.2.1 w hw
  simp only [nestW, List.mem_cons, List.not_mem_nil, or_false] at hw
  rcases hw with rfl | rfl | rfl | rfl | rfl <;> exact va_Nw.warmM hW h1
theorem KW.same {g : Gw} {s U : State} (hv : s.vm = U.vm) (h : KW g s) : KW g U := by
  refine ⟨va_K.moved (by rw [hv]; exact Vm.Alike.refl U.vm) h.1, fun w hw => ?_, fun C hC => va_AO.moved (by rw [hv]; exact Vm.Alike.refl U.vm) (h.2.2.1 C hC), fun C hC => va_Nw.same rfl hv (h.2.2.2 C hC)⟩
  have h1 := h.2.1 w hw
  simp only [nestW, List.mem_cons, List.not_mem_nil, or_false] at hw
  rcases hw with rfl | rfl | rfl | rfl | rfl <;> exact va_Nw.same rfl hv h1
theorem SW.moved {g : Gw} {s U : State} {H0 H : Heap} (hvm : s.vm.Alike U.vm) (hq : ∀ a : Nat, a < H0.size → ¬ gF g a → H[a]? = H0[a]?) (hB : gB g ≤ H0.size) (h : SW g s H0) : SW g U H := by
  obtain ⟨h1, h2, h3, h4, h5⟩ := h
  exact ⟨(h1.kept hq).moved hvm, (h2.kept hq).moved hvm, (h3.kept (hq _ (by omega) (by unfold gF; omega))).moved hvm, h4, h5⟩
end
section
/-! RULES, by gen_rules.py: instructions that touch no cell -/
section FWR
variable {X : Cx} {l0 : Launch} {g : Gw} {μ : Md} {d mc ms : Nat} {Z : State → Prop} {kc ks pc : Nat} {L : List (Option Value)} {st : List Value} {σ : Sg}
def knL (g : Gw) (L : List (Option Value)) : List (Nat × Value) := (L.zipIdx).filterMap (fun q => q.1.map (fun v => (q.2, cv g v)))
theorem knL_mem {g : Gw} {L : List (Option Value)} {i : Nat} {w : Value} : (i, w) ∈ knL g L ↔ ∃ v, L[i]? = some (some v) ∧ w = cv g v := by
  unfold knL
  rw [List.mem_filterMap]
  constructor
  · rintro ⟨⟨o, j⟩, h1, h2⟩
    have h3 := List.mem_zipIdx_iff_getElem?.mp h1
    cases o with
    | none => cases h2
    | some v =>
      cases h2
      exact ⟨v, h3, rfl⟩
  · rintro ⟨v, h1, rfl⟩
    exact ⟨(some v, i), List.mem_zipIdx_iff_getElem?.mpr h1, rfl⟩
theorem LH.has {g : Gw} {ls : Array Slot} {nL : Nat} {L : List (Option Value)} (h : LH g ls nL L) : lv_has ls nL (knL g L) := by
  refine ⟨h.1, h.2.2.1, fun q hq => ?_⟩
  obtain ⟨i, w⟩ := q
  obtain ⟨v, h1, h2⟩ := knL_mem.mp hq
  rw [h2]
  exact h.2.2.2 i v h1
def okS (L : List (Option Value)) (i : Nat) : Bool := match i with
  | 0 => true
  | j + 1 => match L[j]? with
    | some (some v) => v.category == 1
    | _ => true
theorem LH.set1 {g : Gw} {ls ls' : Array Slot} {nL : Nat} {L : List (Option Value)} {i : Nat} {v : Value} (h : LH g ls nL L) (hi : i < nL) (ok : okS L i = true)
    (h' : lv_has ls' nL ((i, cv g v) :: (knL g L).filter (fun q => !(q.1 == i) && !(q.1 + 1 == i && q.2.category == 2)))) : LH g ls' nL (L.set i (some v)) := by
  refine ⟨h'.1, by rw [List.length_set]; exact h.2.1, h'.2.1, fun j w hj => ?_⟩
  by_cases hij : i = j
  · subst hij
    rw [List.getElem?_set_self (by rw [h.2.1]; exact hi)] at hj
    cases hj
    exact h'.2.2 (i, cv g v) List.mem_cons_self
  · rw [List.getElem?_set_ne hij] at hj
    refine h'.2.2 (j, cv g w) (List.mem_cons_of_mem _ (List.mem_filter.mpr ⟨knL_mem.mpr ⟨w, hj, rfl⟩, ?_⟩))
    have h1 : (j == i) = false := by simp; omega
    by_cases h2 : j + 1 = i
    · subst h2
      have h3 : (w.category == 1) = true := by
        unfold okS at ok
        simp only [hj] at ok
        exact ok
      have h4 : w.category = 1 := by simpa using h3
      simp [cv_cat, h4]
    · have h3 : (j + 1 == i) = false := by simp; omega
      simp [h1, h3]
theorem LH.set2 {g : Gw} {ls ls' : Array Slot} {nL : Nat} {L : List (Option Value)} {i : Nat} {v : Value} (h : LH g ls nL L) (hi : i + 1 < nL) (ok : okS L i = true)
    (h' : lv_has ls' nL ((i, cv g v) :: (knL g L).filter (fun q => !(q.1 == i) && (!(q.1 == i + 1) && !(q.1 + 1 == i && q.2.category == 2))))) : LH g ls' nL ((L.set i (some v)).set (i + 1) none) := by
  refine ⟨h'.1, by rw [List.length_set, List.length_set]; exact h.2.1, h'.2.1, fun j w hj => ?_⟩
  by_cases hij1 : i + 1 = j
  · subst hij1
    rw [List.getElem?_set_self (by rw [List.length_set, h.2.1]; exact hi)] at hj
    cases hj
  rw [List.getElem?_set_ne hij1] at hj
  by_cases hij : i = j
  · subst hij
    rw [List.getElem?_set_self (by rw [h.2.1]; omega)] at hj
    cases hj
    exact h'.2.2 (i, cv g v) List.mem_cons_self
  · rw [List.getElem?_set_ne hij] at hj
    refine h'.2.2 (j, cv g w) (List.mem_cons_of_mem _ (List.mem_filter.mpr ⟨knL_mem.mpr ⟨w, hj, rfl⟩, ?_⟩))
    have h1 : (j == i) = false := by simp; omega
    have h0 : (j == i + 1) = false := by simp; omega
    by_cases h2 : j + 1 = i
    · subst h2
      have h3 : (w.category == 1) = true := by
        unfold okS at ok
        simp only [hj] at ok
        exact ok
      have h4 : w.category = 1 := by simpa using h3
      simp [cv_cat, h4]
      omega
    · have h3 : (j + 1 == i) = false := by simp; omega
      simp [h1, h0, h3]
def isR (v : Value) : Bool := match v with
  | .ref _ => true
  | .float _ => true
  | .null => true
  | _ => false
theorem w_iconst {n : Int} {v : Int32} (b : BX X l0 g μ d mc ms) (hd : decode μ.2.1 pc = .ok (.iconst n, 1)) (hv : Int32.ofInt n = v)
    (kk : WW X g μ.2.2.1 Z kc ks (pc + 1) L (.int v :: st) σ) : WW X g μ.2.2.1 Z kc ks pc L st σ := by
  obtain ⟨p, l, e, R, s, m, args, below, meth, c⟩ := X
  obtain ⟨hl0, hx, hb, hml, hr, hlk, hnm, hown, hts, hK, hSw, hB, hR1, hR2, hR3, hR4⟩ := b
  intro H locs ls hP hS hL
  exact lv_iconst hx hb hd hv (kk H locs ls hP hS hL)
theorem w_bipush {n : Int} {v : Int32} (b : BX X l0 g μ d mc ms) (hd : decode μ.2.1 pc = .ok (.bipush n, 2)) (hv : (Int8.ofInt n).toInt32 = v)
    (kk : WW X g μ.2.2.1 Z kc ks (pc + 2) L (.int v :: st) σ) : WW X g μ.2.2.1 Z kc ks pc L st σ := by
  obtain ⟨p, l, e, R, s, m, args, below, meth, c⟩ := X
  obtain ⟨hl0, hx, hb, hml, hr, hlk, hnm, hown, hts, hK, hSw, hB, hR1, hR2, hR3, hR4⟩ := b
  intro H locs ls hP hS hL
  exact lv_bipush hx hb hd hv (kk H locs ls hP hS hL)
theorem w_sipush {n : Int} {v : Int32} (b : BX X l0 g μ d mc ms) (hd : decode μ.2.1 pc = .ok (.sipush n, 3)) (hv : (Int16.ofInt n).toInt32 = v)
    (kk : WW X g μ.2.2.1 Z kc ks (pc + 3) L (.int v :: st) σ) : WW X g μ.2.2.1 Z kc ks pc L st σ := by
  obtain ⟨p, l, e, R, s, m, args, below, meth, c⟩ := X
  obtain ⟨hl0, hx, hb, hml, hr, hlk, hnm, hown, hts, hK, hSw, hB, hR1, hR2, hR3, hR4⟩ := b
  intro H locs ls hP hS hL
  exact lv_sipush hx hb hd hv (kk H locs ls hP hS hL)
theorem w_lconst {n : Fin 2} {v : Int64} (b : BX X l0 g μ d mc ms) (hd : decode μ.2.1 pc = .ok (.lconst n, 1)) (hv : Int64.ofNat (n : Nat) = v)
    (kk : WW X g μ.2.2.1 Z kc ks (pc + 1) L (.long v :: st) σ) : WW X g μ.2.2.1 Z kc ks pc L st σ := by
  obtain ⟨p, l, e, R, s, m, args, below, meth, c⟩ := X
  obtain ⟨hl0, hx, hb, hml, hr, hlk, hnm, hown, hts, hK, hSw, hB, hR1, hR2, hR3, hR4⟩ := b
  intro H locs ls hP hS hL
  exact lv_lconst hx hb hd hv (kk H locs ls hP hS hL)
theorem w_null  (b : BX X l0 g μ d mc ms) (hd : decode μ.2.1 pc = .ok (.aconst_null, 1)) 
    (kk : WW X g μ.2.2.1 Z kc ks (pc + 1) L (.null :: st) σ) : WW X g μ.2.2.1 Z kc ks pc L st σ := by
  obtain ⟨p, l, e, R, s, m, args, below, meth, c⟩ := X
  obtain ⟨hl0, hx, hb, hml, hr, hlk, hnm, hown, hts, hK, hSw, hB, hR1, hR2, hR3, hR4⟩ := b
  intro H locs ls hP hS hL
  exact lv_null hx hb hd (kk H locs ls hP hS hL)
theorem w_ldc {idx : Nat} {v : Int32} (b : BX X l0 g μ d mc ms) (hd : decode μ.2.1 pc = .ok (.ldc idx, 2)) (hw : Cond.constant μ.1.cls idx v ∈ gw)
    (kk : WW X g μ.2.2.1 Z kc ks (pc + 2) L (.int v :: st) σ) : WW X g μ.2.2.1 Z kc ks pc L st σ := by
  obtain ⟨p, l, e, R, s, m, args, below, meth, c⟩ := X
  obtain ⟨hl0, hx, hb, hml, hr, hlk, hnm, hown, hts, hK, hSw, hB, hR1, hR2, hR3, hR4⟩ := b
  intro H locs ls hP hS hL
  exact lv_ldc hx hb hown (hts _ hw) hd (kk H locs ls hP hS hL)
theorem w_ldcw {idx : Nat} {v : Int32} (b : BX X l0 g μ d mc ms) (hd : decode μ.2.1 pc = .ok (.ldc_w idx, 3)) (hw : Cond.constant μ.1.cls idx v ∈ gw)
    (kk : WW X g μ.2.2.1 Z kc ks (pc + 3) L (.int v :: st) σ) : WW X g μ.2.2.1 Z kc ks pc L st σ := by
  obtain ⟨p, l, e, R, s, m, args, below, meth, c⟩ := X
  obtain ⟨hl0, hx, hb, hml, hr, hlk, hnm, hown, hts, hK, hSw, hB, hR1, hR2, hR3, hR4⟩ := b
  intro H locs ls hP hS hL
  exact lv_ldcw hx hb hown (hts _ hw) hd (kk H locs ls hP hS hL)
theorem w_iload_n {k : Fin 4} {x : Int32} (b : BX X l0 g μ d mc ms) (hd : decode μ.2.1 pc = .ok (.iload_n k, 1)) (hl : L[(k : Nat)]? = some (some (.int x)))
    (kk : WW X g μ.2.2.1 Z kc ks (pc + 1) L (.int x :: st) σ) : WW X g μ.2.2.1 Z kc ks pc L st σ := by
  obtain ⟨p, l, e, R, s, m, args, below, meth, c⟩ := X
  obtain ⟨hl0, hx, hb, hml, hr, hlk, hnm, hown, hts, hK, hSw, hB, hR1, hR2, hR3, hR4⟩ := b
  intro H locs ls hP hS hL
  exact lv_iload_n hx hb hd rfl (hL.2.2.2 _ _ hl) (kk H locs ls hP hS hL)
theorem w_iload {i : Nat} {x : Int32} (b : BX X l0 g μ d mc ms) (hd : decode μ.2.1 pc = .ok (.iload i, 2)) (hl : L[i]? = some (some (.int x)))
    (kk : WW X g μ.2.2.1 Z kc ks (pc + 2) L (.int x :: st) σ) : WW X g μ.2.2.1 Z kc ks pc L st σ := by
  obtain ⟨p, l, e, R, s, m, args, below, meth, c⟩ := X
  obtain ⟨hl0, hx, hb, hml, hr, hlk, hnm, hown, hts, hK, hSw, hB, hR1, hR2, hR3, hR4⟩ := b
  intro H locs ls hP hS hL
  exact lv_iload hx hb hd (hL.2.2.2 _ _ hl) (kk H locs ls hP hS hL)
theorem w_lload {i : Nat} {x : Int64} (b : BX X l0 g μ d mc ms) (hd : decode μ.2.1 pc = .ok (.lload i, 2)) (hl : L[i]? = some (some (.long x)))
    (kk : WW X g μ.2.2.1 Z kc ks (pc + 2) L (.long x :: st) σ) : WW X g μ.2.2.1 Z kc ks pc L st σ := by
  obtain ⟨p, l, e, R, s, m, args, below, meth, c⟩ := X
  obtain ⟨hl0, hx, hb, hml, hr, hlk, hnm, hown, hts, hK, hSw, hB, hR1, hR2, hR3, hR4⟩ := b
  intro H locs ls hP hS hL
  exact lv_lload hx hb hd (hL.2.2.2 _ _ hl) (kk H locs ls hP hS hL)
theorem w_aload_n {k : Fin 4} {v : Value} (b : BX X l0 g μ d mc ms) (hd : decode μ.2.1 pc = .ok (.aload_n k, 1)) (hl : L[(k : Nat)]? = some (some v)) (hv : isR v = true)
    (kk : WW X g μ.2.2.1 Z kc ks (pc + 1) L (v :: st) σ) : WW X g μ.2.2.1 Z kc ks pc L st σ := by
  obtain ⟨p, l, e, R, s, m, args, below, meth, c⟩ := X
  obtain ⟨hl0, hx, hb, hml, hr, hlk, hnm, hown, hts, hK, hSw, hB, hR1, hR2, hR3, hR4⟩ := b
  intro H locs ls hP hS hL
  have h1 := hL.2.2.2 _ _ hl
  cases v with
  | ref q => exact lv_aload_n hx hb hd rfl h1 (kk H locs ls hP hS hL)
  | float q => exact lv_aload_n hx hb hd rfl h1 (kk H locs ls hP hS hL)
  | null => exact lv_aload_nN hx hb hd rfl h1 (kk H locs ls hP hS hL)
  | _ => cases hv
theorem w_aload {i : Nat} {v : Value} (b : BX X l0 g μ d mc ms) (hd : decode μ.2.1 pc = .ok (.aload i, 2)) (hl : L[i]? = some (some v)) (hv : isR v = true)
    (kk : WW X g μ.2.2.1 Z kc ks (pc + 2) L (v :: st) σ) : WW X g μ.2.2.1 Z kc ks pc L st σ := by
  obtain ⟨p, l, e, R, s, m, args, below, meth, c⟩ := X
  obtain ⟨hl0, hx, hb, hml, hr, hlk, hnm, hown, hts, hK, hSw, hB, hR1, hR2, hR3, hR4⟩ := b
  intro H locs ls hP hS hL
  have h1 := hL.2.2.2 _ _ hl
  cases v with
  | ref q => exact lv_aload hx hb hd h1 (kk H locs ls hP hS hL)
  | float q => exact lv_aload hx hb hd h1 (kk H locs ls hP hS hL)
  | null => exact lv_aloadN hx hb hd h1 (kk H locs ls hP hS hL)
  | _ => cases hv
theorem w_istore_n {k : Fin 4} {x : Int32} (b : BX X l0 g μ d mc ms) (hd : decode μ.2.1 pc = .ok (.istore_n k, 1)) (hi : (k : Nat) < L.length) (ok : okS L (k : Nat) = true)
    (kk : WW X g μ.2.2.1 Z kc ks (pc + 1) (L.set (k : Nat) (some (.int x))) st σ) : WW X g μ.2.2.1 Z kc ks pc L (.int x :: st) σ := by
  obtain ⟨p, l, e, R, s, m, args, below, meth, c⟩ := X
  obtain ⟨hl0, hx, hb, hml, hr, hlk, hnm, hown, hts, hK, hSw, hB, hR1, hR2, hR3, hR4⟩ := b
  intro H locs ls hP hS hL
  have hi2 : (k : Nat) < μ.2.2.1 := by rw [← hL.2.1]; exact hi
  exact lv_istore_n hx hb hd rfl hL.has hi2 rfl (fun ls2 h2 => kk H locs ls2 hP hS (hL.set1 hi2 ok h2))
theorem w_istore {i : Nat} {x : Int32} (b : BX X l0 g μ d mc ms) (hd : decode μ.2.1 pc = .ok (.istore i, 2)) (hi : i < L.length) (ok : okS L i = true)
    (kk : WW X g μ.2.2.1 Z kc ks (pc + 2) (L.set i (some (.int x))) st σ) : WW X g μ.2.2.1 Z kc ks pc L (.int x :: st) σ := by
  obtain ⟨p, l, e, R, s, m, args, below, meth, c⟩ := X
  obtain ⟨hl0, hx, hb, hml, hr, hlk, hnm, hown, hts, hK, hSw, hB, hR1, hR2, hR3, hR4⟩ := b
  intro H locs ls hP hS hL
  have hi2 : i < μ.2.2.1 := by rw [← hL.2.1]; exact hi
  exact lv_istore hx hb hd hL.has hi2 rfl (fun ls2 h2 => kk H locs ls2 hP hS (hL.set1 hi2 ok h2))
theorem w_astore_n {k : Fin 4} {v : Value} (b : BX X l0 g μ d mc ms) (hd : decode μ.2.1 pc = .ok (.astore_n k, 1)) (hi : (k : Nat) < L.length) (ok : okS L (k : Nat) = true) (hv : isR v = true)
    (kk : WW X g μ.2.2.1 Z kc ks (pc + 1) (L.set (k : Nat) (some v)) st σ) : WW X g μ.2.2.1 Z kc ks pc L (v :: st) σ := by
  obtain ⟨p, l, e, R, s, m, args, below, meth, c⟩ := X
  obtain ⟨hl0, hx, hb, hml, hr, hlk, hnm, hown, hts, hK, hSw, hB, hR1, hR2, hR3, hR4⟩ := b
  intro H locs ls hP hS hL
  have hi2 : (k : Nat) < μ.2.2.1 := by rw [← hL.2.1]; exact hi
  cases v with
  | ref q => exact lv_astore_n hx hb hd rfl hL.has hi2 rfl (fun ls2 h2 => kk H locs ls2 hP hS (hL.set1 hi2 ok h2))
  | float q => exact lv_astore_n hx hb hd rfl hL.has hi2 rfl (fun ls2 h2 => kk H locs ls2 hP hS (hL.set1 hi2 ok h2))
  | null => exact lv_astore_nN hx hb hd rfl hL.has hi2 rfl (fun ls2 h2 => kk H locs ls2 hP hS (hL.set1 hi2 ok h2))
  | _ => cases hv
theorem w_astore {i : Nat} {v : Value} (b : BX X l0 g μ d mc ms) (hd : decode μ.2.1 pc = .ok (.astore i, 2)) (hi : i < L.length) (ok : okS L i = true) (hv : isR v = true)
    (kk : WW X g μ.2.2.1 Z kc ks (pc + 2) (L.set i (some v)) st σ) : WW X g μ.2.2.1 Z kc ks pc L (v :: st) σ := by
  obtain ⟨p, l, e, R, s, m, args, below, meth, c⟩ := X
  obtain ⟨hl0, hx, hb, hml, hr, hlk, hnm, hown, hts, hK, hSw, hB, hR1, hR2, hR3, hR4⟩ := b
  intro H locs ls hP hS hL
  have hi2 : i < μ.2.2.1 := by rw [← hL.2.1]; exact hi
  cases v with
  | ref q => exact lv_astore hx hb hd hL.has hi2 rfl (fun ls2 h2 => kk H locs ls2 hP hS (hL.set1 hi2 ok h2))
  | float q => exact lv_astore hx hb hd hL.has hi2 rfl (fun ls2 h2 => kk H locs ls2 hP hS (hL.set1 hi2 ok h2))
  | null => exact lv_astoreN hx hb hd hL.has hi2 rfl (fun ls2 h2 => kk H locs ls2 hP hS (hL.set1 hi2 ok h2))
  | _ => cases hv
theorem w_lstore {i : Nat} {x : Int64} (b : BX X l0 g μ d mc ms) (hd : decode μ.2.1 pc = .ok (.lstore i, 2)) (hi : i + 1 < L.length) (ok : okS L i = true)
    (kk : WW X g μ.2.2.1 Z kc ks (pc + 2) ((L.set i (some (.long x))).set (i + 1) none) st σ) : WW X g μ.2.2.1 Z kc ks pc L (.long x :: st) σ := by
  obtain ⟨p, l, e, R, s, m, args, below, meth, c⟩ := X
  obtain ⟨hl0, hx, hb, hml, hr, hlk, hnm, hown, hts, hK, hSw, hB, hR1, hR2, hR3, hR4⟩ := b
  intro H locs ls hP hS hL
  have hi2 : i + 1 < μ.2.2.1 := by rw [← hL.2.1]; exact hi
  exact lv_lstore hx hb hd hL.has hi2 rfl (fun ls2 h2 => kk H locs ls2 hP hS (hL.set2 hi2 ok h2))
theorem w_iinc {i : Nat} {n : Int} {x v : Int32} (b : BX X l0 g μ d mc ms) (hd : decode μ.2.1 pc = .ok (.iinc i n, 3)) (hl : L[i]? = some (some (.int x))) (ok : okS L i = true) (hv : x + Int32.ofInt n = v)
    (kk : WW X g μ.2.2.1 Z kc ks (pc + 3) (L.set i (some (.int v))) st σ) : WW X g μ.2.2.1 Z kc ks pc L st σ := by
  obtain ⟨p, l, e, R, s, m, args, below, meth, c⟩ := X
  obtain ⟨hl0, hx, hb, hml, hr, hlk, hnm, hown, hts, hK, hSw, hB, hR1, hR2, hR3, hR4⟩ := b
  intro H locs ls hP hS hL
  have hi2 : i < μ.2.2.1 := by rw [← hL.2.1]; exact (List.getElem?_eq_some_iff.mp hl).1
  have hm : (i, Value.int x) ∈ knL g L := knL_mem.mpr ⟨.int x, hl, rfl⟩
  obtain ⟨k, hk⟩ := List.getElem?_of_mem hm
  exact lv_iinc hx hb hd hL.has hk hv hi2 rfl (fun ls2 h2 => kk H locs ls2 hP hS (hL.set1 hi2 ok h2))
theorem w_iadd {x y : Int32} (b : BX X l0 g μ d mc ms) (hd : decode μ.2.1 pc = .ok (.iadd, 1)) 
    (kk : WW X g μ.2.2.1 Z kc ks (pc + 1) L (.int (x + y) :: st) σ) : WW X g μ.2.2.1 Z kc ks pc L (.int y :: .int x :: st) σ := by
  obtain ⟨p, l, e, R, s, m, args, below, meth, c⟩ := X
  obtain ⟨hl0, hx, hb, hml, hr, hlk, hnm, hown, hts, hK, hSw, hB, hR1, hR2, hR3, hR4⟩ := b
  intro H locs ls hP hS hL
  exact lv_iadd hx hb hd (kk H locs ls hP hS hL)
theorem w_isub {x y : Int32} (b : BX X l0 g μ d mc ms) (hd : decode μ.2.1 pc = .ok (.isub, 1)) 
    (kk : WW X g μ.2.2.1 Z kc ks (pc + 1) L (.int (x - y) :: st) σ) : WW X g μ.2.2.1 Z kc ks pc L (.int y :: .int x :: st) σ := by
  obtain ⟨p, l, e, R, s, m, args, below, meth, c⟩ := X
  obtain ⟨hl0, hx, hb, hml, hr, hlk, hnm, hown, hts, hK, hSw, hB, hR1, hR2, hR3, hR4⟩ := b
  intro H locs ls hP hS hL
  exact lv_isub hx hb hd (kk H locs ls hP hS hL)
theorem w_imul {x y : Int32} (b : BX X l0 g μ d mc ms) (hd : decode μ.2.1 pc = .ok (.imul, 1)) 
    (kk : WW X g μ.2.2.1 Z kc ks (pc + 1) L (.int (x * y) :: st) σ) : WW X g μ.2.2.1 Z kc ks pc L (.int y :: .int x :: st) σ := by
  obtain ⟨p, l, e, R, s, m, args, below, meth, c⟩ := X
  obtain ⟨hl0, hx, hb, hml, hr, hlk, hnm, hown, hts, hK, hSw, hB, hR1, hR2, hR3, hR4⟩ := b
  intro H locs ls hP hS hL
  exact lv_imul hx hb hd (kk H locs ls hP hS hL)
theorem w_iand {x y : Int32} (b : BX X l0 g μ d mc ms) (hd : decode μ.2.1 pc = .ok (.iand, 1)) 
    (kk : WW X g μ.2.2.1 Z kc ks (pc + 1) L (.int (x &&& y) :: st) σ) : WW X g μ.2.2.1 Z kc ks pc L (.int y :: .int x :: st) σ := by
  obtain ⟨p, l, e, R, s, m, args, below, meth, c⟩ := X
  obtain ⟨hl0, hx, hb, hml, hr, hlk, hnm, hown, hts, hK, hSw, hB, hR1, hR2, hR3, hR4⟩ := b
  intro H locs ls hP hS hL
  exact lv_iand hx hb hd (kk H locs ls hP hS hL)
theorem w_ior {x y : Int32} (b : BX X l0 g μ d mc ms) (hd : decode μ.2.1 pc = .ok (.ior, 1)) 
    (kk : WW X g μ.2.2.1 Z kc ks (pc + 1) L (.int (x ||| y) :: st) σ) : WW X g μ.2.2.1 Z kc ks pc L (.int y :: .int x :: st) σ := by
  obtain ⟨p, l, e, R, s, m, args, below, meth, c⟩ := X
  obtain ⟨hl0, hx, hb, hml, hr, hlk, hnm, hown, hts, hK, hSw, hB, hR1, hR2, hR3, hR4⟩ := b
  intro H locs ls hP hS hL
  exact lv_ior hx hb hd (kk H locs ls hP hS hL)
theorem w_ixor {x y : Int32} (b : BX X l0 g μ d mc ms) (hd : decode μ.2.1 pc = .ok (.ixor, 1)) 
    (kk : WW X g μ.2.2.1 Z kc ks (pc + 1) L (.int (x ^^^ y) :: st) σ) : WW X g μ.2.2.1 Z kc ks pc L (.int y :: .int x :: st) σ := by
  obtain ⟨p, l, e, R, s, m, args, below, meth, c⟩ := X
  obtain ⟨hl0, hx, hb, hml, hr, hlk, hnm, hown, hts, hK, hSw, hB, hR1, hR2, hR3, hR4⟩ := b
  intro H locs ls hP hS hL
  exact lv_ixor hx hb hd (kk H locs ls hP hS hL)
theorem w_ishl {x y : Int32} (b : BX X l0 g μ d mc ms) (hd : decode μ.2.1 pc = .ok (.ishl, 1)) 
    (kk : WW X g μ.2.2.1 Z kc ks (pc + 1) L (.int (x <<< (y &&& 31)) :: st) σ) : WW X g μ.2.2.1 Z kc ks pc L (.int y :: .int x :: st) σ := by
  obtain ⟨p, l, e, R, s, m, args, below, meth, c⟩ := X
  obtain ⟨hl0, hx, hb, hml, hr, hlk, hnm, hown, hts, hK, hSw, hB, hR1, hR2, hR3, hR4⟩ := b
  intro H locs ls hP hS hL
  exact lv_ishl hx hb hd (kk H locs ls hP hS hL)
theorem w_ishr {x y : Int32} (b : BX X l0 g μ d mc ms) (hd : decode μ.2.1 pc = .ok (.ishr, 1)) 
    (kk : WW X g μ.2.2.1 Z kc ks (pc + 1) L (.int (x >>> (y &&& 31)) :: st) σ) : WW X g μ.2.2.1 Z kc ks pc L (.int y :: .int x :: st) σ := by
  obtain ⟨p, l, e, R, s, m, args, below, meth, c⟩ := X
  obtain ⟨hl0, hx, hb, hml, hr, hlk, hnm, hown, hts, hK, hSw, hB, hR1, hR2, hR3, hR4⟩ := b
  intro H locs ls hP hS hL
  exact lv_ishr hx hb hd (kk H locs ls hP hS hL)
theorem w_iushr {x y : Int32} (b : BX X l0 g μ d mc ms) (hd : decode μ.2.1 pc = .ok (.iushr, 1)) 
    (kk : WW X g μ.2.2.1 Z kc ks (pc + 1) L (.int ((x.toUInt32 >>> (y.toUInt32 &&& Int32.toUInt32 31)).toInt32) :: st) σ) : WW X g μ.2.2.1 Z kc ks pc L (.int y :: .int x :: st) σ := by
  obtain ⟨p, l, e, R, s, m, args, below, meth, c⟩ := X
  obtain ⟨hl0, hx, hb, hml, hr, hlk, hnm, hown, hts, hK, hSw, hB, hR1, hR2, hR3, hR4⟩ := b
  intro H locs ls hP hS hL
  exact lv_iushr hx hb hd rfl (kk H locs ls hP hS hL)
theorem w_idiv {x y : Int32} (b : BX X l0 g μ d mc ms) (hd : decode μ.2.1 pc = .ok (.idiv, 1)) (hne : ¬ y = 0)
    (kk : WW X g μ.2.2.1 Z kc ks (pc + 1) L (.int (x / y) :: st) σ) : WW X g μ.2.2.1 Z kc ks pc L (.int y :: .int x :: st) σ := by
  obtain ⟨p, l, e, R, s, m, args, below, meth, c⟩ := X
  obtain ⟨hl0, hx, hb, hml, hr, hlk, hnm, hown, hts, hK, hSw, hB, hR1, hR2, hR3, hR4⟩ := b
  intro H locs ls hP hS hL
  exact lv_idiv hx hb hd hne (kk H locs ls hP hS hL)
theorem w_irem {x y : Int32} (b : BX X l0 g μ d mc ms) (hd : decode μ.2.1 pc = .ok (.irem, 1)) (hne : ¬ y = 0)
    (kk : WW X g μ.2.2.1 Z kc ks (pc + 1) L (.int (x - x / y * y) :: st) σ) : WW X g μ.2.2.1 Z kc ks pc L (.int y :: .int x :: st) σ := by
  obtain ⟨p, l, e, R, s, m, args, below, meth, c⟩ := X
  obtain ⟨hl0, hx, hb, hml, hr, hlk, hnm, hown, hts, hK, hSw, hB, hR1, hR2, hR3, hR4⟩ := b
  intro H locs ls hP hS hL
  exact lv_irem hx hb hd hne (kk H locs ls hP hS hL)
theorem w_ineg {x : Int32} (b : BX X l0 g μ d mc ms) (hd : decode μ.2.1 pc = .ok (.ineg, 1)) 
    (kk : WW X g μ.2.2.1 Z kc ks (pc + 1) L (.int (-x) :: st) σ) : WW X g μ.2.2.1 Z kc ks pc L (.int x :: st) σ := by
  obtain ⟨p, l, e, R, s, m, args, below, meth, c⟩ := X
  obtain ⟨hl0, hx, hb, hml, hr, hlk, hnm, hown, hts, hK, hSw, hB, hR1, hR2, hR3, hR4⟩ := b
  intro H locs ls hP hS hL
  exact lv_ineg hx hb hd (kk H locs ls hP hS hL)
theorem w_i2b {x : Int32} (b : BX X l0 g μ d mc ms) (hd : decode μ.2.1 pc = .ok (.i2b, 1)) 
    (kk : WW X g μ.2.2.1 Z kc ks (pc + 1) L (.int (x.toInt8.toInt32) :: st) σ) : WW X g μ.2.2.1 Z kc ks pc L (.int x :: st) σ := by
  obtain ⟨p, l, e, R, s, m, args, below, meth, c⟩ := X
  obtain ⟨hl0, hx, hb, hml, hr, hlk, hnm, hown, hts, hK, hSw, hB, hR1, hR2, hR3, hR4⟩ := b
  intro H locs ls hP hS hL
  exact lv_i2b hx hb hd rfl (kk H locs ls hP hS hL)
theorem w_i2s {x : Int32} (b : BX X l0 g μ d mc ms) (hd : decode μ.2.1 pc = .ok (.i2s, 1)) 
    (kk : WW X g μ.2.2.1 Z kc ks (pc + 1) L (.int (x.toInt16.toInt32) :: st) σ) : WW X g μ.2.2.1 Z kc ks pc L (.int x :: st) σ := by
  obtain ⟨p, l, e, R, s, m, args, below, meth, c⟩ := X
  obtain ⟨hl0, hx, hb, hml, hr, hlk, hnm, hown, hts, hK, hSw, hB, hR1, hR2, hR3, hR4⟩ := b
  intro H locs ls hP hS hL
  exact lv_i2s hx hb hd rfl (kk H locs ls hP hS hL)
theorem w_i2l {x : Int32} (b : BX X l0 g μ d mc ms) (hd : decode μ.2.1 pc = .ok (.i2l, 1)) 
    (kk : WW X g μ.2.2.1 Z kc ks (pc + 1) L (.long x.toInt64 :: st) σ) : WW X g μ.2.2.1 Z kc ks pc L (.int x :: st) σ := by
  obtain ⟨p, l, e, R, s, m, args, below, meth, c⟩ := X
  obtain ⟨hl0, hx, hb, hml, hr, hlk, hnm, hown, hts, hK, hSw, hB, hR1, hR2, hR3, hR4⟩ := b
  intro H locs ls hP hS hL
  exact lv_i2l hx hb hd rfl (kk H locs ls hP hS hL)
theorem w_lcmp {x y : Int64} (b : BX X l0 g μ d mc ms) (hd : decode μ.2.1 pc = .ok (.lcmp, 1)) 
    (kk : WW X g μ.2.2.1 Z kc ks (pc + 1) L (.int (lg_cmp x y) :: st) σ) : WW X g μ.2.2.1 Z kc ks pc L (.long y :: .long x :: st) σ := by
  obtain ⟨p, l, e, R, s, m, args, below, meth, c⟩ := X
  obtain ⟨hl0, hx, hb, hml, hr, hlk, hnm, hown, hts, hK, hSw, hB, hR1, hR2, hR3, hR4⟩ := b
  intro H locs ls hP hS hL
  exact W.lcmp hx hb hd (kk H locs ls hP hS hL)
theorem w_dup {v : Value} (b : BX X l0 g μ d mc ms) (hd : decode μ.2.1 pc = .ok (.dup, 1)) (h1 : v.category = 1)
    (kk : WW X g μ.2.2.1 Z kc ks (pc + 1) L (v :: v :: st) σ) : WW X g μ.2.2.1 Z kc ks pc L (v :: st) σ := by
  obtain ⟨p, l, e, R, s, m, args, below, meth, c⟩ := X
  obtain ⟨hl0, hx, hb, hml, hr, hlk, hnm, hown, hts, hK, hSw, hB, hR1, hR2, hR3, hR4⟩ := b
  intro H locs ls hP hS hL
  exact lv_dup hx hb hd (by rw [cv_cat]; exact h1) (kk H locs ls hP hS hL)
theorem w_pop {v : Value} (b : BX X l0 g μ d mc ms) (hd : decode μ.2.1 pc = .ok (.pop, 1)) (h1 : v.category = 1)
    (kk : WW X g μ.2.2.1 Z kc ks (pc + 1) L st σ) : WW X g μ.2.2.1 Z kc ks pc L (v :: st) σ := by
  obtain ⟨p, l, e, R, s, m, args, below, meth, c⟩ := X
  obtain ⟨hl0, hx, hb, hml, hr, hlk, hnm, hown, hts, hK, hSw, hB, hR1, hR2, hR3, hR4⟩ := b
  intro H locs ls hP hS hL
  exact lv_pop hx hb hd (by rw [cv_cat]; exact h1) (kk H locs ls hP hS hL)
theorem w_dup_x1 {v w : Value} (b : BX X l0 g μ d mc ms) (hd : decode μ.2.1 pc = .ok (.dup_x1, 1)) (h1 : v.category = 1) (h2 : w.category = 1)
    (kk : WW X g μ.2.2.1 Z kc ks (pc + 1) L (v :: w :: v :: st) σ) : WW X g μ.2.2.1 Z kc ks pc L (v :: w :: st) σ := by
  obtain ⟨p, l, e, R, s, m, args, below, meth, c⟩ := X
  obtain ⟨hl0, hx, hb, hml, hr, hlk, hnm, hown, hts, hK, hSw, hB, hR1, hR2, hR3, hR4⟩ := b
  intro H locs ls hP hS hL
  exact lv_dup_x1 hx hb hd (by rw [cv_cat]; exact h1) (by rw [cv_cat]; exact h2) (kk H locs ls hP hS hL)
theorem w_dup2 {v w : Value} (b : BX X l0 g μ d mc ms) (hd : decode μ.2.1 pc = .ok (.dup2, 1)) (h1 : v.category = 1) (h2 : w.category = 1)
    (kk : WW X g μ.2.2.1 Z kc ks (pc + 1) L (v :: w :: v :: w :: st) σ) : WW X g μ.2.2.1 Z kc ks pc L (v :: w :: st) σ := by
  obtain ⟨p, l, e, R, s, m, args, below, meth, c⟩ := X
  obtain ⟨hl0, hx, hb, hml, hr, hlk, hnm, hown, hts, hK, hSw, hB, hR1, hR2, hR3, hR4⟩ := b
  intro H locs ls hP hS hL
  exact lv_dup2_11 hx hb hd (by rw [cv_cat]; exact h1) (by rw [cv_cat]; exact h2) (kk H locs ls hP hS hL)
theorem w_if_eq {x : Int32} {off : Int} {tgt : Nat} (b : BX X l0 g μ d mc ms) (hd : decode μ.2.1 pc = .ok (.ifCond .eq off, 3)) (ht : (pc : Int) + off = (tgt : Int))
    (kt : x = 0 → WW X g μ.2.2.1 Z kc ks tgt L st σ) (kf : ¬ x = 0 → WW X g μ.2.2.1 Z kc ks (pc + 3) L st σ) : WW X g μ.2.2.1 Z kc ks pc L (.int x :: st) σ := by
  obtain ⟨p, l, e, R, s, m, args, below, meth, c⟩ := X
  obtain ⟨hl0, hx, hb, hml, hr, hlk, hnm, hown, hts, hK, hSw, hB, hR1, hR2, hR3, hR4⟩ := b
  intro H locs ls hP hS hL
  exact lv_if_eq hx hb hd ht (fun z => kt z H locs ls hP hS hL) (fun z => kf z H locs ls hP hS hL)
theorem w_if_ne {x : Int32} {off : Int} {tgt : Nat} (b : BX X l0 g μ d mc ms) (hd : decode μ.2.1 pc = .ok (.ifCond .ne off, 3)) (ht : (pc : Int) + off = (tgt : Int))
    (kt : ¬ x = 0 → WW X g μ.2.2.1 Z kc ks tgt L st σ) (kf : x = 0 → WW X g μ.2.2.1 Z kc ks (pc + 3) L st σ) : WW X g μ.2.2.1 Z kc ks pc L (.int x :: st) σ := by
  obtain ⟨p, l, e, R, s, m, args, below, meth, c⟩ := X
  obtain ⟨hl0, hx, hb, hml, hr, hlk, hnm, hown, hts, hK, hSw, hB, hR1, hR2, hR3, hR4⟩ := b
  intro H locs ls hP hS hL
  exact lv_if_ne hx hb hd ht (fun z => kt z H locs ls hP hS hL) (fun z => kf z H locs ls hP hS hL)
theorem w_if_lt {x : Int32} {off : Int} {tgt : Nat} (b : BX X l0 g μ d mc ms) (hd : decode μ.2.1 pc = .ok (.ifCond .lt off, 3)) (ht : (pc : Int) + off = (tgt : Int))
    (kt : x < 0 → WW X g μ.2.2.1 Z kc ks tgt L st σ) (kf : ¬ x < 0 → WW X g μ.2.2.1 Z kc ks (pc + 3) L st σ) : WW X g μ.2.2.1 Z kc ks pc L (.int x :: st) σ := by
  obtain ⟨p, l, e, R, s, m, args, below, meth, c⟩ := X
  obtain ⟨hl0, hx, hb, hml, hr, hlk, hnm, hown, hts, hK, hSw, hB, hR1, hR2, hR3, hR4⟩ := b
  intro H locs ls hP hS hL
  exact lv_if_lt hx hb hd ht (fun z => kt z H locs ls hP hS hL) (fun z => kf z H locs ls hP hS hL)
theorem w_if_ge {x : Int32} {off : Int} {tgt : Nat} (b : BX X l0 g μ d mc ms) (hd : decode μ.2.1 pc = .ok (.ifCond .ge off, 3)) (ht : (pc : Int) + off = (tgt : Int))
    (kt : 0 ≤ x → WW X g μ.2.2.1 Z kc ks tgt L st σ) (kf : ¬ 0 ≤ x → WW X g μ.2.2.1 Z kc ks (pc + 3) L st σ) : WW X g μ.2.2.1 Z kc ks pc L (.int x :: st) σ := by
  obtain ⟨p, l, e, R, s, m, args, below, meth, c⟩ := X
  obtain ⟨hl0, hx, hb, hml, hr, hlk, hnm, hown, hts, hK, hSw, hB, hR1, hR2, hR3, hR4⟩ := b
  intro H locs ls hP hS hL
  exact lv_if_ge hx hb hd ht (fun z => kt z H locs ls hP hS hL) (fun z => kf z H locs ls hP hS hL)
theorem w_if_gt {x : Int32} {off : Int} {tgt : Nat} (b : BX X l0 g μ d mc ms) (hd : decode μ.2.1 pc = .ok (.ifCond .gt off, 3)) (ht : (pc : Int) + off = (tgt : Int))
    (kt : 0 < x → WW X g μ.2.2.1 Z kc ks tgt L st σ) (kf : ¬ 0 < x → WW X g μ.2.2.1 Z kc ks (pc + 3) L st σ) : WW X g μ.2.2.1 Z kc ks pc L (.int x :: st) σ := by
  obtain ⟨p, l, e, R, s, m, args, below, meth, c⟩ := X
  obtain ⟨hl0, hx, hb, hml, hr, hlk, hnm, hown, hts, hK, hSw, hB, hR1, hR2, hR3, hR4⟩ := b
  intro H locs ls hP hS hL
  exact lv_if_gt hx hb hd ht (fun z => kt z H locs ls hP hS hL) (fun z => kf z H locs ls hP hS hL)
theorem w_if_le {x : Int32} {off : Int} {tgt : Nat} (b : BX X l0 g μ d mc ms) (hd : decode μ.2.1 pc = .ok (.ifCond .le off, 3)) (ht : (pc : Int) + off = (tgt : Int))
    (kt : x ≤ 0 → WW X g μ.2.2.1 Z kc ks tgt L st σ) (kf : ¬ x ≤ 0 → WW X g μ.2.2.1 Z kc ks (pc + 3) L st σ) : WW X g μ.2.2.1 Z kc ks pc L (.int x :: st) σ := by
  obtain ⟨p, l, e, R, s, m, args, below, meth, c⟩ := X
  obtain ⟨hl0, hx, hb, hml, hr, hlk, hnm, hown, hts, hK, hSw, hB, hR1, hR2, hR3, hR4⟩ := b
  intro H locs ls hP hS hL
  exact lv_if_le hx hb hd ht (fun z => kt z H locs ls hP hS hL) (fun z => kf z H locs ls hP hS hL)
theorem w_icmp_eq {x y : Int32} {off : Int} {tgt : Nat} (b : BX X l0 g μ d mc ms) (hd : decode μ.2.1 pc = .ok (.if_icmp .eq off, 3)) (ht : (pc : Int) + off = (tgt : Int))
    (kt : x = y → WW X g μ.2.2.1 Z kc ks tgt L st σ) (kf : ¬ x = y → WW X g μ.2.2.1 Z kc ks (pc + 3) L st σ) : WW X g μ.2.2.1 Z kc ks pc L (.int y :: .int x :: st) σ := by
  obtain ⟨p, l, e, R, s, m, args, below, meth, c⟩ := X
  obtain ⟨hl0, hx, hb, hml, hr, hlk, hnm, hown, hts, hK, hSw, hB, hR1, hR2, hR3, hR4⟩ := b
  intro H locs ls hP hS hL
  exact lv_icmp_eq hx hb hd ht (fun z => kt z H locs ls hP hS hL) (fun z => kf z H locs ls hP hS hL)
theorem w_icmp_ne {x y : Int32} {off : Int} {tgt : Nat} (b : BX X l0 g μ d mc ms) (hd : decode μ.2.1 pc = .ok (.if_icmp .ne off, 3)) (ht : (pc : Int) + off = (tgt : Int))
    (kt : ¬ x = y → WW X g μ.2.2.1 Z kc ks tgt L st σ) (kf : x = y → WW X g μ.2.2.1 Z kc ks (pc + 3) L st σ) : WW X g μ.2.2.1 Z kc ks pc L (.int y :: .int x :: st) σ := by
  obtain ⟨p, l, e, R, s, m, args, below, meth, c⟩ := X
  obtain ⟨hl0, hx, hb, hml, hr, hlk, hnm, hown, hts, hK, hSw, hB, hR1, hR2, hR3, hR4⟩ := b
  intro H locs ls hP hS hL
  exact lv_icmp_ne hx hb hd ht (fun z => kt z H locs ls hP hS hL) (fun z => kf z H locs ls hP hS hL)
theorem w_icmp_lt {x y : Int32} {off : Int} {tgt : Nat} (b : BX X l0 g μ d mc ms) (hd : decode μ.2.1 pc = .ok (.if_icmp .lt off, 3)) (ht : (pc : Int) + off = (tgt : Int))
    (kt : x < y → WW X g μ.2.2.1 Z kc ks tgt L st σ) (kf : ¬ x < y → WW X g μ.2.2.1 Z kc ks (pc + 3) L st σ) : WW X g μ.2.2.1 Z kc ks pc L (.int y :: .int x :: st) σ := by
  obtain ⟨p, l, e, R, s, m, args, below, meth, c⟩ := X
  obtain ⟨hl0, hx, hb, hml, hr, hlk, hnm, hown, hts, hK, hSw, hB, hR1, hR2, hR3, hR4⟩ := b
  intro H locs ls hP hS hL
  exact lv_icmp_lt hx hb hd ht (fun z => kt z H locs ls hP hS hL) (fun z => kf z H locs ls hP hS hL)
theorem w_icmp_ge {x y : Int32} {off : Int} {tgt : Nat} (b : BX X l0 g μ d mc ms) (hd : decode μ.2.1 pc = .ok (.if_icmp .ge off, 3)) (ht : (pc : Int) + off = (tgt : Int))
    (kt : y ≤ x → WW X g μ.2.2.1 Z kc ks tgt L st σ) (kf : ¬ y ≤ x → WW X g μ.2.2.1 Z kc ks (pc + 3) L st σ) : WW X g μ.2.2.1 Z kc ks pc L (.int y :: .int x :: st) σ := by
  obtain ⟨p, l, e, R, s, m, args, below, meth, c⟩ := X
  obtain ⟨hl0, hx, hb, hml, hr, hlk, hnm, hown, hts, hK, hSw, hB, hR1, hR2, hR3, hR4⟩ := b
  intro H locs ls hP hS hL
  exact lv_icmp_ge hx hb hd ht (fun z => kt z H locs ls hP hS hL) (fun z => kf z H locs ls hP hS hL)
theorem w_icmp_gt {x y : Int32} {off : Int} {tgt : Nat} (b : BX X l0 g μ d mc ms) (hd : decode μ.2.1 pc = .ok (.if_icmp .gt off, 3)) (ht : (pc : Int) + off = (tgt : Int))
    (kt : y < x → WW X g μ.2.2.1 Z kc ks tgt L st σ) (kf : ¬ y < x → WW X g μ.2.2.1 Z kc ks (pc + 3) L st σ) : WW X g μ.2.2.1 Z kc ks pc L (.int y :: .int x :: st) σ := by
  obtain ⟨p, l, e, R, s, m, args, below, meth, c⟩ := X
  obtain ⟨hl0, hx, hb, hml, hr, hlk, hnm, hown, hts, hK, hSw, hB, hR1, hR2, hR3, hR4⟩ := b
  intro H locs ls hP hS hL
  exact lv_icmp_gt hx hb hd ht (fun z => kt z H locs ls hP hS hL) (fun z => kf z H locs ls hP hS hL)
theorem w_icmp_le {x y : Int32} {off : Int} {tgt : Nat} (b : BX X l0 g μ d mc ms) (hd : decode μ.2.1 pc = .ok (.if_icmp .le off, 3)) (ht : (pc : Int) + off = (tgt : Int))
    (kt : x ≤ y → WW X g μ.2.2.1 Z kc ks tgt L st σ) (kf : ¬ x ≤ y → WW X g μ.2.2.1 Z kc ks (pc + 3) L st σ) : WW X g μ.2.2.1 Z kc ks pc L (.int y :: .int x :: st) σ := by
  obtain ⟨p, l, e, R, s, m, args, below, meth, c⟩ := X
  obtain ⟨hl0, hx, hb, hml, hr, hlk, hnm, hown, hts, hK, hSw, hB, hR1, hR2, hR3, hR4⟩ := b
  intro H locs ls hP hS hL
  exact lv_icmp_le hx hb hd ht (fun z => kt z H locs ls hP hS hL) (fun z => kf z H locs ls hP hS hL)
theorem w_goto {off : Int} {tgt : Nat} (b : BX X l0 g μ d mc ms) (hd : decode μ.2.1 pc = .ok (.goto off, 3)) (ht : (pc : Int) + off = (tgt : Int))
    (kk : WW X g μ.2.2.1 Z kc ks tgt L st σ) : WW X g μ.2.2.1 Z kc ks pc L st σ := by
  obtain ⟨p, l, e, R, s, m, args, below, meth, c⟩ := X
  obtain ⟨hl0, hx, hb, hml, hr, hlk, hnm, hown, hts, hK, hSw, hB, hR1, hR2, hR3, hR4⟩ := b
  intro H locs ls hP hS hL
  exact lv_goto hx hb hd ht (kk H locs ls hP hS hL)
theorem w_tswI {dflt lo hi : Int} {offs : Array Int} {len : Nat} {x : Int32} {off : Int} {tgt : Nat} (b : BX X l0 g μ d mc ms) (hd : decode μ.2.1 pc = .ok (.tableswitch dflt lo hi offs, len)) (h1 : ¬ x.toInt < lo) (h2 : ¬ hi < x.toInt) (ho : offs[(x.toInt - lo).toNat]? = some off) (ht : (pc : Int) + off = (tgt : Int))
    (kk : WW X g μ.2.2.1 Z kc ks tgt L st σ) : WW X g μ.2.2.1 Z kc ks pc L (.int x :: st) σ := by
  obtain ⟨p, l, e, R, s, m, args, below, meth, c⟩ := X
  obtain ⟨hl0, hx, hb, hml, hr, hlk, hnm, hown, hts, hK, hSw, hB, hR1, hR2, hR3, hR4⟩ := b
  intro H locs ls hP hS hL
  exact lv_tableIn hx hb hd h1 h2 ho ht (kk H locs ls hP hS hL)
theorem w_tswO {dflt lo hi : Int} {offs : Array Int} {len : Nat} {x : Int32} {tgt : Nat} (b : BX X l0 g μ d mc ms) (hd : decode μ.2.1 pc = .ok (.tableswitch dflt lo hi offs, len)) (h : x.toInt < lo ∨ hi < x.toInt) (ht : (pc : Int) + dflt = (tgt : Int))
    (kk : WW X g μ.2.2.1 Z kc ks tgt L st σ) : WW X g μ.2.2.1 Z kc ks pc L (.int x :: st) σ := by
  obtain ⟨p, l, e, R, s, m, args, below, meth, c⟩ := X
  obtain ⟨hl0, hx, hb, hml, hr, hlk, hnm, hown, hts, hK, hSw, hB, hR1, hR2, hR3, hR4⟩ := b
  intro H locs ls hP hS hL
  exact lv_tableOut hx hb hd h ht (kk H locs ls hP hS hL)
theorem w_ifnonnull_r {q : Nat} {off : Int} {tgt : Nat} (b : BX X l0 g μ d mc ms) (hd : decode μ.2.1 pc = .ok (.ifnonnull off, 3)) (ht : (pc : Int) + off = (tgt : Int))
    (kk : WW X g μ.2.2.1 Z kc ks tgt L st σ) : WW X g μ.2.2.1 Z kc ks pc L (.ref q :: st) σ := by
  obtain ⟨p, l, e, R, s, m, args, below, meth, c⟩ := X
  obtain ⟨hl0, hx, hb, hml, hr, hlk, hnm, hown, hts, hK, hSw, hB, hR1, hR2, hR3, hR4⟩ := b
  intro H locs ls hP hS hL
  exact lv_ifnonnull hx hb hd ht (kk H locs ls hP hS hL)
theorem w_ifnonnull_n {off : Int} (b : BX X l0 g μ d mc ms) (hd : decode μ.2.1 pc = .ok (.ifnonnull off, 3)) 
    (kk : WW X g μ.2.2.1 Z kc ks (pc + 3) L st σ) : WW X g μ.2.2.1 Z kc ks pc L (.null :: st) σ := by
  obtain ⟨p, l, e, R, s, m, args, below, meth, c⟩ := X
  obtain ⟨hl0, hx, hb, hml, hr, hlk, hnm, hown, hts, hK, hSw, hB, hR1, hR2, hR3, hR4⟩ := b
  intro H locs ls hP hS hL
  exact lv_ifnonnullN hx hb hd (kk H locs ls hP hS hL)
def ZQ (X : Cx) (g : Gw) (Q : Option Value → Sg → Prop) (mc ms : Nat) : State → Prop := match X with
  | (_, _, _, _, s, _, args, below, _, _) => MQ below (Qm g Q) args s mc ms (gF g)
variable {Q : Option Value → Sg → Prop}
theorem w_iret {v : Int32} (b : BX X l0 g μ d mc ms) (hd : decode μ.2.1 pc = .ok (.ireturn, 1)) (hrt : μ.2.2.2 = some .int) (hk : kc ≤ mc) (hs : ks ≤ ms) (hq : Q (some (.int v)) σ) : WW X g μ.2.2.1 (ZQ X g Q mc ms) kc ks pc L [.int v] σ := by
  obtain ⟨p, l, e, R, s, m, args, below, meth, c⟩ := X
  obtain ⟨hl0, hx, hb, hml, hr, hlk, hnm, hown, hts, hK, hSw, hB, hR1, hR2, hR3, hR4⟩ := b
  intro H locs ls hP hS hL
  refine W.widen hk hs ?_
  exact W.iret hx hb (hr.trans hrt) (fun t ht hW => ⟨⟨_, σ, rfl, hq, by rw [ht]; exact hP⟩, hS.F ht⟩) hS.2.2 hd
theorem w_zret {v : Int32} (b : BX X l0 g μ d mc ms) (hd : decode μ.2.1 pc = .ok (.ireturn, 1)) (hrt : μ.2.2.2 = some .boolean) (hv : narrow .boolean (.int v) = .int v) (hk : kc ≤ mc) (hs : ks ≤ ms) (hq : Q (some (.int v)) σ) : WW X g μ.2.2.1 (ZQ X g Q mc ms) kc ks pc L [.int v] σ := by
  obtain ⟨p, l, e, R, s, m, args, below, meth, c⟩ := X
  obtain ⟨hl0, hx, hb, hml, hr, hlk, hnm, hown, hts, hK, hSw, hB, hR1, hR2, hR3, hR4⟩ := b
  intro H locs ls hP hS hL
  refine W.widen hk hs ?_
  exact W.zret hx hb (hr.trans hrt) hv (fun t ht hW => ⟨⟨_, σ, rfl, hq, by rw [ht]; exact hP⟩, hS.F ht⟩) hS.2.2 hd
theorem w_vret  (b : BX X l0 g μ d mc ms) (hd : decode μ.2.1 pc = .ok (.return_, 1)) (hrt : μ.2.2.2 = none) (hk : kc ≤ mc) (hs : ks ≤ ms) (hq : Q none σ) : WW X g μ.2.2.1 (ZQ X g Q mc ms) kc ks pc L [] σ := by
  obtain ⟨p, l, e, R, s, m, args, below, meth, c⟩ := X
  obtain ⟨hl0, hx, hb, hml, hr, hlk, hnm, hown, hts, hK, hSw, hB, hR1, hR2, hR3, hR4⟩ := b
  intro H locs ls hP hS hL
  refine W.widen hk hs ?_
  exact W.vret hx hb (hr.trans hrt) (fun t ht hW => ⟨⟨_, σ, rfl, hq, by rw [ht]; exact hP⟩, hS.F ht⟩) hS.2.2 hd
theorem w_lret {v : Int64} (b : BX X l0 g μ d mc ms) (hd : decode μ.2.1 pc = .ok (.lreturn, 1)) (hrt : μ.2.2.2 = some .long) (hk : kc ≤ mc) (hs : ks ≤ ms) (hq : Q (some (.long v)) σ) : WW X g μ.2.2.1 (ZQ X g Q mc ms) kc ks pc L [.long v] σ := by
  obtain ⟨p, l, e, R, s, m, args, below, meth, c⟩ := X
  obtain ⟨hl0, hx, hb, hml, hr, hlk, hnm, hown, hts, hK, hSw, hB, hR1, hR2, hR3, hR4⟩ := b
  intro H locs ls hP hS hL
  refine W.widen hk hs ?_
  exact W.lret hx hb (hr.trans hrt) (fun t ht hW => ⟨⟨_, σ, rfl, hq, by rw [ht]; exact hP⟩, hS.F ht⟩) hS.2.2 hd
theorem w_aret {v : Value} {rt : FieldType} (b : BX X l0 g μ d mc ms) (hd : decode μ.2.1 pc = .ok (.areturn, 1)) (hrt : μ.2.2.2 = some rt) (hrr : (∃ n, rt = .object n) ∨ ∃ t, rt = .array t) (hv : isR v = true) (hk : kc ≤ mc) (hs : ks ≤ ms) (hq : Q (some v) σ) : WW X g μ.2.2.1 (ZQ X g Q mc ms) kc ks pc L [v] σ := by
  obtain ⟨p, l, e, R, s, m, args, below, meth, c⟩ := X
  obtain ⟨hl0, hx, hb, hml, hr, hlk, hnm, hown, hts, hK, hSw, hB, hR1, hR2, hR3, hR4⟩ := b
  intro H locs ls hP hS hL
  refine W.widen hk hs ?_
  exact W.aret hx hb (hr.trans hrt) hrr (by cases v <;> first | exact Or.inl rfl | exact Or.inr ⟨_, rfl⟩ | cases hv) (fun t ht hW => ⟨⟨_, σ, rfl, hq, by rw [ht]; exact hP⟩, hS.F ht⟩) hS.2.2 hd
end FWR
end
section
/-! RULES: instructions that touch cells -/
section FWC
variable {X : Cx} {l0 : Launch} {g : Gw} {μ : Md} {d mc ms : Nat} {Z : State → Prop} {kc ks pc : Nat} {L : List (Option Value)} {st : List Value} {σ : Sg}
/-- own's entry idx names field k of the class ci -/
def GF (own : String) (idx ci k : Nat) : Prop := ∃ (C : String) (T : u_T) (N : Nat) (ref : String), kcls[ci]? = some (C, T, N) ∧ k < N ∧ (∀ w ∈ u_ws C T N, w ∈ gw) ∧ Cond.fieldLink own idx ref (T k).2.1 (T k).2.2.1 ∈ gw ∧ (ref = (T k).1 ∨ Cond.sameField ref (T k).1 (T k).2.1 (T k).2.2.1 ∈ gw)
theorem gf_same {ref o n dd : String} {args : Array Value} {s : State} (hts : ∀ w ∈ gw, w.before args s = true) (h : ref = o ∨ Cond.sameField ref o n dd ∈ gw) : ∀ x, s.fieldFound? o n dd = some x → s.fieldFound? ref n dd = some x := by
  rcases h with rfl | h
  · exact fun _ h => h
  · exact u_same (hts _ h)
theorem w_getf {idx ci k q : Nat} {fs : List Value} {v : Value} (b : BX X l0 g μ d mc ms) (hd : decode μ.2.1 pc = .ok (.getfield idx, 3)) (lk : GF μ.1.cls idx ci k) (hc : σ.1 q = .inr (ci, fs)) (hv : fs[k]? = some v)
    (kk : WW X g μ.2.2.1 Z kc ks (pc + 3) L (v :: st) σ) : WW X g μ.2.2.1 Z kc ks pc L (.ref q :: st) σ := by
  obtain ⟨p, l, e, R, s, m, args, below, meth, c⟩ := X
  obtain ⟨hl0, hx, hb, hml, hr, hlk, hnm, hown, hts, hK, hSw, hB, hR1, hR2, hR3, hR4⟩ := b
  intro H locs ls hP hS hL
  obtain ⟨C, T, N, ref, h1, h2, h3, h4, h5⟩ := lk
  have ha := hP.at hc (neO h1)
  exact va_get (D := gD g) (ci := ci) (v := cv g v) (C := C) (T := T) (N := N) hx hb hts h3 hown hK.1 hP.2.2 q ha h1 k h2 (hts _ h4) (gf_same hts h5) (by rw [List.getElem?_map, hv]; rfl) hd (kk H locs ls hP hS hL)
/-- the class ci's table is as a put needs it -/
def GC (ci : Nat) : Prop := ∃ (C : String) (T : u_T) (N : Nat) (ty0 : Nat → FieldType), kcls[ci]? = some (C, T, N) ∧ (∀ k, k < N → parseFieldDescriptor (T k).2.2.1 = some (ty0 k)) ∧ (∀ a, a < N → ∀ b, b < N → a ≠ b → (T a).2.1 ≠ (T b).2.1)
/-- the field k of the class ci: its type, whether it is final -/
def GT (own : String) (ci k : Nat) (ty : FieldType) (fin : Bool) : Prop := ∀ (C : String) (T : u_T) (N : Nat), kcls[ci]? = some (C, T, N) → parseFieldDescriptor (T k).2.2.1 = some ty ∧ (T k).2.2.2 = fin ∧ (fin = true → (T k).1 = own)
theorem st_fin {s : State} {H H1 : Heap} {locs : List Loc} {q j : Nat} {c0 c1 : va_E} (hP : RH g σ H) (hS : va_S (gF g) s.heap H locs) (hc : σ.1 q = c0) (hn : c0 ≠ nilE) (he : va_at (gD g) kcls (gB g + q, ce g c1) H1) (hz : H1.size = H.size) (oq : ∀ x : Nat, x ≠ gB g + q → H1[x]? = H[x]?) :
    RH g (va_up σ.1 q c1, σ.2) H1 ∧ va_S (gF g) s.heap H1 (locs ++ [⟨gB g + q, j⟩]) := by
  have ha := hP.at hc hn
  exact ⟨hP.up hc hn hz (hP.2.2.set (wd_D g σ.1 σ.2) ha he oq), hS.put hz oq (Nat.le_add_right _ _)⟩
theorem w_putf {idx ci k q : Nat} {fs : List Value} {v : Value} {ty : FieldType} {fin : Bool} (b : BX X l0 g μ d mc ms) (hd : decode μ.2.1 pc = .ok (.putfield idx, 3)) (lk : GF μ.1.cls idx ci k) (gc : GC ci) (gt : GT μ.1.cls ci k ty fin) (hin : fin = true → μ.1.name = "<init>") (hc : σ.1 q = .inr (ci, fs)) (hl : k < fs.length) (hn : narrow ty (cv g v) = cv g v) (hfit : fits ty (cv g v) = true)
    (kk : WW X g μ.2.2.1 Z kc ks (pc + 3) L st (va_up σ.1 q (.inr (ci, fs.set k v)), σ.2)) : WW X g μ.2.2.1 Z kc ks pc L (v :: .ref q :: st) σ := by
  obtain ⟨p, l, e, R, s, m, args, below, meth, c⟩ := X
  obtain ⟨hl0, hx, hb, hml, hr, hlk, hnm, hown, hts, hK, hSw, hB, hR1, hR2, hR3, hR4⟩ := b
  intro H locs ls hP hS hL
  obtain ⟨C, T, N, ref, h1, h2, h3, h4, h5⟩ := lk
  obtain ⟨C', T', N', ty0, z1, hty, hnms⟩ := gc
  cases h1.symm.trans z1
  obtain ⟨hd2, hfin, hdecl⟩ := gt C T N h1
  have ha := hP.at hc (neO h1)
  have hap := va_apart (own := μ.1.cls) hts h3 ty0 hty hnms hK.1 h1
  obtain ⟨r, g1, cell, q1, q2, q3, q4⟩ := hP.2.2 q _ ha
  have hrr : r = (C, T, N) := Option.some.inj (g1.symm.trans h1)
  subst hrr
  obtain ⟨hSl, hfc, kC, hkC, hkind⟩ := hK.1.1 ci _ h1
  obtain ⟨cf, kf, fi, f, hi, hsl⟩ := hSl k h2
  have hlay := hts _ (h3 _ (u_in_lay h2))
  have hst := (u_facts hfc hkC (u_lays hts h3 h2) hi).1
  have key : ∀ H' : Heap, H'[gB g + q]? = some (cell.setSlot f.slot (cv g v)) → H'.size = H.size → (∀ x : Nat, x ≠ gB g + q → H'[x]? = H[x]?) → W p l e R s m args below meth c H' (locs ++ [⟨gB g + q, f.slot⟩]) kc ks Z (F0 m (pc + 3) ls (st.map (cv g))) := by
    intro H' e1 e2 e3
    have hat : va_at (gD g) kcls (gB g + q, ce g (.inr (ci, fs.set k v))) H' := by
      refine ⟨_, h1, t_OB.to (V := updV (vp_V (fs.map (cv g))) k (cv g v)) ⟨_, e1, q2, q3, ?_⟩ (fun j _ => ?_)⟩
      · rw [hsl]
        exact t_set q4 hap h2 (cv g v)
      · have e5 := vp_updV_set (fs := fs.map (cv g)) (k := k) (by rw [List.length_map]; exact hl) (cv g v) j
        rw [e5, List.map_set]
    obtain ⟨r1, r2⟩ := st_fin (j := f.slot) hP hS hc (neO h1) hat e2 e3
    exact kk H' _ ls r1 r2 hL
  cases fin with
  | false =>
    unfold u_lay at hlay
    rw [if_neg (by rw [hfin]; decide)] at hlay
    have h6 := u_store hfc hkC hkind hlay hi hd2 hn hfit
    exact W.putK hx hb (f := f) ⟨hown, hts _ h4, ⟨_, _, _, gf_same hts h5 _ hi⟩, hst⟩ (by rw [q2]; exact h6) q1 q3 (by rw [hsl]; exact k2_hasslot (q4 k h2)) rfl rfl hd key
  | true =>
    unfold u_lay at hlay
    rw [if_pos hfin] at hlay
    have hcf : m.cls = cf := by
      obtain ⟨_, _, c', _, _, _, -, -, hf', -, -, -, hown2, -⟩ := Cond.laysFinal_spec hlay
      have e1 : c' = cf := by have := hi.symm.trans hf'; simp at this; exact this.1.symm
      rw [hdecl rfl] at hown2
      rw [← e1]; exact Option.some.inj (hown.symm.trans hown2)
    have h6 := u_fits hfc hkC hkind (Or.inr hlay) hi hd2 hn hfit
    exact W.putFinK hx hb hown (hts _ h4) (gf_same hts h5 _ hi) hst hcf (hnm.trans (hin rfl)) (by rw [q2]; exact h6) q1 q3 (by rw [hsl]; exact k2_hasslot (q4 k h2)) rfl rfl hd key
/-! arrays -/
theorem w_iald {q n : Nat} {f : Nat → Int32} {i : Int32} (b : BX X l0 g μ d mc ms) (hd : decode μ.2.1 pc = .ok (.iaload, 1)) (hc : σ.1 q = .inl (0, n, .inl f)) (hin : vp_in i n)
    (kk : WW X g μ.2.2.1 Z kc ks (pc + 1) L (.int (f i.toNatClampNeg) :: st) σ) : WW X g μ.2.2.1 Z kc ks pc L (.int i :: .ref q :: st) σ := by
  obtain ⟨p, l, e, R, s, m, args, below, meth, c⟩ := X
  obtain ⟨hl0, hx, hb, hml, hr, hlk, hnm, hown, hts, hK, hSw, hB, hR1, hR2, hR3, hR4⟩ := b
  intro H locs ls hP hS hL
  exact va_iald hx hb hK.1 hP.2.2 q 0 (hP.at hc neI) rfl hin hd (kk H locs ls hP hS hL)
theorem w_bald {q n : Nat} {f : Nat → Int32} {i : Int32} (b : BX X l0 g μ d mc ms) (hd : decode μ.2.1 pc = .ok (.baload, 1)) (hc : σ.1 q = .inl (1, n, .inl f)) (hin : vp_in i n)
    (kk : WW X g μ.2.2.1 Z kc ks (pc + 1) L (.int (f i.toNatClampNeg) :: st) σ) : WW X g μ.2.2.1 Z kc ks pc L (.int i :: .ref q :: st) σ := by
  obtain ⟨p, l, e, R, s, m, args, below, meth, c⟩ := X
  obtain ⟨hl0, hx, hb, hml, hr, hlk, hnm, hown, hts, hK, hSw, hB, hR1, hR2, hR3, hR4⟩ := b
  intro H locs ls hP hS hL
  exact va_bald hx hb hK.1 hP.2.2 q 1 (hP.at hc neI) rfl hin hd (kk H locs ls hP hS hL)
theorem w_sald {q n : Nat} {f : Nat → Int32} {i : Int32} (b : BX X l0 g μ d mc ms) (hd : decode μ.2.1 pc = .ok (.saload, 1)) (hc : σ.1 q = .inl (2, n, .inl f)) (hin : vp_in i n)
    (kk : WW X g μ.2.2.1 Z kc ks (pc + 1) L (.int (f i.toNatClampNeg) :: st) σ) : WW X g μ.2.2.1 Z kc ks pc L (.int i :: .ref q :: st) σ := by
  obtain ⟨p, l, e, R, s, m, args, below, meth, c⟩ := X
  obtain ⟨hl0, hx, hb, hml, hr, hlk, hnm, hown, hts, hK, hSw, hB, hR1, hR2, hR3, hR4⟩ := b
  intro H locs ls hP hS hL
  exact va_sald hx hb hK.1 hP.2.2 q 2 (hP.at hc neI) rfl hin hd (kk H locs ls hP hS hL)
theorem w_lald {q n : Nat} {f : Nat → Int64} {i : Int32} (b : BX X l0 g μ d mc ms) (hd : decode μ.2.1 pc = .ok (.laload, 1)) (hc : σ.1 q = .inl (3, n, .inr (.inl f))) (hin : vp_in i n)
    (kk : WW X g μ.2.2.1 Z kc ks (pc + 1) L (.long (f i.toNatClampNeg) :: st) σ) : WW X g μ.2.2.1 Z kc ks pc L (.int i :: .ref q :: st) σ := by
  obtain ⟨p, l, e, R, s, m, args, below, meth, c⟩ := X
  obtain ⟨hl0, hx, hb, hml, hr, hlk, hnm, hown, hts, hK, hSw, hB, hR1, hR2, hR3, hR4⟩ := b
  intro H locs ls hP hS hL
  exact va_lald hx hb hK.1 hP.2.2 q 3 (hP.at hc neI) rfl hin hd (kk H locs ls hP hS hL)
/-- the class of the elements of an array of references, by its number -/
def aoN : Nat → String := fun t => match t with
  | 4 => "java/lang/Object"
  | 5 => RX7
  | 6 => RX3
  | _ => RX4
theorem aoN_ty (g : Gw) : ∀ t, 4 ≤ t → t < 8 → (tyl g)[t]? = some (gA g t, .object (aoN t)) := by
  intro t h1 h2
  rcases (show t = 4 ∨ t = 5 ∨ t = 6 ∨ t = 7 by omega) with rfl | rfl | rfl | rfl <;> rfl
theorem w_aald {q n t : Nat} {f : Nat → Option Nat} {i : Int32} {r : Option Nat} (b : BX X l0 g μ d mc ms) (hd : decode μ.2.1 pc = .ok (.aaload, 1)) (hc : σ.1 q = .inl (t, n, .inr (.inr (.inr (.inr f))))) (ht : 4 ≤ t ∧ t < 8) (hin : vp_in i n) (hr : f i.toNatClampNeg = r)
    (kk : WW X g μ.2.2.1 Z kc ks (pc + 1) L (va_rf r :: st) σ) : WW X g μ.2.2.1 Z kc ks pc L (.int i :: .ref q :: st) σ := by
  subst hr
  obtain ⟨p, l, e, R, s, m, args, below, meth, c⟩ := X
  obtain ⟨hl0, hx, hb, hml, hr, hlk, hnm, hown, hts, hK, hSw, hB, hR1, hR2, hR3, hR4⟩ := b
  intro H locs ls hP hS hL
  refine va_aldq (C := aoN t) hx hb hK.1 hP.2.2 q t (hP.at hc neI) (aoN_ty g t ht.1 ht.2) hin hd ?_
  have h1 := kk H locs ls hP hS hL
  refine W.eq ?_ h1
  show F0 m (pc + 1) ls _ = F0 m (pc + 1) ls _
  congr 1
  rw [List.map_cons]
  congr 1
  cases f i.toNatClampNeg <;> rfl
theorem w_alen {q n t : Nat} {y : (Nat → Int32) ⊕ (Nat → Int64) ⊕ (Nat → UInt32) ⊕ (Nat → UInt64) ⊕ (Nat → Option Nat)} {v : Int32} (b : BX X l0 g μ d mc ms) (hd : decode μ.2.1 pc = .ok (.arraylength, 1)) (hc : σ.1 q = .inl (t, n, y)) (ht : t < 8) (hv : Int32.ofNat n = v)
    (kk : WW X g μ.2.2.1 Z kc ks (pc + 1) L (.int v :: st) σ) : WW X g μ.2.2.1 Z kc ks pc L (.ref q :: st) σ := by
  obtain ⟨p, l, e, R, s, m, args, below, meth, c⟩ := X
  obtain ⟨hl0, hx, hb, hml, hr, hlk, hnm, hown, hts, hK, hSw, hB, hR1, hR2, hR3, hR4⟩ := b
  intro H locs ls hP hS hL
  have ha := hP.at hc neI
  have ht2 : ∃ ty, (tyl g)[t]? = some (gA g t, ty) := by
    rcases (show t = 0 ∨ t = 1 ∨ t = 2 ∨ t = 3 ∨ t = 4 ∨ t = 5 ∨ t = 6 ∨ t = 7 by omega) with rfl | rfl | rfl | rfl | rfl | rfl | rfl | rfl <;> exact ⟨_, rfl⟩
  obtain ⟨ty, ht2⟩ := ht2
  have he : ∃ y', ce g (.inl (t, n, y)) = .inl (gA g t, n, y') := by
    rcases y with f | f | f | f | f <;> exact ⟨_, rfl⟩
  obtain ⟨y', he⟩ := he
  rw [he] at ha
  exact va_alen (x := (n, y')) hx hb hK.1 hP.2.2 q t ha ht2 hv hd (kk H locs ls hP hS hL)
theorem w_alenE (b : BX X l0 g μ d mc ms) (hd : decode μ.2.1 pc = .ok (.arraylength, 1))
    (kk : WW X g μ.2.2.1 Z kc ks (pc + 1) L (.int 0 :: st) σ) : WW X g μ.2.2.1 Z kc ks pc L (.float 0 :: st) σ := by
  obtain ⟨p, l, e, R, s, m, args, below, meth, c⟩ := X
  obtain ⟨hl0, hx, hb, hml, hr, hlk, hnm, hown, hts, hK, hSw, hB, hR1, hR2, hR3, hR4⟩ := b
  intro H locs ls hP hS hL
  exact va_tlen hx hb hSw.2.1 hS rfl hd (kk H locs ls hP hS hL)
theorem w_slen (b : BX X l0 g μ d mc ms) (hd : decode μ.2.1 pc = .ok (.arraylength, 1))
    (kk : WW X g μ.2.2.1 Z kc ks (pc + 1) L (.int (nI (gL g)) :: st) σ) : WW X g μ.2.2.1 Z kc ks pc L (.float 1 :: st) σ := by
  obtain ⟨p, l, e, R, s, m, args, below, meth, c⟩ := X
  obtain ⟨hl0, hx, hb, hml, hr, hlk, hnm, hown, hts, hK, hSw, hB, hR1, hR2, hR3, hR4⟩ := b
  intro H locs ls hP hS hL
  exact va_slen hx hb hSw.2.2.1 (Nat.lt_of_lt_of_le hSw.2.2.2.1 hB) (Nat.not_le.mpr hSw.2.2.2.1) hS hd (kk H locs ls hP hS hL)
theorem w_sld {i : Int32} (b : BX X l0 g μ d mc ms) (hd : decode μ.2.1 pc = .ok (.iaload, 1)) (hin : vp_in i (gL g))
    (kk : WW X g μ.2.2.1 Z kc ks (pc + 1) L (.int (gX g i.toNatClampNeg) :: st) σ) : WW X g μ.2.2.1 Z kc ks pc L (.int i :: .float 1 :: st) σ := by
  obtain ⟨p, l, e, R, s, m, args, below, meth, c⟩ := X
  obtain ⟨hl0, hx, hb, hml, hr, hlk, hnm, hown, hts, hK, hSw, hB, hR1, hR2, hR3, hR4⟩ := b
  intro H locs ls hP hS hL
  exact va_sld hx hb hSw.2.2.1 (Nat.lt_of_lt_of_le hSw.2.2.2.1 hB) (Nat.not_le.mpr hSw.2.2.2.1) hS hin hd (kk H locs ls hP hS hL)
theorem fw_updI (f : Nat → Int32) (k : Nat) (x : Int32) : (fun j => Value.int (upd f k x j)) = updV (fun j => Value.int (f j)) k (.int x) := by
  funext j
  by_cases h : j = k
  · subst h
    simp [upd, updV]
  · simp [upd, updV, h]
theorem w_iast {q n : Nat} {f : Nat → Int32} {i x : Int32} (b : BX X l0 g μ d mc ms) (hd : decode μ.2.1 pc = .ok (.iastore, 1)) (hc : σ.1 q = .inl (0, n, .inl f)) (hin : vp_in i n)
    (kk : WW X g μ.2.2.1 Z kc ks (pc + 1) L st (va_up σ.1 q (.inl (0, n, .inl (upd f i.toNatClampNeg x))), σ.2)) : WW X g μ.2.2.1 Z kc ks pc L (.int x :: .int i :: .ref q :: st) σ := by
  obtain ⟨p, l, e, R, s, m, args, below, meth, c⟩ := X
  obtain ⟨hl0, hx, hb, hml, hr, hlk, hnm, hown, hts, hK, hSw, hB, hR1, hR2, hR3, hR4⟩ := b
  intro H locs ls hP hS hL
  have ha := hP.at hc neI
  refine W.iast hx hb (hP.2.2 q _ ha) ((hK.1.2 0 _ rfl).1 n (fun j => .int (f j))) (fun z => by cases z) (by show ¬ (i < 0 ∨ (arrV _ _ _).slots.size ≤ _); rw [arrV_size]; exact hin) rfl rfl hd fun H1 e z oq => ?_
  obtain ⟨r1, r2⟩ := st_fin (j := i.toNatClampNeg) (c1 := .inl (0, n, .inl (upd f i.toNatClampNeg x))) hP hS hc neI (by
    show H1[gB g + q]? = some (vp_cell _ _)
    rw [e, vp_cell_i, vp_cell_i, arrV_store, fw_updI]) z oq
  exact kk H1 _ ls r1 r2 hL
theorem w_bast {q n : Nat} {f : Nat → Int32} {i x : Int32} (b : BX X l0 g μ d mc ms) (hd : decode μ.2.1 pc = .ok (.bastore, 1)) (hc : σ.1 q = .inl (1, n, .inl f)) (hin : vp_in i n)
    (kk : WW X g μ.2.2.1 Z kc ks (pc + 1) L st (va_up σ.1 q (.inl (1, n, .inl (upd f i.toNatClampNeg (vp_nar .byte x)))), σ.2)) : WW X g μ.2.2.1 Z kc ks pc L (.int x :: .int i :: .ref q :: st) σ := by
  obtain ⟨p, l, e, R, s, m, args, below, meth, c⟩ := X
  obtain ⟨hl0, hx, hb, hml, hr, hlk, hnm, hown, hts, hK, hSw, hB, hR1, hR2, hR3, hR4⟩ := b
  intro H locs ls hP hS hL
  have ha := hP.at hc neI
  refine W.bast hx hb (hP.2.2 q _ ha) ((hK.1.2 1 _ rfl).1 n (fun j => .int (f j))) (fun z => by cases z) (by show ¬ (i < 0 ∨ (arrV _ _ _).slots.size ≤ _); rw [arrV_size]; exact hin) rfl rfl hd fun H1 e z oq => ?_
  obtain ⟨r1, r2⟩ := st_fin (j := i.toNatClampNeg) (c1 := .inl (1, n, .inl (upd f i.toNatClampNeg (vp_nar .byte x)))) hP hS hc neI (by
    show H1[gB g + q]? = some (vp_cell _ _)
    rw [e, vp_cell_i, vp_cell_i, arrV_store, fw_updI]
    rfl) z oq
  exact kk H1 _ ls r1 r2 hL
theorem w_sast {q n : Nat} {f : Nat → Int32} {i x : Int32} (b : BX X l0 g μ d mc ms) (hd : decode μ.2.1 pc = .ok (.sastore, 1)) (hc : σ.1 q = .inl (2, n, .inl f)) (hin : vp_in i n)
    (kk : WW X g μ.2.2.1 Z kc ks (pc + 1) L st (va_up σ.1 q (.inl (2, n, .inl (upd f i.toNatClampNeg (vp_nar .short x)))), σ.2)) : WW X g μ.2.2.1 Z kc ks pc L (.int x :: .int i :: .ref q :: st) σ := by
  obtain ⟨p, l, e, R, s, m, args, below, meth, c⟩ := X
  obtain ⟨hl0, hx, hb, hml, hr, hlk, hnm, hown, hts, hK, hSw, hB, hR1, hR2, hR3, hR4⟩ := b
  intro H locs ls hP hS hL
  have ha := hP.at hc neI
  refine W.sast hx hb (hP.2.2 q _ ha) ((hK.1.2 2 _ rfl).1 n (fun j => .int (f j))) (fun z => by cases z) (by show ¬ (i < 0 ∨ (arrV _ _ _).slots.size ≤ _); rw [arrV_size]; exact hin) rfl rfl hd fun H1 e z oq => ?_
  obtain ⟨r1, r2⟩ := st_fin (j := i.toNatClampNeg) (c1 := .inl (2, n, .inl (upd f i.toNatClampNeg (vp_nar .short x)))) hP hS hc neI (by
    show H1[gB g + q]? = some (vp_cell _ _)
    rw [e, vp_cell_i, vp_cell_i, arrV_store, fw_updI]
    rfl) z oq
  exact kk H1 _ ls r1 r2 hL
theorem w_last {q n : Nat} {f : Nat → Int64} {i : Int32} {x : Int64} (b : BX X l0 g μ d mc ms) (hd : decode μ.2.1 pc = .ok (.lastore, 1)) (hc : σ.1 q = .inl (3, n, .inr (.inl f))) (hin : vp_in i n)
    (kk : WW X g μ.2.2.1 Z kc ks (pc + 1) L st (va_up σ.1 q (.inl (3, n, .inr (.inl (vp_updL f i.toNatClampNeg x)))), σ.2)) : WW X g μ.2.2.1 Z kc ks pc L (.long x :: .int i :: .ref q :: st) σ := by
  obtain ⟨p, l, e, R, s, m, args, below, meth, c⟩ := X
  obtain ⟨hl0, hx, hb, hml, hr, hlk, hnm, hown, hts, hK, hSw, hB, hR1, hR2, hR3, hR4⟩ := b
  intro H locs ls hP hS hL
  have ha := hP.at hc neI
  refine W.last hx hb (hP.2.2 q _ ha) ((hK.1.2 3 _ rfl).1 n (fun j => .long (f j))) (fun z => by cases z) (by show ¬ (i < 0 ∨ (arrV _ _ _).slots.size ≤ _); rw [arrV_size]; exact hin) rfl rfl hd fun H1 e z oq => ?_
  obtain ⟨r1, r2⟩ := st_fin (j := i.toNatClampNeg) (c1 := .inl (3, n, .inr (.inl (vp_updL f i.toNatClampNeg x)))) hP hS hc neI (by
    show H1[gB g + q]? = some (vp_cell _ _)
    rw [e, vp_cell_l, vp_cell_l, arrV_store]
    congr 2
    funext j
    by_cases h : j = i.toNatClampNeg
    · subst h
      simp [vp_updL, updV]
    · simp [vp_updL, updV, h]) z oq
  exact kk H1 _ ls r1 r2 hL
/-- an element that may lie in an array of references: a cell of the class ci; the array's own class, or Object with castable said -/
theorem w_aast {q n t w ci : Nat} {fs : List Value} {C : String} {T : u_T} {N : Nat} {f : Nat → Option Nat} {i : Int32} (b : BX X l0 g μ d mc ms) (hd : decode μ.2.1 pc = .ok (.aastore, 1)) (hc : σ.1 q = .inl (t, n, .inr (.inr (.inr (.inr f))))) (ht : 4 ≤ t ∧ t < 8) (hw : σ.1 w = .inr (ci, fs)) (hC : kcls[ci]? = some (C, T, N)) (hE : C = aoN t ∨ (t = 4 ∧ C ∈ caC)) (hin : vp_in i n)
    (kk : WW X g μ.2.2.1 Z kc ks (pc + 1) L st (va_up σ.1 q (.inl (t, n, .inr (.inr (.inr (.inr (va_up f i.toNatClampNeg (some w))))))), σ.2)) : WW X g μ.2.2.1 Z kc ks pc L (.ref w :: .int i :: .ref q :: st) σ := by
  obtain ⟨p, l, e, R, s, m, args, below, meth, c⟩ := X
  obtain ⟨hl0, hx, hb, hml, hr, hlk, hnm, hown, hts, hK, hSw, hB, hR1, hR2, hR3, hR4⟩ := b
  intro H locs ls hP hS hL
  have ha := hP.at hc neI
  have hv := hP.at hw (neO hC)
  have hlt : i.toNatClampNeg < n := Nat.not_le.mp fun z => hin (Or.inr z)
  have h0 : ¬ i < 0 := fun z => hin (Or.inl z)
  obtain ⟨cell, v1, v2, v3⟩ := va_recv hK.1 hP.2.2 hC hv
  obtain ⟨kA, comp, k1, k2, k3, -⟩ := (hK.1.2 t _ (aoN_ty g t ht.1 ht.2)).2
  have hcls := (hK.1.1 ci _ hC).2
  obtain ⟨kE, hkE, -⟩ := Vm.findClass_spec k3
  obtain ⟨kC, hkC, -⟩ := hcls.2
  have hcc : cell.cls = (gD g).1 ci := Option.some.inj (v3.symm.trans hcls.1)
  have hasg : s.vm.assignable cell.cls comp = true := by
    rcases hE with rfl | hE
    · have hcomp : comp = (gD g).1 ci := Option.some.inj (k3.symm.trans hcls.1)
      rw [hcc, hcomp]
      exact va_assign hcls
    · obtain ⟨rfl, hE⟩ := hE
      obtain ⟨c0, t1, f1, f2, f3⟩ := Cond.castable_spec (va_Nw.use (A := args) rfl (hK.2.2.2 C hE))
      cases v3.symm.trans f1
      cases k3.symm.trans f2
      exact f3
  refine W.aast hx hb (hP.2.2 q _ ha) (fun z h => by cases h) (fun h => by cases h) k1 k2 rfl hkE ⟨h0, by show _ < (arrV _ _ _).slots.size; rw [arrV_size]; exact hlt⟩ v1 (fun z h => by rw [h] at v2; cases v2) (by rw [hcc]; exact hkC) hasg rfl rfl hd fun H1 e z oq => ?_
  obtain ⟨r1, r2⟩ := st_fin (j := i.toNatClampNeg) (c1 := .inl (t, n, .inr (.inr (.inr (.inr (va_up f i.toNatClampNeg (some w))))))) hP hS hc neI (by
    show H1[gB g + q]? = some (vp_cell _ _)
    rw [e, vp_cell_q, vp_cell_q, arrV_store]
    congr 2
    funext j
    by_cases h : j = i.toNatClampNeg
    · subst h
      simp [va_up, updV, va_rf]
    · simp [va_up, updV, h]) z oq
  exact kk H1 _ ls r1 r2 hL
end FWC
end
section
/-! RULES: what is made, calls, the start of a body -/
section FWD
variable {X : Cx} {l0 : Launch} {g : Gw} {μ : Md} {d mc ms : Nat} {Z : State → Prop} {kc ks pc : Nat} {L : List (Option Value)} {st : List Value} {σ : Sg}
theorem al_fin {s : State} {H H1 : Heap} {locs : List Loc} {c1 : va_E} (hP : RH g σ H) (hS : va_S (gF g) s.heap H locs) (he : va_at (gD g) kcls (gB g + σ.2, ce g c1) H1) (hz : H1.size = H.size + 1) (oq : ∀ x : Nat, x < H.size → H1[x]? = H[x]?) :
    RH g (va_up σ.1 σ.2 c1, σ.2 + 1) H1 ∧ va_S (gF g) s.heap H1 locs := by
  refine ⟨hP.push c1 hz ((hP.2.2.kept (fun k x hx => oq x.1 ((hP.2.2 k x hx).lt))).app (fun k x hx => ?_)), ⟨Nat.le_trans hS.1 (by omega), fun x h1 h2 => (oq x (Nat.lt_of_lt_of_le h1 hS.1)).trans (hS.2.1 x h1 h2), hS.2.2⟩⟩
  have hk : k < 1 := (List.getElem?_eq_some_iff.mp hx).1
  rw [show k = 0 by omega] at hx
  cases hx
  exact he
/-- own's entry idx names the class ci, which can be made: its blank fields fs0 -/
def GN (own : String) (idx ci : Nat) (fs0 : List Value) : Prop := ∃ (C : String) (T : u_T) (N : Nat) (ty0 : Nat → FieldType), kcls[ci]? = some (C, T, N) ∧ (∀ w ∈ u_ws C T N, w ∈ gw) ∧ (∀ k, k < N → parseFieldDescriptor (T k).2.2.1 = some (ty0 k)) ∧ Cond.classLink own idx C ∈ gw ∧ Cond.instantiable C N ∈ gw ∧ Cond.initialized C ∈ gw ∧ N = fs0.length ∧ (∀ g : Gw, ∀ j, j < N → defaultValue (ty0 j) = vp_V (fs0.map (cv g)) j)
theorem w_new {idx ci : Nat} {fs0 : List Value} (b : BX X l0 g μ d mc ms) (hd : decode μ.2.1 pc = .ok (.new idx, 3)) (lk : GN μ.1.cls idx ci fs0) (hkc : kc + 1 ≤ mc) (hks : ks + fs0.length ≤ ms)
    (kk : WW X g μ.2.2.1 Z (kc + 1) (ks + fs0.length) (pc + 3) L (.ref σ.2 :: st) (va_up σ.1 σ.2 (.inr (ci, fs0)), σ.2 + 1)) : WW X g μ.2.2.1 Z kc ks pc L st σ := by
  obtain ⟨p, l, e, R, s, m, args, below, meth, c⟩ := X
  obtain ⟨hl0, hx, hb, hml, hr, hlk, hnm, hown, hts, hK, hSw, hB, hR1, hR2, hR3, hR4⟩ := b
  intro H locs ls hP hS hL
  obtain ⟨C, T, N, ty0, h1, h2, h3, h4, h5, h6, h7, h8⟩ := lk
  subst h7
  have hKn := hK.1.1 ci _ h1
  refine W.newcK hx hb hown (hts _ h4) (hts _ h5) (hts _ h6) rfl hd (by omega) (by omega) hKn.2.1 rfl fun H1 kC hkC e1 z1 o1 => ?_
  obtain ⟨r1, r2⟩ := al_fin (c1 := .inr (ci, fs0)) hP hS (by
    refine ⟨_, h1, ?_⟩
    rw [hP.1] at e1
    exact (u_born ty0 hts h2 hKn hkC e1 h3).to (h8 g)) z1 o1
  have k1 := kk H1 locs ls r1 r2 hL
  refine W.eq ?_ k1
  show F0 m (pc + 3) ls (.ref H.size :: st.map (cv g)) = F0 m (pc + 3) ls (.ref (gB g + σ.2) :: st.map (cv g))
  rw [hP.1]
def arT : Nat → ArrayType × FieldType := fun t => match t with
  | 0 => (.int, .int)
  | 1 => (.byte, .byte)
  | 2 => (.short, .short)
  | _ => (.long, .long)
theorem w_newa {t : Nat} {n : Int32} {N : Nat} {a0 : (Nat → Int32) ⊕ (Nat → Int64) ⊕ (Nat → UInt32) ⊕ (Nat → UInt64) ⊕ (Nat → Option Nat)} (b : BX X l0 g μ d mc ms) (hd : decode μ.2.1 pc = .ok (.newarray (arT t).1, 2)) (hw : Cond.arrayClass (arT t).2 ∈ gw) (ht : t < 4) (ha : a0 = if t = 3 then .inr (.inl (fun _ => 0)) else .inl (fun _ => 0)) (hn : ¬ n < 0) (hN : n.toNatClampNeg = N) (hb8 : N ≤ 67108864) (hkc : kc + 1 ≤ mc) (hks : ks + N ≤ ms)
    (kk : WW X g μ.2.2.1 Z (kc + 1) (ks + N) (pc + 2) L (.ref σ.2 :: st) (va_up σ.1 σ.2 (.inl (t, N, a0)), σ.2 + 1)) : WW X g μ.2.2.1 Z kc ks pc L (.int n :: st) σ := by
  obtain ⟨p, l, e, R, s, m, args, below, meth, c⟩ := X
  obtain ⟨hl0, hx, hb, hml, hr, hlk, hnm, hown, hts, hK, hSw, hB, hR1, hR2, hR3, hR4⟩ := b
  intro H locs ls hP hS hL
  have hty : newarray.typeOf (arT t).1 = (arT t).2 := by
    rcases (show t = 0 ∨ t = 1 ∨ t = 2 ∨ t = 3 by omega) with rfl | rfl | rfl | rfl <;> rfl
  have hcb : componentBytes (arT t).2 ≤ 8 := by
    rcases (show t = 0 ∨ t = 1 ∨ t = 2 ∨ t = 3 by omega) with rfl | rfl | rfl | rfl <;> decide
  have hbytes : N * componentBytes (newarray.typeOf (arT t).1) ≤ 536870912 := by
    rw [hty]
    exact Nat.le_trans (Nat.mul_le_mul hb8 hcb) (by decide)
  refine va_newaK hx hb (by rw [hty]; exact hts _ hw) rfl hd rfl hn hN hbytes (by omega) (by omega) rfl fun H1 cA e1 z1 o1 hAr hNm => ?_
  rw [hty] at e1 hNm
  have hcA : cA = gA g t := by
    have h1 : s.vm.findClass ("[" ++ ((arT t).2).toString) = some (gA g t) := by
      rcases (show t = 0 ∨ t = 1 ∨ t = 2 ∨ t = 3 by omega) with rfl | rfl | rfl | rfl
      · exact (hK.1.2 0 _ rfl).2
      · exact (hK.1.2 1 _ rfl).2
      · exact (hK.1.2 2 _ rfl).2
      · exact (hK.1.2 3 _ rfl).2
    exact Option.some.inj (hNm.symm.trans h1)
  subst hcA
  obtain ⟨r1, r2⟩ := al_fin (c1 := .inl (t, N, a0)) hP hS (by
    rw [hP.1] at e1
    show va_at _ _ (gB g + σ.2, ce g (.inl (t, N, a0))) H1
    rw [ha]
    rcases (show t = 0 ∨ t = 1 ∨ t = 2 ∨ t = 3 by omega) with rfl | rfl | rfl | rfl <;> exact e1) z1 o1
  have k1 := kk H1 locs ls r1 r2 hL
  refine W.eq ?_ k1
  show F0 m (pc + 2) ls (.ref H.size :: st.map (cv g)) = F0 m (pc + 2) ls (.ref (gB g + σ.2) :: st.map (cv g))
  rw [hP.1]
theorem aoN_in : ∀ t, 4 ≤ t → t < 8 → aoN t ∈ aoC := by
  intro t h1 h2
  rcases (show t = 4 ∨ t = 5 ∨ t = 6 ∨ t = 7 by omega) with rfl | rfl | rfl | rfl <;> decide
theorem w_anew {idx t : Nat} {n : Int32} {N : Nat} (b : BX X l0 g μ d mc ms) (hd : decode μ.2.1 pc = .ok (.anewarray idx, 3)) (hw : Cond.classLink μ.1.cls idx (aoN t) ∈ gw) (ht : 4 ≤ t ∧ t < 8) (hn : ¬ n < 0) (hN : n.toNatClampNeg = N) (hb8 : N ≤ 67108864) (hkc : kc + 1 ≤ mc) (hks : ks + N ≤ ms)
    (kk : WW X g μ.2.2.1 Z (kc + 1) (ks + N) (pc + 3) L (.ref σ.2 :: st) (va_up σ.1 σ.2 (.inl (t, N, .inr (.inr (.inr (.inr (fun _ => none)))))), σ.2 + 1)) : WW X g μ.2.2.1 Z kc ks pc L (.int n :: st) σ := by
  obtain ⟨p, l, e, R, s, m, args, below, meth, c⟩ := X
  obtain ⟨hl0, hx, hb, hml, hr, hlk, hnm, hown, hts, hK, hSw, hB, hR1, hR2, hR3, hR4⟩ := b
  intro H locs ls hP hS hL
  subst hN
  refine W.anew hx hb hown (hts _ hw) (va_AO.use (hK.2.2.1 _ (aoN_in t ht.1 ht.2))) rfl hd rfl hn (by omega) (by omega) (by omega) fun cA kA comp f1 f2 f3 f4 => ?_
  have hcA : cA = gA g t := by
    obtain ⟨_, _, _, _, _, h1⟩ := (hK.1.2 t _ (aoN_ty g t ht.1 ht.2)).2
    exact Option.some.inj (f1.symm.trans h1)
  subst hcA
  generalize hH1 : H.push ({ cls := gA g t, slots := Array.replicate n.toNatClampNeg .null, vm := .none } : Cell) = H1
  have z1 : H1.size = H.size + 1 := by rw [← hH1, Array.size_push]
  have e1 : H1[H.size]? = some (arrV (gA g t) n.toNatClampNeg (fun _ => .null)) := by rw [← hH1, Array.getElem?_push_size, ← arrV_new]
  have o1 : ∀ q : Nat, q < H.size → H1[q]? = H[q]? := fun q hq => by rw [← hH1, Array.getElem?_push, if_neg (Nat.ne_of_lt hq)]
  obtain ⟨r1, r2⟩ := al_fin (c1 := .inl (t, n.toNatClampNeg, .inr (.inr (.inr (.inr (fun _ => none)))))) hP hS (by
    rw [hP.1] at e1
    exact e1) z1 o1
  have k1 := kk H1 locs ls r1 r2 hL
  refine W.eq ?_ k1
  show F0 m (pc + 3) ls (.ref H.size :: st.map (cv g)) = F0 m (pc + 3) ls (.ref (gB g + σ.2) :: st.map (cv g))
  rw [hP.1]
theorem w_getsE {idx : Nat} (b : BX X l0 g μ d mc ms) (hd : decode μ.2.1 pc = .ok (.getstatic idx, 3)) (hw : Cond.fieldLink μ.1.cls idx "java/util/ArrayList" "DEFAULTCAPACITY_EMPTY_ELEMENTDATA" "[Ljava/lang/Object;" ∈ gw)
    (kk : WW X g μ.2.2.1 Z kc ks (pc + 3) L (.float 0 :: st) σ) : WW X g μ.2.2.1 Z kc ks pc L st σ := by
  obtain ⟨p, l, e, R, s, m, args, below, meth, c⟩ := X
  obtain ⟨hl0, hx, hb, hml, hr, hlk, hnm, hown, hts, hK, hSw, hB, hR1, hR2, hR3, hR4⟩ := b
  intro H locs ls hP hS hL
  exact va_gets hx hb hSw.1 hS hown (hts _ hw) (fun _ h => h) hd (kk H locs ls hP hS hL)
theorem w_acmp_eqE {q : Nat} {off : Int} (b : BX X l0 g μ d mc ms) (hd : decode μ.2.1 pc = .ok (.if_acmp .eq off, 3)) {tgt : Nat} (ht : (pc : Int) + off = (tgt : Int))
    (kk : WW X g μ.2.2.1 Z kc ks tgt L st σ) : WW X g μ.2.2.1 Z kc ks pc L (.float q.toUInt32 :: .float q.toUInt32 :: st) σ := by
  obtain ⟨p, l, e, R, s, m, args, below, meth, c⟩ := X
  obtain ⟨hl0, hx, hb, hml, hr, hlk, hnm, hown, hts, hK, hSw, hB, hR1, hR2, hR3, hR4⟩ := b
  intro H locs ls hP hS hL
  exact lv_acmp_eq (rx := some _) (ry := some _) hx hb hd ht (fun _ => kk H locs ls hP hS hL) (fun z => absurd rfl z)
theorem w_castS {idx ci q : Nat} {fs : List Value} {C : String} {T : u_T} {N : Nat} (b : BX X l0 g μ d mc ms) (hd : decode μ.2.1 pc = .ok (.checkcast idx, 3)) (hC : kcls[ci]? = some (C, T, N)) (hw : Cond.classLink μ.1.cls idx C ∈ gw) (hc : σ.1 q = .inr (ci, fs))
    (kk : WW X g μ.2.2.1 Z kc ks (pc + 3) L (.ref q :: st) σ) : WW X g μ.2.2.1 Z kc ks pc L (.ref q :: st) σ := by
  obtain ⟨p, l, e, R, s, m, args, below, meth, c⟩ := X
  obtain ⟨hl0, hx, hb, hml, hr, hlk, hnm, hown, hts, hK, hSw, hB, hR1, hR2, hR3, hR4⟩ := b
  intro H locs ls hP hS hL
  exact va_castS hx hb hown (hts _ hw) (hK.1.1 ci _ hC).2 (va_recv hK.1 hP.2.2 hC (hP.at hc (neO hC))) hd (kk H locs ls hP hS hL)
/-! calls -/
theorem gw_good {w : Cond} (h : w ∈ gw) : (w.onTables && w.keeps) = true ∨ ∃ ty, w = .arrayClass ty := good_of_word (List.mem_filter.mp h).2
theorem gw_in {μ' : Md} (h : Cond.code μ'.1 μ'.2.1 μ'.2.2.1 μ'.2.2.2 ∈ gw) : GoodIn gw (wsm μ') := by
  intro w hw
  rcases List.mem_cons.mp hw with rfl | hw
  · exact ⟨h, gw_good h⟩
  · exact ⟨hw, gw_good hw⟩
theorem Pm_blind (g : Gw) (σ : Sg) (vs : List Value) : FrameBlind (Pm g σ vs) := by
  rintro a U gg mk ⟨h1, h2, h3, h4⟩
  exact ⟨h1, h2, KW.same (s := U) (U := U.calling gg mk a) rfl h3, SW.moved (s := U) (H0 := U.heap) (U := U.calling gg mk a) (Vm.Alike.refl U.vm) (fun _ _ _ => rfl) (by rw [h2.1]; omega) h4⟩
theorem Pm_at {s U : State} {H : Heap} {locs : List Loc} {vs : List Value} (hP : RH g σ H) (hS : va_S (gF g) s.heap H locs) (hK : KW g s) (hSw : SW g s s.heap) (hB : gB g ≤ s.heap.size) (hU : U.heap = H) (hW : s.WarmedH U.vm) : Pm g σ vs (vs.map (cv g)).toArray U :=
  ⟨rfl, by rw [hU]; exact hP, hK.warm hW, by rw [hU]; exact SW.moved hW.alike hS.2.1 hB hSw⟩
theorem ww_run {p : Program} {l : Launch} {e : Env} {R : Room} {s : State} {m : MethodId} {args : Array Value} {below : List Frame} {meth : Method} {c : Code} {H : Heap} {locs : List Loc} {ls : Array Slot} {a : Array Value} {mc' ms' : Nat} {Q' : Option Value → Sg → Prop} {st0 : List Value} {nL : Nat}
    (hr : va_Run p l e R s m args below meth c H locs kc ks mc' ms' (F0 m pc ls st0) (st.map (cv g)) (Qm g Q' a) (gF g)) (hS : va_S (gF g) s.heap H locs) (hL : LH g ls nL L)
    (kk : ∀ (r : Option Value) (σ' : Sg), Q' r σ' → WW (p, l, e, R, s, m, args, below, meth, c) g nL Z (kc + mc') (ks + ms') (pc + 3) L (r.toList ++ st) σ') : W p l e R s m args below meth c H locs kc ks Z (F0 m pc ls st0) := by
  intro T hT X
  obtain ⟨v, st₀, t, T', L', h0, X', hL', e1, e2, ⟨⟨r, σ', hv, hq, hp⟩, hz, hk⟩, stp⟩ := hr T hT X
  cases hv
  rw [h0] at hz hk
  have k1 := kk r σ' hq T'.heap (locs ++ L') ls (by rw [e1]; exact hp) ⟨Nat.le_trans hS.1 (by rw [e1]; exact hz), fun q h1 h2 => by rw [e1, hk q (Nat.lt_of_lt_of_le h1 hS.1) h2]; exact hS.2.1 q h1 h2, fun q hq => by
      rcases List.mem_append.mp hq with h | h
      · exact hS.2.2 q h
      · exact hL' q h⟩ hL
  obtain ⟨t2, a1, b1⟩ := k1 T' rfl X'
  refine ⟨t2, stp t2 ?_, b1⟩
  have e3 : (r.toList ++ st).map (cv g) = (r.map (cv g)).toList ++ st.map (cv g) := by cases r <;> simp
  rw [e3] at a1
  exact a1
/-- what a call asks of the callee's name: common -/
def LB (own : String) (idx n : Nat) (μ' : Md) : Prop := Cond.methodLink own idx μ'.1 ∈ gw ∧ Cond.code μ'.1 μ'.2.1 μ'.2.2.1 μ'.2.2.2 ∈ gw ∧ Cond.initialized μ'.1.cls ∈ gw ∧ (μ'.1.cls ≠ "java/lang/invoke/MethodHandle" ∧ μ'.1.cls ≠ "java/lang/invoke/VarHandle" ∧ (parseMethodDescriptor μ'.1.desc).map (fun d => d.parameters.length) = some n) ∧ μ'.2.2.1 ≤ 21
def LV (own : String) (idx n ci : Nat) (μ' : Md) : Prop := LB own idx n μ' ∧ Cond.instanceMethod μ'.1 ∈ gw ∧ Cond.selects μ'.1.cls μ'.1 μ'.1 ∈ gw ∧ ∃ T N, kcls[ci]? = some (μ'.1.cls, T, N)
def LSt (own : String) (idx n : Nat) (μ' : Md) : Prop := LB own idx n μ' ∧ Cond.static μ'.1 ∈ gw
def LI (own : String) (idx n : Nat) (μ' : Md) : Prop := LB own idx n μ' ∧ Cond.instanceMethod μ'.1 ∈ gw ∧ μ'.1.name = "<init>" ∧ μ'.2.2.2 = none
def LN (own : String) (idx n : Nat) (μ' : Md) : Prop := Cond.methodLinkNest own idx μ'.1 RX8 ∈ nestW ∧ Cond.code μ'.1 μ'.2.1 μ'.2.2.1 μ'.2.2.2 ∈ gw ∧ Cond.initialized μ'.1.cls ∈ gw ∧ (μ'.1.cls ≠ "java/lang/invoke/MethodHandle" ∧ μ'.1.cls ≠ "java/lang/invoke/VarHandle" ∧ (parseMethodDescriptor μ'.1.desc).map (fun d => d.parameters.length) = some n) ∧ μ'.2.2.1 ≤ 21
theorem LB.of {own : String} {idx n d' mc' ms' : Nat} {μ' : Md} {R : Room} {s : State} {args : Array Value} (h : LB own idx n μ') (hts : ∀ w ∈ gw, w.before args s = true) (hd : d' + 1 ≤ d) (h1 : d ≤ R.frames) (h2 : 40 * d ≤ R.locals) : CallB R s args own idx μ'.1 μ'.2.1 μ'.2.2.1 μ'.2.2.2 (wsm μ') (rmm d' mc' ms') mc' ms' n := by
  obtain ⟨a1, a2, a3, a4, a5⟩ := h
  exact callB_of n hts (gw_in a2) rfl rfl rfl (hts _ a3) (hts _ a1) a4 ⟨by show d' + 1 ≤ _; omega, by show 8 + (_ + 11) + 40 * d' ≤ _; omega⟩
theorem w_callV {idx n ci d' mc' ms' q : Nat} {μ' : Md} {fs vs : List Value} {Q' : Option Value → Sg → Prop} {st0 : List Value} (b : BX X l0 g μ d mc ms) (hd : decode μ.2.1 pc = .ok (.invokevirtual idx, 3)) (lk : LV μ.1.cls idx n ci μ') (hst : st0 = vs.reverse ++ .ref q :: st) (hn : vs.length = n) (hc : σ.1 q = .inr (ci, fs)) (hw : (st.map fun v => v.category).sum ≤ 8) (hdd : d' + 1 ≤ d) (hkc : kc + mc' ≤ mc) (hks : ks + ms' ≤ ms) (hM : MM l0 g d' μ' σ (.ref q :: vs) mc' ms' Q')
    (kk : ∀ (r : Option Value) (σ' : Sg), Q' r σ' → WW X g μ.2.2.1 Z (kc + mc') (ks + ms') (pc + 3) L (r.toList ++ st) σ') : WW X g μ.2.2.1 Z kc ks pc L st0 σ := by
  obtain ⟨p, l, e, R, s, m, args, below, meth, c⟩ := X
  obtain ⟨hl0, hx, hb, hml, hr, hlk, hnm, hown, hts, hK, hSw, hB, hR1, hR2, hR3, hR4⟩ := b
  intro H locs ls hP hS hL
  subst hl0 hst
  obtain ⟨a1, a2, a3, T, N, a4⟩ := lk
  have hrun := va_runV (g := F0 m pc ls ((vs.reverse ++ .ref q :: st).map (cv g))) (As := vs.map (cv g)) (rest := st.map (cv g)) (b := gB g + q) (C := μ'.1.cls) (H := H) (locs := locs) (below := below) (meth := meth) (e := e) (cells := kc) (slots := ks) ⟨hx, hb, hml, hown, hts⟩ hM ⟨a1.of hts hdd hR1 hR2, hts _ a2, hts _ a3⟩ ⟨Pm_blind _ _ _, va_recv hK.1 hP.2.2 a4 (hP.at hc (neO a4)), fun U hU hW => Pm_at (vs := .ref q :: vs) hP hS hK hSw hB hU hW⟩ rfl (by rw [List.length_map]; exact hn) hL.1 (by simp [cv]) (by show 2 * 0 + _ ≤ 8; rw [cv_cats]; omega) hd ⟨by omega, by omega⟩
  exact ww_run hrun hS hL kk
theorem w_callS {idx n d' mc' ms' : Nat} {μ' : Md} {vs : List Value} {Q' : Option Value → Sg → Prop} {st0 : List Value} (b : BX X l0 g μ d mc ms) (hd : decode μ.2.1 pc = .ok (.invokestatic idx, 3)) (lk : LSt μ.1.cls idx n μ') (hst : st0 = vs.reverse ++ st) (hn : vs.length = n) (hw : (st.map fun v => v.category).sum ≤ 8) (hdd : d' + 1 ≤ d) (hkc : kc + mc' ≤ mc) (hks : ks + ms' ≤ ms) (hM : MM l0 g d' μ' σ vs mc' ms' Q')
    (kk : ∀ (r : Option Value) (σ' : Sg), Q' r σ' → WW X g μ.2.2.1 Z (kc + mc') (ks + ms') (pc + 3) L (r.toList ++ st) σ') : WW X g μ.2.2.1 Z kc ks pc L st0 σ := by
  obtain ⟨p, l, e, R, s, m, args, below, meth, c⟩ := X
  obtain ⟨hl0, hx, hb, hml, hr, hlk, hnm, hown, hts, hK, hSw, hB, hR1, hR2, hR3, hR4⟩ := b
  intro H locs ls hP hS hL
  subst hl0 hst
  obtain ⟨a1, a2⟩ := lk
  have hrun := va_runS (g := F0 m pc ls ((vs.reverse ++ st).map (cv g))) (As := vs.map (cv g)) (rest := st.map (cv g)) (H := H) (locs := locs) (below := below) (meth := meth) (e := e) (cells := kc) (slots := ks) ⟨hx, hb, hml, hown, hts⟩ hM ⟨a1.of hts hdd hR1 hR2, hts _ a2⟩ ⟨Pm_blind _ _ _, fun U hU hW => Pm_at (vs := vs) hP hS hK hSw hB hU hW⟩ rfl (by rw [List.length_map]; exact hn) hL.1 (by simp) (by show 2 * 0 + _ ≤ 8; rw [cv_cats]; omega) hd ⟨by omega, by omega⟩
  exact ww_run hrun hS hL kk
theorem w_callI {idx n d' mc' ms' q : Nat} {μ' : Md} {vs : List Value} {Q' : Option Value → Sg → Prop} {st0 : List Value} (b : BX X l0 g μ d mc ms) (hd : decode μ.2.1 pc = .ok (.invokespecial idx, 3)) (lk : LI μ.1.cls idx n μ') (hst : st0 = vs.reverse ++ .ref q :: st) (hn : vs.length = n) (hw : (st.map fun v => v.category).sum ≤ 8) (hdd : d' + 1 ≤ d) (hkc : kc + mc' ≤ mc) (hks : ks + ms' ≤ ms) (hM : MM l0 g d' μ' σ (.ref q :: vs) mc' ms' Q')
    (kk : ∀ (r : Option Value) (σ' : Sg), Q' r σ' → WW X g μ.2.2.1 Z (kc + mc') (ks + ms') (pc + 3) L (r.toList ++ st) σ') : WW X g μ.2.2.1 Z kc ks pc L st0 σ := by
  obtain ⟨p, l, e, R, s, m, args, below, meth, c⟩ := X
  obtain ⟨hl0, hx, hb, hml, hr, hlk, hnm, hown, hts, hK, hSw, hB, hR1, hR2, hR3, hR4⟩ := b
  intro H locs ls hP hS hL
  subst hl0 hst
  obtain ⟨a1, a2, a3, a4⟩ := lk
  have cb := a1.of (d' := d') (mc' := mc') (ms' := ms') (d := d) (R := R) hts hdd hR1 hR2
  rw [a4] at cb
  have hrun := va_runI (g := F0 m pc ls ((vs.reverse ++ .ref q :: st).map (cv g))) (As := vs.map (cv g)) (rest := st.map (cv g)) (b := gB g + q) (H := H) (locs := locs) (below := below) (meth := meth) (e := e) (cells := kc) (slots := ks) ⟨hx, hb, hml, hown, hts⟩ hM ⟨cb, a3, hts _ a2⟩ ⟨Pm_blind _ _ _, fun U hU hW => Pm_at (vs := .ref q :: vs) hP hS hK hSw hB hU hW⟩ rfl (by rw [List.length_map]; exact hn) hL.1 (by simp [cv]) (by show 2 * 0 + _ ≤ 8; rw [cv_cats]; omega) hd ⟨by omega, by omega⟩
  exact ww_run hrun hS hL kk
theorem LN.of {own : String} {idx n d' mc' ms' : Nat} {μ' : Md} {R : Room} {s : State} {args : Array Value} (h : LN own idx n μ') (hts : ∀ w ∈ gw, w.before args s = true) (hK : KW g s) (hd : d' + 1 ≤ d) (h1 : d ≤ R.frames) (h2 : 40 * d ≤ R.locals) : va_CN R s args own idx μ'.1 RX8 μ'.2.1 μ'.2.2.1 μ'.2.2.2 (wsm μ') (rmm d' mc' ms') mc' ms' n := by
  obtain ⟨a1, a2, a3, a4, a5⟩ := h
  exact va_cnB n hts (gw_in a2) rfl rfl rfl (hK.2.1 _ a1) (hts _ a3) a4 ⟨by show d' + 1 ≤ _; omega, by show 8 + (_ + 11) + 40 * d' ≤ _; omega⟩
theorem w_callIN {idx n d' mc' ms' q : Nat} {μ' : Md} {vs : List Value} {Q' : Option Value → Sg → Prop} {st0 : List Value} (b : BX X l0 g μ d mc ms) (hd : decode μ.2.1 pc = .ok (.invokespecial idx, 3)) (lk : LN μ.1.cls idx n μ') (hins : Cond.instanceMethod μ'.1 ∈ gw) (hnm : μ'.1.name = "<init>") (hrn : μ'.2.2.2 = none) (hst : st0 = vs.reverse ++ .ref q :: st) (hn : vs.length = n) (hw : (st.map fun v => v.category).sum ≤ 8) (hdd : d' + 1 ≤ d) (hkc : kc + mc' ≤ mc) (hks : ks + ms' ≤ ms) (hM : MM l0 g d' μ' σ (.ref q :: vs) mc' ms' Q')
    (kk : ∀ (r : Option Value) (σ' : Sg), Q' r σ' → WW X g μ.2.2.1 Z (kc + mc') (ks + ms') (pc + 3) L (r.toList ++ st) σ') : WW X g μ.2.2.1 Z kc ks pc L st0 σ := by
  obtain ⟨p, l, e, R, s, m, args, below, meth, c⟩ := X
  obtain ⟨hl0, hx, hb, hml, hr, hlk, hnm2, hown, hts, hK, hSw, hB, hR1, hR2, hR3, hR4⟩ := b
  intro H locs ls hP hS hL
  subst hl0 hst
  have cb := lk.of (d' := d') (mc' := mc') (ms' := ms') (d := d) (R := R) hts hK hdd hR1 hR2
  rw [hrn] at cb
  have hrun := va_runIN (g := F0 m pc ls ((vs.reverse ++ .ref q :: st).map (cv g))) (As := vs.map (cv g)) (rest := st.map (cv g)) (b := gB g + q) (H := H) (locs := locs) (below := below) (meth := meth) (e := e) (cells := kc) (slots := ks) ⟨hx, hb, hml, hown, hts⟩ hM ⟨cb, hnm, hts _ hins⟩ ⟨Pm_blind _ _ _, fun U hU hW => Pm_at (vs := .ref q :: vs) hP hS hK hSw hB hU hW⟩ rfl (by rw [List.length_map]; exact hn) hL.1 (by simp [cv]) (by show 2 * 0 + _ ≤ 8; rw [cv_cats]; omega) hd ⟨by omega, by omega⟩
  exact ww_run hrun hS hL kk
theorem w_callSN {idx n d' mc' ms' : Nat} {μ' : Md} {vs : List Value} {Q' : Option Value → Sg → Prop} {st0 : List Value} (b : BX X l0 g μ d mc ms) (hd : decode μ.2.1 pc = .ok (.invokestatic idx, 3)) (lk : LN μ.1.cls idx n μ') (hsta : Cond.static μ'.1 ∈ gw) (hst : st0 = vs.reverse ++ st) (hn : vs.length = n) (hw : (st.map fun v => v.category).sum ≤ 8) (hdd : d' + 1 ≤ d) (hkc : kc + mc' ≤ mc) (hks : ks + ms' ≤ ms) (hM : MM l0 g d' μ' σ vs mc' ms' Q')
    (kk : ∀ (r : Option Value) (σ' : Sg), Q' r σ' → WW X g μ.2.2.1 Z (kc + mc') (ks + ms') (pc + 3) L (r.toList ++ st) σ') : WW X g μ.2.2.1 Z kc ks pc L st0 σ := by
  obtain ⟨p, l, e, R, s, m, args, below, meth, c⟩ := X
  obtain ⟨hl0, hx, hb, hml, hr, hlk, hnm2, hown, hts, hK, hSw, hB, hR1, hR2, hR3, hR4⟩ := b
  intro H locs ls hP hS hL
  subst hl0 hst
  have cb := lk.of (d' := d') (mc' := mc') (ms' := ms') (d := d) (R := R) hts hK hdd hR1 hR2
  have hrun := va_runSN (g := F0 m pc ls ((vs.reverse ++ st).map (cv g))) (As := vs.map (cv g)) (rest := st.map (cv g)) (H := H) (locs := locs) (below := below) (meth := meth) (e := e) (cells := kc) (slots := ks) ⟨hx, hb, hml, hown, hts⟩ hM ⟨cb, hts _ hsta, trivial⟩ ⟨Pm_blind _ _ _, fun U hU hW => Pm_at (vs := vs) hP hS hK hSw hB hU hW⟩ rfl (by rw [List.length_map]; exact hn) hL.1 (by simp) (by show 2 * 0 + _ ≤ 8; rw [cv_cats]; omega) hd ⟨by omega, by omega⟩
  exact ww_run hrun hS hL kk
theorem w_objInit {idx q : Nat} (b : BX X l0 g μ d mc ms) (hd : decode μ.2.1 pc = .ok (.invokespecial idx, 3)) (hw : Cond.methodLink μ.1.cls idx objectInit ∈ gw) (hi : Cond.instanceMethod objectInit ∈ gw) (hc : Cond.code objectInit ⟨#[0xb1]⟩ 1 none ∈ gw) (hw8 : (st.map fun v => v.category).sum ≤ 8) (hdd : 1 ≤ d)
    (kk : WW X g μ.2.2.1 Z kc ks (pc + 3) L st σ) : WW X g μ.2.2.1 Z kc ks pc L (.ref q :: st) σ := by
  obtain ⟨p, l, e, R, s, m, args, below, meth, c⟩ := X
  obtain ⟨hl0, hx, hb, hml, hr, hlk, hnm2, hown, hts, hK, hSw, hB, hR1, hR2, hR3, hR4⟩ := b
  intro H locs ls hP hS hL
  exact W.objInit hx hb hown (hts _ hw) (hts _ hi) (hts _ hc) rfl (by rw [hml]; exact hL.1) rfl hd (by omega) (by show 2 * 0 + _ + 12 ≤ _; rw [cv_cats]; omega) (kk H locs ls hP hS hL)
/-! the start of a body -/
def arL (vs : List Value) (n : Nat) : List (Option Value) := vs.map some ++ List.replicate (n - vs.length) none
theorem lg_sl1 (vs : List Value) (h : ∀ v ∈ vs, v.category = 1) : lg_sl vs = vs.map Slot.val := by
  induction vs with
  | nil => rfl
  | cons v vs ih =>
    have h1 := h v List.mem_cons_self
    have h2 := ih (fun w hw => h w (List.mem_cons_of_mem _ hw))
    unfold lg_sl at h2 ⊢
    rw [List.flatMap_cons, h2]
    simp [h1]
theorem lv_args1 (vs : List Value) (h : ∀ v ∈ vs, v.category = 1) : ∀ (k i : Nat) (v : Value), vs[i]? = some v → (k + i, v) ∈ lv_args k vs := by
  induction vs with
  | nil => intro k i v hv; simp at hv
  | cons w vs ih =>
    intro k i v hv
    have h1 := h w List.mem_cons_self
    have h1' : ¬ w.category = 2 := by omega
    unfold lv_args
    rw [if_neg h1']
    cases i with
    | zero =>
      simp at hv
      subst hv
      exact List.mem_cons_self
    | succ i =>
      simp at hv
      have h2 := ih (fun w hw => h w (List.mem_cons_of_mem _ hw)) (k + 1) i v hv
      rw [show k + (i + 1) = k + 1 + i by omega]
      exact List.mem_cons_of_mem _ h2
theorem MM.of {vs : List Value} {Q : Option Value → Sg → Prop} (hy : plainName μ.1.cls = true) (hcat : ∀ v ∈ vs, v.category = 1) (hlen : vs.length ≤ μ.2.2.1)
    (h : ∀ X : Cx, BX X l0 g μ d mc ms → WW X g μ.2.2.1 (ZQ X g Q mc ms) 0 0 0 (arL vs μ.2.2.1) [] σ) : MM l0 g d μ σ vs mc ms Q := by
  refine Met.ofW (cc := μ.2.1) (maxL := μ.2.2.1) (ret := μ.2.2.2) hy rfl ?_
  rintro p e s m args below meth c s₁ B hml ⟨rfl, hP, hK, hSw⟩
  have hts : ∀ w ∈ gw, w.before ((vs.map (cv g)).toArray) s = true := fun w hw => atoms_spec (ws := wsm μ) B.pre w (List.mem_cons_of_mem _ hw)
  have hB : gB g ≤ s.heap.size := by rw [hP.1]; omega
  have hbx : BX (p, l0, e, (headSpec (wsm μ) (rmm d mc ms)).room, s, m, (vs.map (cv g)).toArray, below, meth, c) l0 g μ d mc ms :=
    ⟨rfl, B.exec, B.bytes, hml, B.returns, B.notSynchronized, (name_of_methodNamed B.named B.method).1, findClass_of_methodNamed B.named, hts, hK, hSw, hB, Nat.le_refl _, Nat.le_refl _, rfl, rfl⟩
  have k1 := h _ hbx s.heap [] ((lg_sl (vs.map (cv g)) ++ List.replicate (μ.2.2.1 - (lg_sl (vs.map (cv g))).length) Slot.unset).toArray) hP va_S.rf ?_
  · rw [lg_entry_eq]
    exact k1
  · have hcat2 : ∀ v ∈ vs.map (cv g), v.category = 1 := by
      intro v hv
      obtain ⟨w, hw, rfl⟩ := List.mem_map.mp hv
      rw [cv_cat]
      exact hcat w hw
    have hle : (lg_sl (vs.map (cv g))).length ≤ μ.2.2.1 := by
      rw [lg_sl1 _ hcat2, List.length_map, List.length_map]
      exact hlen
    have he := lv_entry (vs.map (cv g)) hle
    refine ⟨he.1, ?_, he.2.1, fun i v hv => ?_⟩
    · unfold arL
      rw [List.length_append, List.length_map, List.length_replicate]
      omega
    · unfold arL at hv
      by_cases hi : i < vs.length
      · rw [List.getElem?_append_left (by rw [List.length_map]; exact hi), List.getElem?_map] at hv
        cases hv2 : vs[i]? with
        | none => rw [hv2] at hv; cases hv
        | some w =>
          rw [hv2] at hv
          cases hv
          have h5 := lv_args1 _ hcat2 0 i (cv g v) (by rw [List.getElem?_map, hv2]; rfl)
          rw [Nat.zero_add] at h5
          exact he.2.2 _ h5
      · rw [List.getElem?_append_right (by rw [List.length_map]; omega)] at hv
        have := List.eq_of_mem_replicate (List.mem_of_getElem? hv)
        cases this
theorem MM.mono {vs : List Value} {Q Q2 : Option Value → Sg → Prop} (h : MM l0 g d μ σ vs mc ms Q) (hq : ∀ r σ', Q r σ' → Q2 r σ') : MM l0 g d μ σ vs mc ms Q2 := by
  intro p e ha hc hk s m args below hf hpre hP hK
  obtain ⟨k, o, h1, h2, h3, ⟨⟨⟨r, σ', q1, q2, q3⟩, q4⟩, q5⟩⟩ := h p e ha hc hk s m args below hf hpre hP hK
  exact ⟨k, o, h1, h2, h3, ⟨⟨r, σ', q1, hq r σ' q2, q3⟩, q4⟩, q5⟩
end FWD
end
section
/-! LINKS, by gen_links.py: what entries of the constant pools name -/
theorem gw_at {i : Nat} {w : Cond} (h : lw_tbl[i]? = some w) (hg : goodWord w = true) : w ∈ gw := List.mem_filter.mpr ⟨by first | exact List.mem_of_getElem? h | exact List.getElem?_mem h, hg⟩
theorem gw_all {ws : List Cond} (h : ws.all (fun w => decide (w ∈ lw_tbl) && goodWord w) = true) : ∀ w ∈ ws, w ∈ gw := by
  intro w hw
  have h1 := List.all_eq_true.mp h w hw
  simp only [Bool.and_eq_true, decide_eq_true_eq] at h1
  exact List.mem_filter.mpr h1
theorem inX0_g : ∀ w ∈ u_ws RX0 TX0 9, w ∈ gw := gw_all (by decide +kernel)
theorem gcX0 : GC 0 := ⟨RX0, TX0, 9, tyX0, rfl, tyX0_ok, nmX0⟩
theorem inX1_g : ∀ w ∈ u_ws RX1 TX1 6, w ∈ gw := gw_all (by decide +kernel)
theorem gcX1 : GC 1 := ⟨RX1, TX1, 6, tyX1, rfl, tyX1_ok, nmX1⟩
theorem inX2_g : ∀ w ∈ u_ws RX2 TX2 1, w ∈ gw := gw_all (by decide +kernel)
theorem gcX2 : GC 2 := ⟨RX2, TX2, 1, tyX2, rfl, tyX2_ok, nmX2⟩
theorem inX3_g : ∀ w ∈ u_ws RX3 TX3 5, w ∈ gw := gw_all (by decide +kernel)
theorem gcX3 : GC 3 := ⟨RX3, TX3, 5, tyX3, rfl, tyX3_ok, nmX3⟩
theorem inX4_g : ∀ w ∈ u_ws RX4 TX4 4, w ∈ gw := gw_all (by decide +kernel)
theorem gcX4 : GC 4 := ⟨RX4, TX4, 4, tyX4, rfl, tyX4_ok, nmX4⟩
theorem inX5_g : ∀ w ∈ u_ws RX5 TX5 3, w ∈ gw := gw_all (by decide +kernel)
theorem gcX5 : GC 5 := ⟨RX5, TX5, 3, tyX5, rfl, tyX5_ok, nmX5⟩
theorem inX6_g : ∀ w ∈ u_ws RX6 TX6 8, w ∈ gw := gw_all (by decide +kernel)
theorem gcX6 : GC 6 := ⟨RX6, TX6, 8, tyX6, rfl, tyX6_ok, nmX6⟩
theorem inX7_g : ∀ w ∈ u_ws RX7 TX7 3, w ∈ gw := gw_all (by decide +kernel)
theorem gcX7 : GC 7 := ⟨RX7, TX7, 3, tyX7, rfl, tyX7_ok, nmX7⟩
theorem inX8_g : ∀ w ∈ u_ws RX8 TX8 5, w ∈ gw := gw_all (by decide +kernel)
theorem gcX8 : GC 8 := ⟨RX8, TX8, 5, tyX8, rfl, tyX8_ok, nmX8⟩
theorem inX9_g : ∀ w ∈ u_ws RX9 TX9 42, w ∈ gw := gw_all (by decide +kernel)
theorem gcX9 : GC 9 := ⟨RX9, TX9, 42, tyX9, rfl, tyX9_ok, nmX9⟩
theorem inJx4a65c_g : ∀ w ∈ u_ws RJx4a65c TJx4a65c 3, w ∈ gw := gw_all (by decide +kernel)
theorem gcJx4a65c : GC 10 := ⟨RJx4a65c, TJx4a65c, 3, tyJx4a65c, rfl, tyJx4a65c_ok, nmJx4a65c⟩
theorem lnL_8 : GN RL 8 8 [.int 0, .null, .null, .null, .null] := ⟨RX8, TX8, 5, tyX8, rfl, inX8_g, tyX8_ok, gw_at (i := 85) (by decide +kernel) rfl, gw_at (i := 86) (by decide +kernel) rfl, gw_at (i := 60) (by decide +kernel) rfl, rfl, fun g j hj => by rcases (show j = 0 ∨ j = 1 ∨ j = 2 ∨ j = 3 ∨ j = 4 by omega) with rfl | rfl | rfl | rfl | rfl <;> rfl⟩
theorem lcL_8 : Cond.classLink RL 8 RX8 ∈ gw := gw_at (i := 85) (by decide +kernel) rfl
theorem lmL_23 : LI RL 23 1 mX8_init := ⟨⟨gw_at (i := 87) (by decide +kernel) rfl, gw_at (i := 89) (by decide +kernel) rfl, gw_at (i := 60) (by decide +kernel) rfl, ⟨by decide +kernel, by decide +kernel, by decide +kernel⟩, by decide⟩, gw_at (i := 88) (by decide +kernel) rfl, rfl, rfl⟩
theorem lmX8_9 : LSt RX8 9 2 mJ9_floorMod_7cf53 := ⟨⟨gw_at (i := 93) (by decide +kernel) rfl, gw_at (i := 95) (by decide +kernel) rfl, gw_at (i := 61) (by decide +kernel) rfl, ⟨by decide +kernel, by decide +kernel, by decide +kernel⟩, by decide⟩, gw_at (i := 94) (by decide +kernel) rfl⟩
theorem lnX8_19 : GN RX8 19 1 [.int 0, .null, .null, .null, .null, .int 0] := ⟨RX1, TX1, 6, tyX1, rfl, inX1_g, tyX1_ok, gw_at (i := 96) (by decide +kernel) rfl, gw_at (i := 97) (by decide +kernel) rfl, gw_at (i := 62) (by decide +kernel) rfl, rfl, fun g j hj => by rcases (show j = 0 ∨ j = 1 ∨ j = 2 ∨ j = 3 ∨ j = 4 ∨ j = 5 by omega) with rfl | rfl | rfl | rfl | rfl | rfl <;> rfl⟩
theorem lcX8_19 : Cond.classLink RX8 19 RX1 ∈ gw := gw_at (i := 96) (by decide +kernel) rfl
theorem lmX8_21 : LI RX8 21 1 mX1_init := ⟨⟨gw_at (i := 98) (by decide +kernel) rfl, gw_at (i := 100) (by decide +kernel) rfl, gw_at (i := 62) (by decide +kernel) rfl, ⟨by decide +kernel, by decide +kernel, by decide +kernel⟩, by decide⟩, gw_at (i := 99) (by decide +kernel) rfl, rfl, rfl⟩
theorem lnX1_18 : GN RX1 18 7 [.null, .null, .int 0] := ⟨RX7, TX7, 3, tyX7, rfl, inX7_g, tyX7_ok, gw_at (i := 102) (by decide +kernel) rfl, gw_at (i := 106) (by decide +kernel) rfl, gw_at (i := 63) (by decide +kernel) rfl, rfl, fun g j hj => by rcases (show j = 0 ∨ j = 1 ∨ j = 2 by omega) with rfl | rfl | rfl <;> rfl⟩
theorem lcX1_18 : Cond.classLink RX1 18 RX7 ∈ gw := gw_at (i := 102) (by decide +kernel) rfl
theorem lnX1_24 : GN RX1 24 3 [.null, .null, .null, .null, .int 0] := ⟨RX3, TX3, 5, tyX3, rfl, inX3_g, tyX3_ok, gw_at (i := 104) (by decide +kernel) rfl, gw_at (i := 122) (by decide +kernel) rfl, gw_at (i := 64) (by decide +kernel) rfl, rfl, fun g j hj => by rcases (show j = 0 ∨ j = 1 ∨ j = 2 ∨ j = 3 ∨ j = 4 by omega) with rfl | rfl | rfl | rfl | rfl <;> rfl⟩
theorem lcX1_24 : Cond.classLink RX1 24 RX3 ∈ gw := gw_at (i := 104) (by decide +kernel) rfl
theorem lmX1_34 : LN RX1 34 0 mX7_init := ⟨by decide +kernel, gw_at (i := 109) (by decide +kernel) rfl, gw_at (i := 63) (by decide +kernel) rfl, ⟨by decide +kernel, by decide +kernel, by decide +kernel⟩, by decide⟩
theorem lfX7_9 : GF RX7 9 7 0 := ⟨RX7, TX7, 3, RX7, rfl, by decide, inX7_g, gw_at (i := 111) (by decide +kernel) rfl, Or.inl rfl⟩
theorem lfX7_15 : GF RX7 15 7 1 := ⟨RX7, TX7, 3, RX7, rfl, by decide, inX7_g, gw_at (i := 112) (by decide +kernel) rfl, Or.inl rfl⟩
theorem lfX7_18 : GF RX7 18 7 2 := ⟨RX7, TX7, 3, RX7, rfl, by decide, inX7_g, gw_at (i := 113) (by decide +kernel) rfl, Or.inl rfl⟩
theorem la_int : Cond.arrayClass .int ∈ gw := gw_at (i := 121) (by decide +kernel) rfl
theorem lmX1_35 : LI RX1 35 1 mX3_init := ⟨⟨gw_at (i := 123) (by decide +kernel) rfl, gw_at (i := 125) (by decide +kernel) rfl, gw_at (i := 64) (by decide +kernel) rfl, ⟨by decide +kernel, by decide +kernel, by decide +kernel⟩, by decide⟩, gw_at (i := 124) (by decide +kernel) rfl, rfl, rfl⟩
theorem lfX3_7 : GF RX3 7 3 0 := ⟨RX3, TX3, 5, RX3, rfl, by decide, inX3_g, gw_at (i := 127) (by decide +kernel) rfl, Or.inl rfl⟩
theorem lfX1_91 : GF RX1 91 3 0 := ⟨RX3, TX3, 5, RX3, rfl, by decide, inX3_g, gw_at (i := 128) (by decide +kernel) rfl, Or.inl rfl⟩
theorem lfX8_168 : GF RX8 168 3 0 := ⟨RX3, TX3, 5, RX3, rfl, by decide, inX3_g, gw_at (i := 129) (by decide +kernel) rfl, Or.inl rfl⟩
theorem lfX3_13 : GF RX3 13 3 1 := ⟨RX3, TX3, 5, RX3, rfl, by decide, inX3_g, gw_at (i := 130) (by decide +kernel) rfl, Or.inl rfl⟩
theorem lfX1_49 : GF RX1 49 3 1 := ⟨RX3, TX3, 5, RX3, rfl, by decide, inX3_g, gw_at (i := 131) (by decide +kernel) rfl, Or.inl rfl⟩
theorem lfX8_156 : GF RX8 156 3 1 := ⟨RX3, TX3, 5, RX3, rfl, by decide, inX3_g, gw_at (i := 132) (by decide +kernel) rfl, Or.inl rfl⟩
theorem lfX3_16 : GF RX3 16 3 2 := ⟨RX3, TX3, 5, RX3, rfl, by decide, inX3_g, gw_at (i := 133) (by decide +kernel) rfl, Or.inl rfl⟩
theorem lfX1_107 : GF RX1 107 3 2 := ⟨RX3, TX3, 5, RX3, rfl, by decide, inX3_g, gw_at (i := 134) (by decide +kernel) rfl, Or.inl rfl⟩
theorem lfX8_165 : GF RX8 165 3 2 := ⟨RX3, TX3, 5, RX3, rfl, by decide, inX3_g, gw_at (i := 135) (by decide +kernel) rfl, Or.inl rfl⟩
theorem lfX3_19 : GF RX3 19 3 3 := ⟨RX3, TX3, 5, RX3, rfl, by decide, inX3_g, gw_at (i := 136) (by decide +kernel) rfl, Or.inl rfl⟩
theorem lfX8_171 : GF RX8 171 3 3 := ⟨RX3, TX3, 5, RX3, rfl, by decide, inX3_g, gw_at (i := 137) (by decide +kernel) rfl, Or.inl rfl⟩
theorem lfX1_69 : GF RX1 69 3 4 := ⟨RX3, TX3, 5, RX3, rfl, by decide, inX3_g, gw_at (i := 138) (by decide +kernel) rfl, Or.inl rfl⟩
theorem lfX8_180 : GF RX8 180 3 4 := ⟨RX3, TX3, 5, RX3, rfl, by decide, inX3_g, gw_at (i := 139) (by decide +kernel) rfl, Or.inl rfl⟩
theorem la_byte : Cond.arrayClass .byte ∈ gw := gw_at (i := 151) (by decide +kernel) rfl
theorem lfX1_30 : GF RX1 30 1 0 := ⟨RX1, TX1, 6, RX1, rfl, by decide, inX1_g, gw_at (i := 152) (by decide +kernel) rfl, Or.inl rfl⟩
theorem lfX1_9 : GF RX1 9 1 1 := ⟨RX1, TX1, 6, RX1, rfl, by decide, inX1_g, gw_at (i := 153) (by decide +kernel) rfl, Or.inl rfl⟩
theorem lfX1_15 : GF RX1 15 1 2 := ⟨RX1, TX1, 6, RX1, rfl, by decide, inX1_g, gw_at (i := 154) (by decide +kernel) rfl, Or.inl rfl⟩
theorem lfX1_20 : GF RX1 20 1 3 := ⟨RX1, TX1, 6, RX1, rfl, by decide, inX1_g, gw_at (i := 155) (by decide +kernel) rfl, Or.inl rfl⟩
theorem lfX8_136 : GF RX8 136 1 3 := ⟨RX1, TX1, 6, RX1, rfl, by decide, inX1_g, gw_at (i := 156) (by decide +kernel) rfl, Or.inl rfl⟩
theorem lfX1_26 : GF RX1 26 1 4 := ⟨RX1, TX1, 6, RX1, rfl, by decide, inX1_g, gw_at (i := 157) (by decide +kernel) rfl, Or.inl rfl⟩
theorem lfX8_152 : GF RX8 152 1 4 := ⟨RX1, TX1, 6, RX1, rfl, by decide, inX1_g, gw_at (i := 158) (by decide +kernel) rfl, Or.inl rfl⟩
theorem lfX1_38 : GF RX1 38 1 5 := ⟨RX1, TX1, 6, RX1, rfl, by decide, inX1_g, gw_at (i := 159) (by decide +kernel) rfl, Or.inl rfl⟩
theorem lfX8_130 : GF RX8 130 1 5 := ⟨RX1, TX1, 6, RX1, rfl, by decide, inX1_g, gw_at (i := 160) (by decide +kernel) rfl, Or.inl rfl⟩
theorem lnX8_28 : GN RX8 28 0 [.int 0, .null, .null, .null, .null, .int 0, .int 0, .int 0, .int 0] := ⟨RX0, TX0, 9, tyX0, rfl, inX0_g, tyX0_ok, gw_at (i := 174) (by decide +kernel) rfl, gw_at (i := 175) (by decide +kernel) rfl, gw_at (i := 65) (by decide +kernel) rfl, rfl, fun g j hj => by rcases (show j = 0 ∨ j = 1 ∨ j = 2 ∨ j = 3 ∨ j = 4 ∨ j = 5 ∨ j = 6 ∨ j = 7 ∨ j = 8 by omega) with rfl | rfl | rfl | rfl | rfl | rfl | rfl | rfl | rfl <;> rfl⟩
theorem lcX8_28 : Cond.classLink RX8 28 RX0 ∈ gw := gw_at (i := 174) (by decide +kernel) rfl
theorem lmX8_30 : LI RX8 30 2 mX0_init := ⟨⟨gw_at (i := 176) (by decide +kernel) rfl, gw_at (i := 178) (by decide +kernel) rfl, gw_at (i := 65) (by decide +kernel) rfl, ⟨by decide +kernel, by decide +kernel, by decide +kernel⟩, by decide⟩, gw_at (i := 177) (by decide +kernel) rfl, rfl, rfl⟩
theorem lnX0_9 : GN RX0 9 10 [.int 0, .null, .int 0] := ⟨RJx4a65c, TJx4a65c, 3, tyJx4a65c, rfl, inJx4a65c_g, tyJx4a65c_ok, gw_at (i := 180) (by decide +kernel) rfl, gw_at (i := 181) (by decide +kernel) rfl, gw_at (i := 68) (by decide +kernel) rfl, rfl, fun g j hj => by rcases (show j = 0 ∨ j = 1 ∨ j = 2 by omega) with rfl | rfl | rfl <;> rfl⟩
theorem lcX0_9 : Cond.classLink RX0 9 RJx4a65c ∈ gw := gw_at (i := 180) (by decide +kernel) rfl
theorem lmX0_11 : LI RX0 11 0 mJx4a65c_init_da8c8 := ⟨⟨gw_at (i := 182) (by decide +kernel) rfl, gw_at (i := 184) (by decide +kernel) rfl, gw_at (i := 68) (by decide +kernel) rfl, ⟨by decide +kernel, by decide +kernel, by decide +kernel⟩, by decide⟩, gw_at (i := 183) (by decide +kernel) rfl, rfl, rfl⟩
theorem lmJx4a65c_1 : LI RJx4a65c 1 0 mJxc12de_init_da8c8 := ⟨⟨gw_at (i := 185) (by decide +kernel) rfl, gw_at (i := 187) (by decide +kernel) rfl, gw_at (i := 67) (by decide +kernel) rfl, ⟨by decide +kernel, by decide +kernel, by decide +kernel⟩, by decide⟩, gw_at (i := 186) (by decide +kernel) rfl, rfl, rfl⟩
theorem lmJxc12de_1 : LI RJxc12de 1 0 mJxa1e45_init_da8c8 := ⟨⟨gw_at (i := 188) (by decide +kernel) rfl, gw_at (i := 190) (by decide +kernel) rfl, gw_at (i := 66) (by decide +kernel) rfl, ⟨by decide +kernel, by decide +kernel, by decide +kernel⟩, by decide⟩, gw_at (i := 189) (by decide +kernel) rfl, rfl, rfl⟩
theorem lfJx4a65c_9 : GF RJx4a65c 9 10 1 := ⟨RJx4a65c, TJx4a65c, 3, RJx4a65c, rfl, by decide, inJx4a65c_g, gw_at (i := 194) (by decide +kernel) rfl, Or.inl rfl⟩
theorem lfJx4a65c_48 : GF RJx4a65c 48 10 2 := ⟨RJx4a65c, TJx4a65c, 3, RJx4a65c, rfl, by decide, inJx4a65c_g, gw_at (i := 195) (by decide +kernel) rfl, Or.inl rfl⟩
theorem lfJxc12de_7 : GF RJxc12de 7 10 0 := ⟨RJx4a65c, TJx4a65c, 3, RJxc12de, rfl, by decide, inJx4a65c_g, gw_at (i := 196) (by decide +kernel) rfl, Or.inl rfl⟩
theorem lfJx4a65c_63 : GF RJx4a65c 63 10 0 := ⟨RJx4a65c, TJx4a65c, 3, RJx4a65c, rfl, by decide, inJx4a65c_g, gw_at (i := 197) (by decide +kernel) rfl, Or.inr (gw_at (i := 198) (by decide +kernel) rfl)⟩
theorem lfX0_26 : GF RX0 26 0 0 := ⟨RX0, TX0, 9, RX0, rfl, by decide, inX0_g, gw_at (i := 206) (by decide +kernel) rfl, Or.inl rfl⟩
theorem lfX0_30 : GF RX0 30 0 1 := ⟨RX0, TX0, 9, RX0, rfl, by decide, inX0_g, gw_at (i := 207) (by decide +kernel) rfl, Or.inl rfl⟩
theorem lfX0_12 : GF RX0 12 0 2 := ⟨RX0, TX0, 9, RX0, rfl, by decide, inX0_g, gw_at (i := 208) (by decide +kernel) rfl, Or.inl rfl⟩
theorem lfX0_18 : GF RX0 18 0 3 := ⟨RX0, TX0, 9, RX0, rfl, by decide, inX0_g, gw_at (i := 209) (by decide +kernel) rfl, Or.inl rfl⟩
theorem lfX0_22 : GF RX0 22 0 4 := ⟨RX0, TX0, 9, RX0, rfl, by decide, inX0_g, gw_at (i := 210) (by decide +kernel) rfl, Or.inl rfl⟩
theorem lfX0_92 : GF RX0 92 0 5 := ⟨RX0, TX0, 9, RX0, rfl, by decide, inX0_g, gw_at (i := 211) (by decide +kernel) rfl, Or.inl rfl⟩
theorem lfX0_65 : GF RX0 65 0 6 := ⟨RX0, TX0, 9, RX0, rfl, by decide, inX0_g, gw_at (i := 212) (by decide +kernel) rfl, Or.inl rfl⟩
theorem lfX8_83 : GF RX8 83 0 7 := ⟨RX0, TX0, 9, RX0, rfl, by decide, inX0_g, gw_at (i := 213) (by decide +kernel) rfl, Or.inl rfl⟩
theorem lfX0_141 : GF RX0 141 0 7 := ⟨RX0, TX0, 9, RX0, rfl, by decide, inX0_g, gw_at (i := 214) (by decide +kernel) rfl, Or.inl rfl⟩
theorem lfX8_86 : GF RX8 86 0 8 := ⟨RX0, TX0, 9, RX0, rfl, by decide, inX0_g, gw_at (i := 215) (by decide +kernel) rfl, Or.inl rfl⟩
theorem lfX0_144 : GF RX0 144 0 8 := ⟨RX0, TX0, 9, RX0, rfl, by decide, inX0_g, gw_at (i := 216) (by decide +kernel) rfl, Or.inl rfl⟩
theorem lnX8_37 : GN RX8 37 6 [.null, .null, .null, .null, .null, .int 0, .int 0, .int 0] := ⟨RX6, TX6, 8, tyX6, rfl, inX6_g, tyX6_ok, gw_at (i := 236) (by decide +kernel) rfl, gw_at (i := 237) (by decide +kernel) rfl, gw_at (i := 69) (by decide +kernel) rfl, rfl, fun g j hj => by rcases (show j = 0 ∨ j = 1 ∨ j = 2 ∨ j = 3 ∨ j = 4 ∨ j = 5 ∨ j = 6 ∨ j = 7 by omega) with rfl | rfl | rfl | rfl | rfl | rfl | rfl | rfl <;> rfl⟩
theorem lcX8_37 : Cond.classLink RX8 37 RX6 ∈ gw := gw_at (i := 236) (by decide +kernel) rfl
theorem lmX8_39 : LN RX8 39 0 mX6_init := ⟨by decide +kernel, gw_at (i := 240) (by decide +kernel) rfl, gw_at (i := 69) (by decide +kernel) rfl, ⟨by decide +kernel, by decide +kernel, by decide +kernel⟩, by decide⟩
theorem lfX6_9 : GF RX6 9 6 0 := ⟨RX6, TX6, 8, RX6, rfl, by decide, inX6_g, gw_at (i := 242) (by decide +kernel) rfl, Or.inl rfl⟩
theorem lfX6_15 : GF RX6 15 6 1 := ⟨RX6, TX6, 8, RX6, rfl, by decide, inX6_g, gw_at (i := 243) (by decide +kernel) rfl, Or.inl rfl⟩
theorem lfX6_18 : GF RX6 18 6 2 := ⟨RX6, TX6, 8, RX6, rfl, by decide, inX6_g, gw_at (i := 244) (by decide +kernel) rfl, Or.inl rfl⟩
theorem lfX6_21 : GF RX6 21 6 3 := ⟨RX6, TX6, 8, RX6, rfl, by decide, inX6_g, gw_at (i := 245) (by decide +kernel) rfl, Or.inl rfl⟩
theorem lfX6_24 : GF RX6 24 6 4 := ⟨RX6, TX6, 8, RX6, rfl, by decide, inX6_g, gw_at (i := 246) (by decide +kernel) rfl, Or.inl rfl⟩
theorem lfX8_229 : GF RX8 229 6 4 := ⟨RX6, TX6, 8, RX6, rfl, by decide, inX6_g, gw_at (i := 247) (by decide +kernel) rfl, Or.inl rfl⟩
theorem lfX6_27 : GF RX6 27 6 5 := ⟨RX6, TX6, 8, RX6, rfl, by decide, inX6_g, gw_at (i := 248) (by decide +kernel) rfl, Or.inl rfl⟩
theorem lfX8_220 : GF RX8 220 6 5 := ⟨RX6, TX6, 8, RX6, rfl, by decide, inX6_g, gw_at (i := 249) (by decide +kernel) rfl, Or.inl rfl⟩
theorem lfX6_40 : GF RX6 40 6 6 := ⟨RX6, TX6, 8, RX6, rfl, by decide, inX6_g, gw_at (i := 250) (by decide +kernel) rfl, Or.inl rfl⟩
theorem lfX8_226 : GF RX8 226 6 6 := ⟨RX6, TX6, 8, RX6, rfl, by decide, inX6_g, gw_at (i := 251) (by decide +kernel) rfl, Or.inl rfl⟩
theorem lfX6_43 : GF RX6 43 6 7 := ⟨RX6, TX6, 8, RX6, rfl, by decide, inX6_g, gw_at (i := 252) (by decide +kernel) rfl, Or.inl rfl⟩
theorem lfX8_223 : GF RX8 223 6 7 := ⟨RX6, TX6, 8, RX6, rfl, by decide, inX6_g, gw_at (i := 253) (by decide +kernel) rfl, Or.inl rfl⟩
theorem lnX8_44 : GN RX8 44 4 [.null, .int 0, .int 0, .null] := ⟨RX4, TX4, 4, tyX4, rfl, inX4_g, tyX4_ok, gw_at (i := 271) (by decide +kernel) rfl, gw_at (i := 273) (by decide +kernel) rfl, gw_at (i := 70) (by decide +kernel) rfl, rfl, fun g j hj => by rcases (show j = 0 ∨ j = 1 ∨ j = 2 ∨ j = 3 by omega) with rfl | rfl | rfl | rfl <;> rfl⟩
theorem lcX8_44 : Cond.classLink RX8 44 RX4 ∈ gw := gw_at (i := 271) (by decide +kernel) rfl
theorem lmX8_50 : LN RX8 50 0 mX4_init := ⟨by decide +kernel, gw_at (i := 276) (by decide +kernel) rfl, gw_at (i := 70) (by decide +kernel) rfl, ⟨by decide +kernel, by decide +kernel, by decide +kernel⟩, by decide⟩
theorem lfX4_9 : GF RX4 9 4 0 := ⟨RX4, TX4, 4, RX4, rfl, by decide, inX4_g, gw_at (i := 278) (by decide +kernel) rfl, Or.inl rfl⟩
theorem lfX8_282 : GF RX8 282 4 0 := ⟨RX4, TX4, 4, RX4, rfl, by decide, inX4_g, gw_at (i := 279) (by decide +kernel) rfl, Or.inl rfl⟩
theorem lfX4_15 : GF RX4 15 4 1 := ⟨RX4, TX4, 4, RX4, rfl, by decide, inX4_g, gw_at (i := 280) (by decide +kernel) rfl, Or.inl rfl⟩
theorem lfX8_286 : GF RX8 286 4 1 := ⟨RX4, TX4, 4, RX4, rfl, by decide, inX4_g, gw_at (i := 281) (by decide +kernel) rfl, Or.inl rfl⟩
theorem lfX4_19 : GF RX4 19 4 2 := ⟨RX4, TX4, 4, RX4, rfl, by decide, inX4_g, gw_at (i := 282) (by decide +kernel) rfl, Or.inl rfl⟩
theorem lfX8_274 : GF RX8 274 4 2 := ⟨RX4, TX4, 4, RX4, rfl, by decide, inX4_g, gw_at (i := 283) (by decide +kernel) rfl, Or.inl rfl⟩
theorem lfX4_22 : GF RX4 22 4 3 := ⟨RX4, TX4, 4, RX4, rfl, by decide, inX4_g, gw_at (i := 284) (by decide +kernel) rfl, Or.inl rfl⟩
theorem lfX8_322 : GF RX8 322 4 3 := ⟨RX4, TX4, 4, RX4, rfl, by decide, inX4_g, gw_at (i := 285) (by decide +kernel) rfl, Or.inl rfl⟩
theorem la_short : Cond.arrayClass .short ∈ gw := gw_at (i := 295) (by decide +kernel) rfl
theorem lfX8_15 : GF RX8 15 8 0 := ⟨RX8, TX8, 5, RX8, rfl, by decide, inX8_g, gw_at (i := 296) (by decide +kernel) rfl, Or.inl rfl⟩
theorem lfX8_24 : GF RX8 24 8 1 := ⟨RX8, TX8, 5, RX8, rfl, by decide, inX8_g, gw_at (i := 297) (by decide +kernel) rfl, Or.inl rfl⟩
theorem lfX8_33 : GF RX8 33 8 2 := ⟨RX8, TX8, 5, RX8, rfl, by decide, inX8_g, gw_at (i := 298) (by decide +kernel) rfl, Or.inl rfl⟩
theorem lfX8_40 : GF RX8 40 8 3 := ⟨RX8, TX8, 5, RX8, rfl, by decide, inX8_g, gw_at (i := 299) (by decide +kernel) rfl, Or.inl rfl⟩
theorem lfX8_46 : GF RX8 46 8 4 := ⟨RX8, TX8, 5, RX8, rfl, by decide, inX8_g, gw_at (i := 300) (by decide +kernel) rfl, Or.inl rfl⟩
theorem lmL_29 : LV RL 29 0 8 mX8_chant := ⟨⟨gw_at (i := 312) (by decide +kernel) rfl, gw_at (i := 315) (by decide +kernel) rfl, gw_at (i := 60) (by decide +kernel) rfl, ⟨by decide +kernel, by decide +kernel, by decide +kernel⟩, by decide⟩, gw_at (i := 313) (by decide +kernel) rfl, gw_at (i := 314) (by decide +kernel) rfl, TX8, 5, rfl⟩
theorem lmX8_51 : LV RX8 51 0 0 mX0_addChant := ⟨⟨gw_at (i := 316) (by decide +kernel) rfl, gw_at (i := 319) (by decide +kernel) rfl, gw_at (i := 65) (by decide +kernel) rfl, ⟨by decide +kernel, by decide +kernel, by decide +kernel⟩, by decide⟩, gw_at (i := 317) (by decide +kernel) rfl, gw_at (i := 318) (by decide +kernel) rfl, TX0, 9, rfl⟩
theorem lmX0_34 : LV RX0 34 0 10 mJx4a65c_size_8abf5 := ⟨⟨gw_at (i := 320) (by decide +kernel) rfl, gw_at (i := 323) (by decide +kernel) rfl, gw_at (i := 68) (by decide +kernel) rfl, ⟨by decide +kernel, by decide +kernel, by decide +kernel⟩, by decide⟩, gw_at (i := 321) (by decide +kernel) rfl, gw_at (i := 322) (by decide +kernel) rfl, TJx4a65c, 3, rfl⟩
theorem lnX0_46 : GN RX0 46 2 [.null] := ⟨RX2, TX2, 1, tyX2, rfl, inX2_g, tyX2_ok, gw_at (i := 324) (by decide +kernel) rfl, gw_at (i := 325) (by decide +kernel) rfl, gw_at (i := 72) (by decide +kernel) rfl, rfl, fun g j hj => by rcases (show j = 0 by omega) with rfl <;> rfl⟩
theorem lcX0_46 : Cond.classLink RX0 46 RX2 ∈ gw := gw_at (i := 324) (by decide +kernel) rfl
theorem lmX0_53 : LN RX0 53 0 mX2_init := ⟨by decide +kernel, gw_at (i := 328) (by decide +kernel) rfl, gw_at (i := 72) (by decide +kernel) rfl, ⟨by decide +kernel, by decide +kernel, by decide +kernel⟩, by decide⟩
theorem lnX2_7 : GN RX2 7 10 [.int 0, .null, .int 0] := ⟨RJx4a65c, TJx4a65c, 3, tyJx4a65c, rfl, inJx4a65c_g, tyJx4a65c_ok, gw_at (i := 330) (by decide +kernel) rfl, gw_at (i := 181) (by decide +kernel) rfl, gw_at (i := 68) (by decide +kernel) rfl, rfl, fun g j hj => by rcases (show j = 0 ∨ j = 1 ∨ j = 2 by omega) with rfl | rfl | rfl <;> rfl⟩
theorem lcX2_7 : Cond.classLink RX2 7 RJx4a65c ∈ gw := gw_at (i := 330) (by decide +kernel) rfl
theorem lmX2_9 : LI RX2 9 0 mJx4a65c_init_da8c8 := ⟨⟨gw_at (i := 331) (by decide +kernel) rfl, gw_at (i := 184) (by decide +kernel) rfl, gw_at (i := 68) (by decide +kernel) rfl, ⟨by decide +kernel, by decide +kernel, by decide +kernel⟩, by decide⟩, gw_at (i := 183) (by decide +kernel) rfl, rfl, rfl⟩
theorem lfX2_10 : GF RX2 10 2 0 := ⟨RX2, TX2, 1, RX2, rfl, by decide, inX2_g, gw_at (i := 332) (by decide +kernel) rfl, Or.inl rfl⟩
theorem lfX0_48 : GF RX0 48 2 0 := ⟨RX2, TX2, 1, RX2, rfl, by decide, inX2_g, gw_at (i := 333) (by decide +kernel) rfl, Or.inl rfl⟩
theorem lmX0_54 : LV RX0 54 1 10 mJx4a65c_add_9ea2d := ⟨⟨gw_at (i := 337) (by decide +kernel) rfl, gw_at (i := 340) (by decide +kernel) rfl, gw_at (i := 68) (by decide +kernel) rfl, ⟨by decide +kernel, by decide +kernel, by decide +kernel⟩, by decide⟩, gw_at (i := 338) (by decide +kernel) rfl, gw_at (i := 339) (by decide +kernel) rfl, TJx4a65c, 3, rfl⟩
theorem lmJx4a65c_131 : LV RJx4a65c 131 3 10 mJx4a65c_add_72be8 := ⟨⟨gw_at (i := 341) (by decide +kernel) rfl, gw_at (i := 344) (by decide +kernel) rfl, gw_at (i := 68) (by decide +kernel) rfl, ⟨by decide +kernel, by decide +kernel, by decide +kernel⟩, by decide⟩, gw_at (i := 343) (by decide +kernel) rfl, gw_at (i := 0) (by decide +kernel) rfl, TJx4a65c, 3, rfl⟩
theorem lmJx4a65c_129 : LV RJx4a65c 129 0 10 mJx4a65c_grow_d5877 := ⟨⟨gw_at (i := 345) (by decide +kernel) rfl, gw_at (i := 348) (by decide +kernel) rfl, gw_at (i := 68) (by decide +kernel) rfl, ⟨by decide +kernel, by decide +kernel, by decide +kernel⟩, by decide⟩, gw_at (i := 347) (by decide +kernel) rfl, gw_at (i := 1) (by decide +kernel) rfl, TJx4a65c, 3, rfl⟩
theorem lmJx4a65c_69 : LV RJx4a65c 69 1 10 mJx4a65c_grow_92f84 := ⟨⟨gw_at (i := 349) (by decide +kernel) rfl, gw_at (i := 352) (by decide +kernel) rfl, gw_at (i := 68) (by decide +kernel) rfl, ⟨by decide +kernel, by decide +kernel, by decide +kernel⟩, by decide⟩, gw_at (i := 351) (by decide +kernel) rfl, gw_at (i := 2) (by decide +kernel) rfl, TJx4a65c, 3, rfl⟩
theorem lmJx4a65c_73 : LSt RJx4a65c 73 3 mJ8_newLength_cabcc := ⟨⟨gw_at (i := 353) (by decide +kernel) rfl, gw_at (i := 355) (by decide +kernel) rfl, gw_at (i := 73) (by decide +kernel) rfl, ⟨by decide +kernel, by decide +kernel, by decide +kernel⟩, by decide⟩, gw_at (i := 354) (by decide +kernel) rfl⟩
theorem lmJ8_194 : LSt RJ8 194 2 mJ9_max_7cf53 := ⟨⟨gw_at (i := 356) (by decide +kernel) rfl, gw_at (i := 358) (by decide +kernel) rfl, gw_at (i := 61) (by decide +kernel) rfl, ⟨by decide +kernel, by decide +kernel, by decide +kernel⟩, by decide⟩, gw_at (i := 357) (by decide +kernel) rfl⟩
theorem lkJ8_200 : Cond.constant RJ8 200 2147483639 ∈ gw := gw_at (i := 359) (by decide +kernel) rfl
theorem lmJ8_201 : LSt RJ8 201 2 mJ8_hugeLength_7cf53 := ⟨⟨gw_at (i := 360) (by decide +kernel) rfl, gw_at (i := 362) (by decide +kernel) rfl, gw_at (i := 73) (by decide +kernel) rfl, ⟨by decide +kernel, by decide +kernel, by decide +kernel⟩, by decide⟩, gw_at (i := 361) (by decide +kernel) rfl⟩
theorem lmJx4a65c_66 : LSt RJx4a65c 66 2 mJ7_copyOf_1904c := ⟨⟨gw_at (i := 363) (by decide +kernel) rfl, gw_at (i := 365) (by decide +kernel) rfl, gw_at (i := 74) (by decide +kernel) rfl, ⟨by decide +kernel, by decide +kernel, by decide +kernel⟩, by decide⟩, gw_at (i := 364) (by decide +kernel) rfl⟩
theorem lmJ7_300 : LSt RJ7 300 3 mJ7_copyOf_6403c := ⟨⟨gw_at (i := 383) (by decide +kernel) rfl, gw_at (i := 385) (by decide +kernel) rfl, gw_at (i := 74) (by decide +kernel) rfl, ⟨by decide +kernel, by decide +kernel, by decide +kernel⟩, by decide⟩, gw_at (i := 384) (by decide +kernel) rfl⟩
theorem lcJ7_110 : Cond.classLink RJ7 110 "[Ljava/lang/Object;" ∈ gw := gw_at (i := 386) (by decide +kernel) rfl
theorem lcJ7_2 : Cond.classLink RJ7 2 "java/lang/Object" ∈ gw := gw_at (i := 388) (by decide +kernel) rfl
theorem lmJ7_304 : LSt RJ7 304 2 mJ9_min_7cf53 := ⟨⟨gw_at (i := 389) (by decide +kernel) rfl, gw_at (i := 391) (by decide +kernel) rfl, gw_at (i := 61) (by decide +kernel) rfl, ⟨by decide +kernel, by decide +kernel, by decide +kernel⟩, by decide⟩, gw_at (i := 390) (by decide +kernel) rfl⟩
theorem lmJx4a65c_79 : LSt RJx4a65c 79 2 mJ9_max_7cf53 := ⟨⟨gw_at (i := 395) (by decide +kernel) rfl, gw_at (i := 358) (by decide +kernel) rfl, gw_at (i := 61) (by decide +kernel) rfl, ⟨by decide +kernel, by decide +kernel, by decide +kernel⟩, by decide⟩, gw_at (i := 357) (by decide +kernel) rfl⟩
theorem lcJx4a65c_7 : Cond.classLink RJx4a65c 7 "java/lang/Object" ∈ gw := gw_at (i := 396) (by decide +kernel) rfl
theorem lmL_34 : LV RL 34 3 8 mX8_step := ⟨⟨gw_at (i := 397) (by decide +kernel) rfl, gw_at (i := 400) (by decide +kernel) rfl, gw_at (i := 60) (by decide +kernel) rfl, ⟨by decide +kernel, by decide +kernel, by decide +kernel⟩, by decide⟩, gw_at (i := 398) (by decide +kernel) rfl, gw_at (i := 399) (by decide +kernel) rfl, TX8, 5, rfl⟩
theorem lmX8_55 : LV RX8 55 3 8 mX8_isStepAsTold := ⟨⟨gw_at (i := 401) (by decide +kernel) rfl, gw_at (i := 404) (by decide +kernel) rfl, gw_at (i := 60) (by decide +kernel) rfl, ⟨by decide +kernel, by decide +kernel, by decide +kernel⟩, by decide⟩, gw_at (i := 403) (by decide +kernel) rfl, gw_at (i := 3) (by decide +kernel) rfl, TX8, 5, rfl⟩
theorem lmX8_74 : LSt RX8 74 3 mX8_isWithin := ⟨⟨gw_at (i := 405) (by decide +kernel) rfl, gw_at (i := 407) (by decide +kernel) rfl, gw_at (i := 60) (by decide +kernel) rfl, ⟨by decide +kernel, by decide +kernel, by decide +kernel⟩, by decide⟩, gw_at (i := 406) (by decide +kernel) rfl⟩
theorem lmX8_121 : LSt RX8 121 1 mX8_isColour := ⟨⟨gw_at (i := 408) (by decide +kernel) rfl, gw_at (i := 410) (by decide +kernel) rfl, gw_at (i := 60) (by decide +kernel) rfl, ⟨by decide +kernel, by decide +kernel, by decide +kernel⟩, by decide⟩, gw_at (i := 409) (by decide +kernel) rfl⟩
theorem lmX8_124 : LV RX8 124 0 0 mX0_chants := ⟨⟨gw_at (i := 411) (by decide +kernel) rfl, gw_at (i := 414) (by decide +kernel) rfl, gw_at (i := 65) (by decide +kernel) rfl, ⟨by decide +kernel, by decide +kernel, by decide +kernel⟩, by decide⟩, gw_at (i := 412) (by decide +kernel) rfl, gw_at (i := 413) (by decide +kernel) rfl, TX0, 9, rfl⟩
theorem lmX8_59 : LV RX8 59 3 0 mX0_addStep := ⟨⟨gw_at (i := 415) (by decide +kernel) rfl, gw_at (i := 418) (by decide +kernel) rfl, gw_at (i := 65) (by decide +kernel) rfl, ⟨by decide +kernel, by decide +kernel, by decide +kernel⟩, by decide⟩, gw_at (i := 416) (by decide +kernel) rfl, gw_at (i := 417) (by decide +kernel) rfl, TX0, 9, rfl⟩
theorem lmX0_58 : LV RX0 58 0 10 mJx4a65c_isEmpty_aae02 := ⟨⟨gw_at (i := 419) (by decide +kernel) rfl, gw_at (i := 422) (by decide +kernel) rfl, gw_at (i := 68) (by decide +kernel) rfl, ⟨by decide +kernel, by decide +kernel, by decide +kernel⟩, by decide⟩, gw_at (i := 420) (by decide +kernel) rfl, gw_at (i := 421) (by decide +kernel) rfl, TJx4a65c, 3, rfl⟩
theorem lmX0_42 : LV RX0 42 1 10 mJx4a65c_get_915e3 := ⟨⟨gw_at (i := 423) (by decide +kernel) rfl, gw_at (i := 426) (by decide +kernel) rfl, gw_at (i := 68) (by decide +kernel) rfl, ⟨by decide +kernel, by decide +kernel, by decide +kernel⟩, by decide⟩, gw_at (i := 424) (by decide +kernel) rfl, gw_at (i := 425) (by decide +kernel) rfl, TJx4a65c, 3, rfl⟩
theorem lmJx4a65c_118 : LSt RJx4a65c 118 2 mJ15_checkIndex_7cf53 := ⟨⟨gw_at (i := 427) (by decide +kernel) rfl, gw_at (i := 429) (by decide +kernel) rfl, gw_at (i := 76) (by decide +kernel) rfl, ⟨by decide +kernel, by decide +kernel, by decide +kernel⟩, by decide⟩, gw_at (i := 428) (by decide +kernel) rfl⟩
theorem lmJ15_105 : LSt RJ15 105 3 mJ3_checkIndex_8e157 := ⟨⟨gw_at (i := 430) (by decide +kernel) rfl, gw_at (i := 432) (by decide +kernel) rfl, gw_at (i := 77) (by decide +kernel) rfl, ⟨by decide +kernel, by decide +kernel, by decide +kernel⟩, by decide⟩, gw_at (i := 431) (by decide +kernel) rfl⟩
theorem lmJx4a65c_123 : LV RJx4a65c 123 1 10 mJx4a65c_elementData_915e3 := ⟨⟨gw_at (i := 433) (by decide +kernel) rfl, gw_at (i := 436) (by decide +kernel) rfl, gw_at (i := 68) (by decide +kernel) rfl, ⟨by decide +kernel, by decide +kernel, by decide +kernel⟩, by decide⟩, gw_at (i := 434) (by decide +kernel) rfl, gw_at (i := 435) (by decide +kernel) rfl, TJx4a65c, 3, rfl⟩
theorem lnX0_51 : GN RX0 51 5 [.int 0, .int 0, .int 0] := ⟨RX5, TX5, 3, tyX5, rfl, inX5_g, tyX5_ok, gw_at (i := 437) (by decide +kernel) rfl, gw_at (i := 438) (by decide +kernel) rfl, gw_at (i := 78) (by decide +kernel) rfl, rfl, fun g j hj => by rcases (show j = 0 ∨ j = 1 ∨ j = 2 by omega) with rfl | rfl | rfl <;> rfl⟩
theorem lcX0_51 : Cond.classLink RX0 51 RX5 ∈ gw := gw_at (i := 437) (by decide +kernel) rfl
theorem lmX0_62 : LI RX0 62 3 mX5_init := ⟨⟨gw_at (i := 439) (by decide +kernel) rfl, gw_at (i := 441) (by decide +kernel) rfl, gw_at (i := 78) (by decide +kernel) rfl, ⟨by decide +kernel, by decide +kernel, by decide +kernel⟩, by decide⟩, gw_at (i := 440) (by decide +kernel) rfl, rfl, rfl⟩
theorem lfX5_9 : GF RX5 9 5 0 := ⟨RX5, TX5, 3, RX5, rfl, by decide, inX5_g, gw_at (i := 443) (by decide +kernel) rfl, Or.inl rfl⟩
theorem lfX8_100 : GF RX8 100 5 0 := ⟨RX5, TX5, 3, RX5, rfl, by decide, inX5_g, gw_at (i := 444) (by decide +kernel) rfl, Or.inl rfl⟩
theorem lfX0_76 : GF RX0 76 5 0 := ⟨RX5, TX5, 3, RX5, rfl, by decide, inX5_g, gw_at (i := 445) (by decide +kernel) rfl, Or.inl rfl⟩
theorem lfX5_18 : GF RX5 18 5 1 := ⟨RX5, TX5, 3, RX5, rfl, by decide, inX5_g, gw_at (i := 446) (by decide +kernel) rfl, Or.inl rfl⟩
theorem lfX8_115 : GF RX8 115 5 1 := ⟨RX5, TX5, 3, RX5, rfl, by decide, inX5_g, gw_at (i := 447) (by decide +kernel) rfl, Or.inl rfl⟩
theorem lfX0_102 : GF RX0 102 5 1 := ⟨RX5, TX5, 3, RX5, rfl, by decide, inX5_g, gw_at (i := 448) (by decide +kernel) rfl, Or.inl rfl⟩
theorem lfX5_15 : GF RX5 15 5 2 := ⟨RX5, TX5, 3, RX5, rfl, by decide, inX5_g, gw_at (i := 449) (by decide +kernel) rfl, Or.inl rfl⟩
theorem lfX8_109 : GF RX8 109 5 2 := ⟨RX5, TX5, 3, RX5, rfl, by decide, inX5_g, gw_at (i := 450) (by decide +kernel) rfl, Or.inl rfl⟩
theorem lfX0_79 : GF RX0 79 5 2 := ⟨RX5, TX5, 3, RX5, rfl, by decide, inX5_g, gw_at (i := 451) (by decide +kernel) rfl, Or.inl rfl⟩
theorem lmL_39 : LV RL 39 1 8 mX8_length := ⟨⟨gw_at (i := 459) (by decide +kernel) rfl, gw_at (i := 462) (by decide +kernel) rfl, gw_at (i := 60) (by decide +kernel) rfl, ⟨by decide +kernel, by decide +kernel, by decide +kernel⟩, by decide⟩, gw_at (i := 460) (by decide +kernel) rfl, gw_at (i := 461) (by decide +kernel) rfl, TX8, 5, rfl⟩
theorem lmX8_63 : LV RX8 63 1 0 mX0_hasChant := ⟨⟨gw_at (i := 463) (by decide +kernel) rfl, gw_at (i := 466) (by decide +kernel) rfl, gw_at (i := 65) (by decide +kernel) rfl, ⟨by decide +kernel, by decide +kernel, by decide +kernel⟩, by decide⟩, gw_at (i := 464) (by decide +kernel) rfl, gw_at (i := 465) (by decide +kernel) rfl, TX0, 9, rfl⟩
theorem lmX8_67 : LV RX8 67 1 0 mX0_measured := ⟨⟨gw_at (i := 467) (by decide +kernel) rfl, gw_at (i := 470) (by decide +kernel) rfl, gw_at (i := 65) (by decide +kernel) rfl, ⟨by decide +kernel, by decide +kernel, by decide +kernel⟩, by decide⟩, gw_at (i := 468) (by decide +kernel) rfl, gw_at (i := 469) (by decide +kernel) rfl, TX0, 9, rfl⟩
theorem lmX0_68 : LV RX0 68 4 0 mX0_measure := ⟨⟨gw_at (i := 471) (by decide +kernel) rfl, gw_at (i := 474) (by decide +kernel) rfl, gw_at (i := 65) (by decide +kernel) rfl, ⟨by decide +kernel, by decide +kernel, by decide +kernel⟩, by decide⟩, gw_at (i := 473) (by decide +kernel) rfl, gw_at (i := 4) (by decide +kernel) rfl, TX0, 9, rfl⟩
theorem lmX0_38 : LV RX0 38 1 0 mX0_hasChant := ⟨⟨gw_at (i := 475) (by decide +kernel) rfl, gw_at (i := 466) (by decide +kernel) rfl, gw_at (i := 65) (by decide +kernel) rfl, ⟨by decide +kernel, by decide +kernel, by decide +kernel⟩, by decide⟩, gw_at (i := 464) (by decide +kernel) rfl, gw_at (i := 465) (by decide +kernel) rfl, TX0, 9, rfl⟩
theorem lmX0_72 : LV RX0 72 5 0 mX0_added := ⟨⟨gw_at (i := 476) (by decide +kernel) rfl, gw_at (i := 479) (by decide +kernel) rfl, gw_at (i := 65) (by decide +kernel) rfl, ⟨by decide +kernel, by decide +kernel, by decide +kernel⟩, by decide⟩, gw_at (i := 478) (by decide +kernel) rfl, gw_at (i := 5) (by decide +kernel) rfl, TX0, 9, rfl⟩
theorem lmX0_82 : LSt RX0 82 2 mJ9_max_7cf53 := ⟨⟨gw_at (i := 480) (by decide +kernel) rfl, gw_at (i := 358) (by decide +kernel) rfl, gw_at (i := 61) (by decide +kernel) rfl, ⟨by decide +kernel, by decide +kernel, by decide +kernel⟩, by decide⟩, gw_at (i := 357) (by decide +kernel) rfl⟩
theorem lmL_44 : LV RL 44 2 8 mX8_colour := ⟨⟨gw_at (i := 481) (by decide +kernel) rfl, gw_at (i := 484) (by decide +kernel) rfl, gw_at (i := 60) (by decide +kernel) rfl, ⟨by decide +kernel, by decide +kernel, by decide +kernel⟩, by decide⟩, gw_at (i := 482) (by decide +kernel) rfl, gw_at (i := 483) (by decide +kernel) rfl, TX8, 5, rfl⟩
theorem lmX8_71 : LV RX8 71 1 0 mX0_sung := ⟨⟨gw_at (i := 485) (by decide +kernel) rfl, gw_at (i := 488) (by decide +kernel) rfl, gw_at (i := 65) (by decide +kernel) rfl, ⟨by decide +kernel, by decide +kernel, by decide +kernel⟩, by decide⟩, gw_at (i := 486) (by decide +kernel) rfl, gw_at (i := 487) (by decide +kernel) rfl, TX0, 9, rfl⟩
theorem lmX0_88 : LV RX0 88 1 0 mX0_measured := ⟨⟨gw_at (i := 489) (by decide +kernel) rfl, gw_at (i := 470) (by decide +kernel) rfl, gw_at (i := 65) (by decide +kernel) rfl, ⟨by decide +kernel, by decide +kernel, by decide +kernel⟩, by decide⟩, gw_at (i := 468) (by decide +kernel) rfl, gw_at (i := 469) (by decide +kernel) rfl, TX0, 9, rfl⟩
theorem lmX0_95 : LV RX0 95 3 0 mX0_write := ⟨⟨gw_at (i := 490) (by decide +kernel) rfl, gw_at (i := 493) (by decide +kernel) rfl, gw_at (i := 65) (by decide +kernel) rfl, ⟨by decide +kernel, by decide +kernel, by decide +kernel⟩, by decide⟩, gw_at (i := 492) (by decide +kernel) rfl, gw_at (i := 6) (by decide +kernel) rfl, TX0, 9, rfl⟩
theorem lmX0_98 : LV RX0 98 4 0 mX0_writeStep := ⟨⟨gw_at (i := 494) (by decide +kernel) rfl, gw_at (i := 497) (by decide +kernel) rfl, gw_at (i := 65) (by decide +kernel) rfl, ⟨by decide +kernel, by decide +kernel, by decide +kernel⟩, by decide⟩, gw_at (i := 496) (by decide +kernel) rfl, gw_at (i := 7) (by decide +kernel) rfl, TX0, 9, rfl⟩
theorem lmX0_105 : LV RX0 105 2 0 mX0_writeColour := ⟨⟨gw_at (i := 498) (by decide +kernel) rfl, gw_at (i := 501) (by decide +kernel) rfl, gw_at (i := 65) (by decide +kernel) rfl, ⟨by decide +kernel, by decide +kernel, by decide +kernel⟩, by decide⟩, gw_at (i := 500) (by decide +kernel) rfl, gw_at (i := 8) (by decide +kernel) rfl, TX0, 9, rfl⟩
theorem lmX0_118 : LV RX0 118 1 0 mX0_writeKnot := ⟨⟨gw_at (i := 502) (by decide +kernel) rfl, gw_at (i := 505) (by decide +kernel) rfl, gw_at (i := 65) (by decide +kernel) rfl, ⟨by decide +kernel, by decide +kernel, by decide +kernel⟩, by decide⟩, gw_at (i := 504) (by decide +kernel) rfl, gw_at (i := 9) (by decide +kernel) rfl, TX0, 9, rfl⟩
theorem lmX0_109 : LV RX0 109 2 0 mX0_writeBackward := ⟨⟨gw_at (i := 506) (by decide +kernel) rfl, gw_at (i := 509) (by decide +kernel) rfl, gw_at (i := 65) (by decide +kernel) rfl, ⟨by decide +kernel, by decide +kernel, by decide +kernel⟩, by decide⟩, gw_at (i := 508) (by decide +kernel) rfl, gw_at (i := 10) (by decide +kernel) rfl, TX0, 9, rfl⟩
theorem lmX0_122 : LV RX0 122 1 0 mX0_heard := ⟨⟨gw_at (i := 510) (by decide +kernel) rfl, gw_at (i := 513) (by decide +kernel) rfl, gw_at (i := 65) (by decide +kernel) rfl, ⟨by decide +kernel, by decide +kernel, by decide +kernel⟩, by decide⟩, gw_at (i := 511) (by decide +kernel) rfl, gw_at (i := 512) (by decide +kernel) rfl, TX0, 9, rfl⟩
theorem lmX0_112 : LV RX0 112 2 0 mX0_writeAgain := ⟨⟨gw_at (i := 514) (by decide +kernel) rfl, gw_at (i := 517) (by decide +kernel) rfl, gw_at (i := 65) (by decide +kernel) rfl, ⟨by decide +kernel, by decide +kernel, by decide +kernel⟩, by decide⟩, gw_at (i := 516) (by decide +kernel) rfl, gw_at (i := 11) (by decide +kernel) rfl, TX0, 9, rfl⟩
theorem lmX0_115 : LV RX0 115 3 0 mX0_writeLike := ⟨⟨gw_at (i := 518) (by decide +kernel) rfl, gw_at (i := 521) (by decide +kernel) rfl, gw_at (i := 65) (by decide +kernel) rfl, ⟨by decide +kernel, by decide +kernel, by decide +kernel⟩, by decide⟩, gw_at (i := 520) (by decide +kernel) rfl, gw_at (i := 12) (by decide +kernel) rfl, TX0, 9, rfl⟩
theorem lmX0_125 : LV RX0 125 2 1 mX1_colourBelow := ⟨⟨gw_at (i := 522) (by decide +kernel) rfl, gw_at (i := 525) (by decide +kernel) rfl, gw_at (i := 62) (by decide +kernel) rfl, ⟨by decide +kernel, by decide +kernel, by decide +kernel⟩, by decide⟩, gw_at (i := 523) (by decide +kernel) rfl, gw_at (i := 524) (by decide +kernel) rfl, TX1, 6, rfl⟩
theorem lmX1_45 : LV RX1 45 2 1 mX1_hasKnot := ⟨⟨gw_at (i := 526) (by decide +kernel) rfl, gw_at (i := 529) (by decide +kernel) rfl, gw_at (i := 62) (by decide +kernel) rfl, ⟨by decide +kernel, by decide +kernel, by decide +kernel⟩, by decide⟩, gw_at (i := 527) (by decide +kernel) rfl, gw_at (i := 528) (by decide +kernel) rfl, TX1, 6, rfl⟩
theorem lmX1_41 : LV RX1 41 1 1 mX1_hasRow := ⟨⟨gw_at (i := 530) (by decide +kernel) rfl, gw_at (i := 533) (by decide +kernel) rfl, gw_at (i := 62) (by decide +kernel) rfl, ⟨by decide +kernel, by decide +kernel, by decide +kernel⟩, by decide⟩, gw_at (i := 531) (by decide +kernel) rfl, gw_at (i := 532) (by decide +kernel) rfl, TX1, 6, rfl⟩
theorem lmX8_77 : LV RX8 77 1 0 mX0_heard := ⟨⟨gw_at (i := 534) (by decide +kernel) rfl, gw_at (i := 513) (by decide +kernel) rfl, gw_at (i := 65) (by decide +kernel) rfl, ⟨by decide +kernel, by decide +kernel, by decide +kernel⟩, by decide⟩, gw_at (i := 511) (by decide +kernel) rfl, gw_at (i := 512) (by decide +kernel) rfl, TX0, 9, rfl⟩
theorem lmL_49 : LV RL 49 1 8 mX8_closes := ⟨⟨gw_at (i := 535) (by decide +kernel) rfl, gw_at (i := 538) (by decide +kernel) rfl, gw_at (i := 60) (by decide +kernel) rfl, ⟨by decide +kernel, by decide +kernel, by decide +kernel⟩, by decide⟩, gw_at (i := 536) (by decide +kernel) rfl, gw_at (i := 537) (by decide +kernel) rfl, TX8, 5, rfl⟩
theorem lmL_53 : LV RL 53 2 8 mX8_mend := ⟨⟨gw_at (i := 539) (by decide +kernel) rfl, gw_at (i := 542) (by decide +kernel) rfl, gw_at (i := 60) (by decide +kernel) rfl, ⟨by decide +kernel, by decide +kernel, by decide +kernel⟩, by decide⟩, gw_at (i := 540) (by decide +kernel) rfl, gw_at (i := 541) (by decide +kernel) rfl, TX8, 5, rfl⟩
theorem lmX8_80 : LV RX8 80 1 0 mX0_findMend := ⟨⟨gw_at (i := 543) (by decide +kernel) rfl, gw_at (i := 546) (by decide +kernel) rfl, gw_at (i := 65) (by decide +kernel) rfl, ⟨by decide +kernel, by decide +kernel, by decide +kernel⟩, by decide⟩, gw_at (i := 544) (by decide +kernel) rfl, gw_at (i := 545) (by decide +kernel) rfl, TX0, 9, rfl⟩
theorem lmX0_130 : LV RX0 130 3 0 mX0_isMendedBy := ⟨⟨gw_at (i := 547) (by decide +kernel) rfl, gw_at (i := 550) (by decide +kernel) rfl, gw_at (i := 65) (by decide +kernel) rfl, ⟨by decide +kernel, by decide +kernel, by decide +kernel⟩, by decide⟩, gw_at (i := 549) (by decide +kernel) rfl, gw_at (i := 13) (by decide +kernel) rfl, TX0, 9, rfl⟩
theorem lmX0_134 : LV RX0 134 2 0 mX0_stepOf := ⟨⟨gw_at (i := 551) (by decide +kernel) rfl, gw_at (i := 554) (by decide +kernel) rfl, gw_at (i := 65) (by decide +kernel) rfl, ⟨by decide +kernel, by decide +kernel, by decide +kernel⟩, by decide⟩, gw_at (i := 552) (by decide +kernel) rfl, gw_at (i := 553) (by decide +kernel) rfl, TX0, 9, rfl⟩
theorem lmX0_138 : LN RX0 138 3 mX8_isWithin := ⟨by decide +kernel, gw_at (i := 407) (by decide +kernel) rfl, gw_at (i := 60) (by decide +kernel) rfl, ⟨by decide +kernel, by decide +kernel, by decide +kernel⟩, by decide⟩
theorem lmL_57 : LV RL 57 1 8 mX8_mended := ⟨⟨gw_at (i := 556) (by decide +kernel) rfl, gw_at (i := 559) (by decide +kernel) rfl, gw_at (i := 60) (by decide +kernel) rfl, ⟨by decide +kernel, by decide +kernel, by decide +kernel⟩, by decide⟩, gw_at (i := 557) (by decide +kernel) rfl, gw_at (i := 558) (by decide +kernel) rfl, TX8, 5, rfl⟩
theorem lmX8_89 : LV RX8 89 1 0 mX0_mendAsFound := ⟨⟨gw_at (i := 560) (by decide +kernel) rfl, gw_at (i := 563) (by decide +kernel) rfl, gw_at (i := 65) (by decide +kernel) rfl, ⟨by decide +kernel, by decide +kernel, by decide +kernel⟩, by decide⟩, gw_at (i := 561) (by decide +kernel) rfl, gw_at (i := 562) (by decide +kernel) rfl, TX0, 9, rfl⟩
theorem lmX0_147 : LV RX0 147 2 0 mX0_hasStep := ⟨⟨gw_at (i := 564) (by decide +kernel) rfl, gw_at (i := 567) (by decide +kernel) rfl, gw_at (i := 65) (by decide +kernel) rfl, ⟨by decide +kernel, by decide +kernel, by decide +kernel⟩, by decide⟩, gw_at (i := 565) (by decide +kernel) rfl, gw_at (i := 566) (by decide +kernel) rfl, TX0, 9, rfl⟩
theorem lmL_61 : LV RL 61 3 8 mX8_told := ⟨⟨gw_at (i := 568) (by decide +kernel) rfl, gw_at (i := 571) (by decide +kernel) rfl, gw_at (i := 60) (by decide +kernel) rfl, ⟨by decide +kernel, by decide +kernel, by decide +kernel⟩, by decide⟩, gw_at (i := 569) (by decide +kernel) rfl, gw_at (i := 570) (by decide +kernel) rfl, TX8, 5, rfl⟩
theorem lmX8_92 : LV RX8 92 2 0 mX0_hasStep := ⟨⟨gw_at (i := 572) (by decide +kernel) rfl, gw_at (i := 567) (by decide +kernel) rfl, gw_at (i := 65) (by decide +kernel) rfl, ⟨by decide +kernel, by decide +kernel, by decide +kernel⟩, by decide⟩, gw_at (i := 565) (by decide +kernel) rfl, gw_at (i := 566) (by decide +kernel) rfl, TX0, 9, rfl⟩
theorem lmX8_96 : LV RX8 96 2 0 mX0_stepOf := ⟨⟨gw_at (i := 573) (by decide +kernel) rfl, gw_at (i := 554) (by decide +kernel) rfl, gw_at (i := 65) (by decide +kernel) rfl, ⟨by decide +kernel, by decide +kernel, by decide +kernel⟩, by decide⟩, gw_at (i := 552) (by decide +kernel) rfl, gw_at (i := 553) (by decide +kernel) rfl, TX0, 9, rfl⟩
theorem lmX8_105 : LV RX8 105 0 5 mX5_hasN := ⟨⟨gw_at (i := 574) (by decide +kernel) rfl, gw_at (i := 577) (by decide +kernel) rfl, gw_at (i := 78) (by decide +kernel) rfl, ⟨by decide +kernel, by decide +kernel, by decide +kernel⟩, by decide⟩, gw_at (i := 575) (by decide +kernel) rfl, gw_at (i := 576) (by decide +kernel) rfl, TX5, 3, rfl⟩
theorem lmX8_112 : LV RX8 112 0 5 mX5_hasColour := ⟨⟨gw_at (i := 578) (by decide +kernel) rfl, gw_at (i := 581) (by decide +kernel) rfl, gw_at (i := 78) (by decide +kernel) rfl, ⟨by decide +kernel, by decide +kernel, by decide +kernel⟩, by decide⟩, gw_at (i := 579) (by decide +kernel) rfl, gw_at (i := 580) (by decide +kernel) rfl, TX5, 3, rfl⟩
theorem lmX8_118 : LV RX8 118 1 0 mX0_endOf := ⟨⟨gw_at (i := 582) (by decide +kernel) rfl, gw_at (i := 585) (by decide +kernel) rfl, gw_at (i := 65) (by decide +kernel) rfl, ⟨by decide +kernel, by decide +kernel, by decide +kernel⟩, by decide⟩, gw_at (i := 583) (by decide +kernel) rfl, gw_at (i := 584) (by decide +kernel) rfl, TX0, 9, rfl⟩
theorem lmL_65 : LV RL 65 3 8 mX8_hand := ⟨⟨gw_at (i := 586) (by decide +kernel) rfl, gw_at (i := 589) (by decide +kernel) rfl, gw_at (i := 60) (by decide +kernel) rfl, ⟨by decide +kernel, by decide +kernel, by decide +kernel⟩, by decide⟩, gw_at (i := 587) (by decide +kernel) rfl, gw_at (i := 588) (by decide +kernel) rfl, TX8, 5, rfl⟩
theorem lmX8_127 : LSt RX8 127 1 mX8_isHand := ⟨⟨gw_at (i := 590) (by decide +kernel) rfl, gw_at (i := 592) (by decide +kernel) rfl, gw_at (i := 60) (by decide +kernel) rfl, ⟨by decide +kernel, by decide +kernel, by decide +kernel⟩, by decide⟩, gw_at (i := 591) (by decide +kernel) rfl⟩
theorem lmX8_133 : LV RX8 133 3 1 mX1_setHand := ⟨⟨gw_at (i := 593) (by decide +kernel) rfl, gw_at (i := 596) (by decide +kernel) rfl, gw_at (i := 62) (by decide +kernel) rfl, ⟨by decide +kernel, by decide +kernel, by decide +kernel⟩, by decide⟩, gw_at (i := 594) (by decide +kernel) rfl, gw_at (i := 595) (by decide +kernel) rfl, TX1, 6, rfl⟩
theorem lmL_69 : LV RL 69 3 8 mX8_dye := ⟨⟨gw_at (i := 597) (by decide +kernel) rfl, gw_at (i := 600) (by decide +kernel) rfl, gw_at (i := 60) (by decide +kernel) rfl, ⟨by decide +kernel, by decide +kernel, by decide +kernel⟩, by decide⟩, gw_at (i := 598) (by decide +kernel) rfl, gw_at (i := 599) (by decide +kernel) rfl, TX8, 5, rfl⟩
theorem lmX8_140 : LV RX8 140 2 7 mX7_addLot := ⟨⟨gw_at (i := 601) (by decide +kernel) rfl, gw_at (i := 604) (by decide +kernel) rfl, gw_at (i := 63) (by decide +kernel) rfl, ⟨by decide +kernel, by decide +kernel, by decide +kernel⟩, by decide⟩, gw_at (i := 602) (by decide +kernel) rfl, gw_at (i := 603) (by decide +kernel) rfl, TX7, 3, rfl⟩
theorem lmL_73 : LV RL 73 1 8 mX8_tie := ⟨⟨gw_at (i := 605) (by decide +kernel) rfl, gw_at (i := 608) (by decide +kernel) rfl, gw_at (i := 60) (by decide +kernel) rfl, ⟨by decide +kernel, by decide +kernel, by decide +kernel⟩, by decide⟩, gw_at (i := 606) (by decide +kernel) rfl, gw_at (i := 607) (by decide +kernel) rfl, TX8, 5, rfl⟩
theorem lmX8_145 : LV RX8 145 1 1 mX1_tieRow := ⟨⟨gw_at (i := 609) (by decide +kernel) rfl, gw_at (i := 612) (by decide +kernel) rfl, gw_at (i := 62) (by decide +kernel) rfl, ⟨by decide +kernel, by decide +kernel, by decide +kernel⟩, by decide⟩, gw_at (i := 610) (by decide +kernel) rfl, gw_at (i := 611) (by decide +kernel) rfl, TX1, 6, rfl⟩
theorem lmX1_53 : LV RX1 53 2 1 mX1_knotsHeard := ⟨⟨gw_at (i := 613) (by decide +kernel) rfl, gw_at (i := 616) (by decide +kernel) rfl, gw_at (i := 62) (by decide +kernel) rfl, ⟨by decide +kernel, by decide +kernel, by decide +kernel⟩, by decide⟩, gw_at (i := 615) (by decide +kernel) rfl, gw_at (i := 14) (by decide +kernel) rfl, TX1, 6, rfl⟩
theorem lmX1_72 : LV RX1 72 1 0 mX0_heard := ⟨⟨gw_at (i := 617) (by decide +kernel) rfl, gw_at (i := 513) (by decide +kernel) rfl, gw_at (i := 65) (by decide +kernel) rfl, ⟨by decide +kernel, by decide +kernel, by decide +kernel⟩, by decide⟩, gw_at (i := 511) (by decide +kernel) rfl, gw_at (i := 512) (by decide +kernel) rfl, TX0, 9, rfl⟩
theorem lmX1_57 : LV RX1 57 0 7 mX7_leftInAll := ⟨⟨gw_at (i := 618) (by decide +kernel) rfl, gw_at (i := 621) (by decide +kernel) rfl, gw_at (i := 63) (by decide +kernel) rfl, ⟨by decide +kernel, by decide +kernel, by decide +kernel⟩, by decide⟩, gw_at (i := 619) (by decide +kernel) rfl, gw_at (i := 620) (by decide +kernel) rfl, TX7, 3, rfl⟩
theorem lmX1_61 : LV RX1 61 2 1 mX1_layColour := ⟨⟨gw_at (i := 622) (by decide +kernel) rfl, gw_at (i := 625) (by decide +kernel) rfl, gw_at (i := 62) (by decide +kernel) rfl, ⟨by decide +kernel, by decide +kernel, by decide +kernel⟩, by decide⟩, gw_at (i := 624) (by decide +kernel) rfl, gw_at (i := 15) (by decide +kernel) rfl, TX1, 6, rfl⟩
theorem lmX1_78 : LV RX1 78 0 7 mX7_take := ⟨⟨gw_at (i := 626) (by decide +kernel) rfl, gw_at (i := 629) (by decide +kernel) rfl, gw_at (i := 63) (by decide +kernel) rfl, ⟨by decide +kernel, by decide +kernel, by decide +kernel⟩, by decide⟩, gw_at (i := 627) (by decide +kernel) rfl, gw_at (i := 628) (by decide +kernel) rfl, TX7, 3, rfl⟩
theorem lmX1_81 : LV RX1 81 1 0 mX0_stepThatCalled := ⟨⟨gw_at (i := 630) (by decide +kernel) rfl, gw_at (i := 633) (by decide +kernel) rfl, gw_at (i := 65) (by decide +kernel) rfl, ⟨by decide +kernel, by decide +kernel, by decide +kernel⟩, by decide⟩, gw_at (i := 631) (by decide +kernel) rfl, gw_at (i := 632) (by decide +kernel) rfl, TX0, 9, rfl⟩
theorem lmX1_84 : LV RX1 84 4 3 mX3_lay := ⟨⟨gw_at (i := 634) (by decide +kernel) rfl, gw_at (i := 637) (by decide +kernel) rfl, gw_at (i := 64) (by decide +kernel) rfl, ⟨by decide +kernel, by decide +kernel, by decide +kernel⟩, by decide⟩, gw_at (i := 635) (by decide +kernel) rfl, gw_at (i := 636) (by decide +kernel) rfl, TX3, 5, rfl⟩
theorem lmX1_65 : LV RX1 65 1 1 mX1_minutesFor := ⟨⟨gw_at (i := 638) (by decide +kernel) rfl, gw_at (i := 641) (by decide +kernel) rfl, gw_at (i := 62) (by decide +kernel) rfl, ⟨by decide +kernel, by decide +kernel, by decide +kernel⟩, by decide⟩, gw_at (i := 640) (by decide +kernel) rfl, gw_at (i := 16) (by decide +kernel) rfl, TX1, 6, rfl⟩
theorem lmX1_88 : LV RX1 88 1 1 mX1_handAt := ⟨⟨gw_at (i := 642) (by decide +kernel) rfl, gw_at (i := 645) (by decide +kernel) rfl, gw_at (i := 62) (by decide +kernel) rfl, ⟨by decide +kernel, by decide +kernel, by decide +kernel⟩, by decide⟩, gw_at (i := 643) (by decide +kernel) rfl, gw_at (i := 644) (by decide +kernel) rfl, TX1, 6, rfl⟩
theorem lmX1_94 : LSt RX1 94 2 mX1_roundedUp := ⟨⟨gw_at (i := 646) (by decide +kernel) rfl, gw_at (i := 648) (by decide +kernel) rfl, gw_at (i := 62) (by decide +kernel) rfl, ⟨by decide +kernel, by decide +kernel, by decide +kernel⟩, by decide⟩, gw_at (i := 647) (by decide +kernel) rfl⟩
theorem lmX1_98 : LSt RX1 98 2 mJ9_max_7cf53 := ⟨⟨gw_at (i := 649) (by decide +kernel) rfl, gw_at (i := 358) (by decide +kernel) rfl, gw_at (i := 61) (by decide +kernel) rfl, ⟨by decide +kernel, by decide +kernel, by decide +kernel⟩, by decide⟩, gw_at (i := 357) (by decide +kernel) rfl⟩
theorem lmL_77 : LV RL 77 2 8 mX8_knot := ⟨⟨gw_at (i := 650) (by decide +kernel) rfl, gw_at (i := 653) (by decide +kernel) rfl, gw_at (i := 60) (by decide +kernel) rfl, ⟨by decide +kernel, by decide +kernel, by decide +kernel⟩, by decide⟩, gw_at (i := 651) (by decide +kernel) rfl, gw_at (i := 652) (by decide +kernel) rfl, TX8, 5, rfl⟩
theorem lmX8_149 : LV RX8 149 2 1 mX1_hasKnot := ⟨⟨gw_at (i := 654) (by decide +kernel) rfl, gw_at (i := 529) (by decide +kernel) rfl, gw_at (i := 62) (by decide +kernel) rfl, ⟨by decide +kernel, by decide +kernel, by decide +kernel⟩, by decide⟩, gw_at (i := 527) (by decide +kernel) rfl, gw_at (i := 528) (by decide +kernel) rfl, TX1, 6, rfl⟩
theorem lmL_81 : LV RL 81 3 8 mX8_look := ⟨⟨gw_at (i := 655) (by decide +kernel) rfl, gw_at (i := 658) (by decide +kernel) rfl, gw_at (i := 60) (by decide +kernel) rfl, ⟨by decide +kernel, by decide +kernel, by decide +kernel⟩, by decide⟩, gw_at (i := 656) (by decide +kernel) rfl, gw_at (i := 657) (by decide +kernel) rfl, TX8, 5, rfl⟩
theorem lmX8_162 : LV RX8 162 1 1 mX1_handAt := ⟨⟨gw_at (i := 659) (by decide +kernel) rfl, gw_at (i := 645) (by decide +kernel) rfl, gw_at (i := 62) (by decide +kernel) rfl, ⟨by decide +kernel, by decide +kernel, by decide +kernel⟩, by decide⟩, gw_at (i := 643) (by decide +kernel) rfl, gw_at (i := 644) (by decide +kernel) rfl, TX1, 6, rfl⟩
theorem lmX8_174 : LV RX8 174 1 3 mX3_isFault := ⟨⟨gw_at (i := 660) (by decide +kernel) rfl, gw_at (i := 663) (by decide +kernel) rfl, gw_at (i := 64) (by decide +kernel) rfl, ⟨by decide +kernel, by decide +kernel, by decide +kernel⟩, by decide⟩, gw_at (i := 661) (by decide +kernel) rfl, gw_at (i := 662) (by decide +kernel) rfl, TX3, 5, rfl⟩
theorem lmL_85 : LV RL 85 3 8 mX8_found := ⟨⟨gw_at (i := 664) (by decide +kernel) rfl, gw_at (i := 667) (by decide +kernel) rfl, gw_at (i := 60) (by decide +kernel) rfl, ⟨by decide +kernel, by decide +kernel, by decide +kernel⟩, by decide⟩, gw_at (i := 665) (by decide +kernel) rfl, gw_at (i := 666) (by decide +kernel) rfl, TX8, 5, rfl⟩
theorem lmL_89 : LV RL 89 0 8 mX8_cut := ⟨⟨gw_at (i := 668) (by decide +kernel) rfl, gw_at (i := 671) (by decide +kernel) rfl, gw_at (i := 60) (by decide +kernel) rfl, ⟨by decide +kernel, by decide +kernel, by decide +kernel⟩, by decide⟩, gw_at (i := 669) (by decide +kernel) rfl, gw_at (i := 670) (by decide +kernel) rfl, TX8, 5, rfl⟩
theorem lmL_93 : LV RL 93 1 8 mX8_minutes := ⟨⟨gw_at (i := 672) (by decide +kernel) rfl, gw_at (i := 675) (by decide +kernel) rfl, gw_at (i := 60) (by decide +kernel) rfl, ⟨by decide +kernel, by decide +kernel, by decide +kernel⟩, by decide⟩, gw_at (i := 673) (by decide +kernel) rfl, gw_at (i := 674) (by decide +kernel) rfl, TX8, 5, rfl⟩
theorem lmX8_177 : LV RX8 177 1 1 mX1_hasRow := ⟨⟨gw_at (i := 676) (by decide +kernel) rfl, gw_at (i := 533) (by decide +kernel) rfl, gw_at (i := 62) (by decide +kernel) rfl, ⟨by decide +kernel, by decide +kernel, by decide +kernel⟩, by decide⟩, gw_at (i := 531) (by decide +kernel) rfl, gw_at (i := 532) (by decide +kernel) rfl, TX1, 6, rfl⟩
theorem lmL_97 : LV RL 97 1 8 mX8_shifts := ⟨⟨gw_at (i := 677) (by decide +kernel) rfl, gw_at (i := 680) (by decide +kernel) rfl, gw_at (i := 60) (by decide +kernel) rfl, ⟨by decide +kernel, by decide +kernel, by decide +kernel⟩, by decide⟩, gw_at (i := 678) (by decide +kernel) rfl, gw_at (i := 679) (by decide +kernel) rfl, TX8, 5, rfl⟩
theorem lmX8_183 : LV RX8 183 1 1 mX1_shiftsInAll := ⟨⟨gw_at (i := 681) (by decide +kernel) rfl, gw_at (i := 684) (by decide +kernel) rfl, gw_at (i := 62) (by decide +kernel) rfl, ⟨by decide +kernel, by decide +kernel, by decide +kernel⟩, by decide⟩, gw_at (i := 682) (by decide +kernel) rfl, gw_at (i := 683) (by decide +kernel) rfl, TX1, 6, rfl⟩
theorem lmX1_103 : LV RX1 103 2 1 mX1_shiftsOf := ⟨⟨gw_at (i := 685) (by decide +kernel) rfl, gw_at (i := 688) (by decide +kernel) rfl, gw_at (i := 62) (by decide +kernel) rfl, ⟨by decide +kernel, by decide +kernel, by decide +kernel⟩, by decide⟩, gw_at (i := 687) (by decide +kernel) rfl, gw_at (i := 17) (by decide +kernel) rfl, TX1, 6, rfl⟩
theorem lmL_101 : LV RL 101 1 8 mX8_wool := ⟨⟨gw_at (i := 689) (by decide +kernel) rfl, gw_at (i := 692) (by decide +kernel) rfl, gw_at (i := 60) (by decide +kernel) rfl, ⟨by decide +kernel, by decide +kernel, by decide +kernel⟩, by decide⟩, gw_at (i := 690) (by decide +kernel) rfl, gw_at (i := 691) (by decide +kernel) rfl, TX8, 5, rfl⟩
theorem lmX8_187 : LV RX8 187 0 7 mX7_leftInAll := ⟨⟨gw_at (i := 693) (by decide +kernel) rfl, gw_at (i := 621) (by decide +kernel) rfl, gw_at (i := 63) (by decide +kernel) rfl, ⟨by decide +kernel, by decide +kernel, by decide +kernel⟩, by decide⟩, gw_at (i := 619) (by decide +kernel) rfl, gw_at (i := 620) (by decide +kernel) rfl, TX7, 3, rfl⟩
theorem lmL_105 : LV RL 105 2 8 mX8_hands := ⟨⟨gw_at (i := 694) (by decide +kernel) rfl, gw_at (i := 697) (by decide +kernel) rfl, gw_at (i := 60) (by decide +kernel) rfl, ⟨by decide +kernel, by decide +kernel, by decide +kernel⟩, by decide⟩, gw_at (i := 695) (by decide +kernel) rfl, gw_at (i := 696) (by decide +kernel) rfl, TX8, 5, rfl⟩
theorem lmX8_190 : LV RX8 190 1 1 mX1_knotsBy := ⟨⟨gw_at (i := 698) (by decide +kernel) rfl, gw_at (i := 701) (by decide +kernel) rfl, gw_at (i := 62) (by decide +kernel) rfl, ⟨by decide +kernel, by decide +kernel, by decide +kernel⟩, by decide⟩, gw_at (i := 699) (by decide +kernel) rfl, gw_at (i := 700) (by decide +kernel) rfl, TX1, 6, rfl⟩
theorem lmX8_193 : LV RX8 193 1 1 mX1_faultsBy := ⟨⟨gw_at (i := 702) (by decide +kernel) rfl, gw_at (i := 705) (by decide +kernel) rfl, gw_at (i := 62) (by decide +kernel) rfl, ⟨by decide +kernel, by decide +kernel, by decide +kernel⟩, by decide⟩, gw_at (i := 703) (by decide +kernel) rfl, gw_at (i := 704) (by decide +kernel) rfl, TX1, 6, rfl⟩
theorem lmX1_110 : LV RX1 110 1 1 mX1_faultsAt := ⟨⟨gw_at (i := 706) (by decide +kernel) rfl, gw_at (i := 709) (by decide +kernel) rfl, gw_at (i := 62) (by decide +kernel) rfl, ⟨by decide +kernel, by decide +kernel, by decide +kernel⟩, by decide⟩, gw_at (i := 708) (by decide +kernel) rfl, gw_at (i := 18) (by decide +kernel) rfl, TX1, 6, rfl⟩
theorem lmX1_113 : LV RX1 113 1 3 mX3_isFault := ⟨⟨gw_at (i := 710) (by decide +kernel) rfl, gw_at (i := 663) (by decide +kernel) rfl, gw_at (i := 64) (by decide +kernel) rfl, ⟨by decide +kernel, by decide +kernel, by decide +kernel⟩, by decide⟩, gw_at (i := 661) (by decide +kernel) rfl, gw_at (i := 662) (by decide +kernel) rfl, TX3, 5, rfl⟩
theorem lmX8_196 : LV RX8 196 1 1 mX1_wagesOf := ⟨⟨gw_at (i := 711) (by decide +kernel) rfl, gw_at (i := 714) (by decide +kernel) rfl, gw_at (i := 62) (by decide +kernel) rfl, ⟨by decide +kernel, by decide +kernel, by decide +kernel⟩, by decide⟩, gw_at (i := 712) (by decide +kernel) rfl, gw_at (i := 713) (by decide +kernel) rfl, TX1, 6, rfl⟩
theorem lmX1_116 : LV RX1 116 1 1 mX1_knotsBy := ⟨⟨gw_at (i := 715) (by decide +kernel) rfl, gw_at (i := 701) (by decide +kernel) rfl, gw_at (i := 62) (by decide +kernel) rfl, ⟨by decide +kernel, by decide +kernel, by decide +kernel⟩, by decide⟩, gw_at (i := 699) (by decide +kernel) rfl, gw_at (i := 700) (by decide +kernel) rfl, TX1, 6, rfl⟩
theorem lmX1_119 : LV RX1 119 1 1 mX1_faultsBy := ⟨⟨gw_at (i := 716) (by decide +kernel) rfl, gw_at (i := 705) (by decide +kernel) rfl, gw_at (i := 62) (by decide +kernel) rfl, ⟨by decide +kernel, by decide +kernel, by decide +kernel⟩, by decide⟩, gw_at (i := 703) (by decide +kernel) rfl, gw_at (i := 704) (by decide +kernel) rfl, TX1, 6, rfl⟩
theorem lmL_109 : LV RL 109 2 8 mX8_unlike := ⟨⟨gw_at (i := 717) (by decide +kernel) rfl, gw_at (i := 720) (by decide +kernel) rfl, gw_at (i := 60) (by decide +kernel) rfl, ⟨by decide +kernel, by decide +kernel, by decide +kernel⟩, by decide⟩, gw_at (i := 718) (by decide +kernel) rfl, gw_at (i := 719) (by decide +kernel) rfl, TX8, 5, rfl⟩
theorem lmX8_199 : LV RX8 199 1 1 mX1_unlikeMirrored := ⟨⟨gw_at (i := 721) (by decide +kernel) rfl, gw_at (i := 724) (by decide +kernel) rfl, gw_at (i := 62) (by decide +kernel) rfl, ⟨by decide +kernel, by decide +kernel, by decide +kernel⟩, by decide⟩, gw_at (i := 722) (by decide +kernel) rfl, gw_at (i := 723) (by decide +kernel) rfl, TX1, 6, rfl⟩
theorem lmX8_202 : LV RX8 202 2 1 mX1_unlikeRows := ⟨⟨gw_at (i := 725) (by decide +kernel) rfl, gw_at (i := 728) (by decide +kernel) rfl, gw_at (i := 62) (by decide +kernel) rfl, ⟨by decide +kernel, by decide +kernel, by decide +kernel⟩, by decide⟩, gw_at (i := 726) (by decide +kernel) rfl, gw_at (i := 727) (by decide +kernel) rfl, TX1, 6, rfl⟩
theorem lmL_113 : LV RL 113 3 8 mX8_side := ⟨⟨gw_at (i := 729) (by decide +kernel) rfl, gw_at (i := 732) (by decide +kernel) rfl, gw_at (i := 60) (by decide +kernel) rfl, ⟨by decide +kernel, by decide +kernel, by decide +kernel⟩, by decide⟩, gw_at (i := 730) (by decide +kernel) rfl, gw_at (i := 731) (by decide +kernel) rfl, TX8, 5, rfl⟩
theorem lmX8_205 : LSt RX8 205 1 mX8_isSide := ⟨⟨gw_at (i := 733) (by decide +kernel) rfl, gw_at (i := 735) (by decide +kernel) rfl, gw_at (i := 60) (by decide +kernel) rfl, ⟨by decide +kernel, by decide +kernel, by decide +kernel⟩, by decide⟩, gw_at (i := 734) (by decide +kernel) rfl⟩
theorem lmX8_208 : LSt RX8 208 2 mX8_areUnits := ⟨⟨gw_at (i := 736) (by decide +kernel) rfl, gw_at (i := 738) (by decide +kernel) rfl, gw_at (i := 60) (by decide +kernel) rfl, ⟨by decide +kernel, by decide +kernel, by decide +kernel⟩, by decide⟩, gw_at (i := 737) (by decide +kernel) rfl⟩
theorem lmX8_211 : LSt RX8 211 3 mX8_wayOf := ⟨⟨gw_at (i := 739) (by decide +kernel) rfl, gw_at (i := 741) (by decide +kernel) rfl, gw_at (i := 60) (by decide +kernel) rfl, ⟨by decide +kernel, by decide +kernel, by decide +kernel⟩, by decide⟩, gw_at (i := 740) (by decide +kernel) rfl⟩
theorem lmX8_309 : LSt RX8 309 2 mJ9_max_7cf53 := ⟨⟨gw_at (i := 742) (by decide +kernel) rfl, gw_at (i := 358) (by decide +kernel) rfl, gw_at (i := 61) (by decide +kernel) rfl, ⟨by decide +kernel, by decide +kernel, by decide +kernel⟩, by decide⟩, gw_at (i := 357) (by decide +kernel) rfl⟩
theorem lmX8_312 : LSt RX8 312 2 mJ9_min_7cf53 := ⟨⟨gw_at (i := 743) (by decide +kernel) rfl, gw_at (i := 391) (by decide +kernel) rfl, gw_at (i := 61) (by decide +kernel) rfl, ⟨by decide +kernel, by decide +kernel, by decide +kernel⟩, by decide⟩, gw_at (i := 390) (by decide +kernel) rfl⟩
theorem lmL_117 : LV RL 117 4 8 mX8_corner := ⟨⟨gw_at (i := 744) (by decide +kernel) rfl, gw_at (i := 747) (by decide +kernel) rfl, gw_at (i := 60) (by decide +kernel) rfl, ⟨by decide +kernel, by decide +kernel, by decide +kernel⟩, by decide⟩, gw_at (i := 745) (by decide +kernel) rfl, gw_at (i := 746) (by decide +kernel) rfl, TX8, 5, rfl⟩
theorem lmX8_214 : LSt RX8 214 2 mX8_meet := ⟨⟨gw_at (i := 748) (by decide +kernel) rfl, gw_at (i := 750) (by decide +kernel) rfl, gw_at (i := 60) (by decide +kernel) rfl, ⟨by decide +kernel, by decide +kernel, by decide +kernel⟩, by decide⟩, gw_at (i := 749) (by decide +kernel) rfl⟩
theorem lmL_122 : LV RL 122 3 8 mX8_fits := ⟨⟨gw_at (i := 751) (by decide +kernel) rfl, gw_at (i := 754) (by decide +kernel) rfl, gw_at (i := 60) (by decide +kernel) rfl, ⟨by decide +kernel, by decide +kernel, by decide +kernel⟩, by decide⟩, gw_at (i := 752) (by decide +kernel) rfl, gw_at (i := 753) (by decide +kernel) rfl, TX8, 5, rfl⟩
theorem lmL_126 : LV RL 126 1 8 mX8_village := ⟨⟨gw_at (i := 755) (by decide +kernel) rfl, gw_at (i := 758) (by decide +kernel) rfl, gw_at (i := 60) (by decide +kernel) rfl, ⟨by decide +kernel, by decide +kernel, by decide +kernel⟩, by decide⟩, gw_at (i := 756) (by decide +kernel) rfl, gw_at (i := 757) (by decide +kernel) rfl, TX8, 5, rfl⟩
theorem lmX8_217 : LV RX8 217 1 6 mX6_add := ⟨⟨gw_at (i := 759) (by decide +kernel) rfl, gw_at (i := 762) (by decide +kernel) rfl, gw_at (i := 69) (by decide +kernel) rfl, ⟨by decide +kernel, by decide +kernel, by decide +kernel⟩, by decide⟩, gw_at (i := 760) (by decide +kernel) rfl, gw_at (i := 761) (by decide +kernel) rfl, TX6, 8, rfl⟩
theorem lmX6_31 : LV RX6 31 0 6 mX6_growTree := ⟨⟨gw_at (i := 763) (by decide +kernel) rfl, gw_at (i := 766) (by decide +kernel) rfl, gw_at (i := 69) (by decide +kernel) rfl, ⟨by decide +kernel, by decide +kernel, by decide +kernel⟩, by decide⟩, gw_at (i := 765) (by decide +kernel) rfl, gw_at (i := 19) (by decide +kernel) rfl, TX6, 8, rfl⟩
theorem lmX6_46 : LV RX6 46 2 6 mX6_apart := ⟨⟨gw_at (i := 767) (by decide +kernel) rfl, gw_at (i := 770) (by decide +kernel) rfl, gw_at (i := 69) (by decide +kernel) rfl, ⟨by decide +kernel, by decide +kernel, by decide +kernel⟩, by decide⟩, gw_at (i := 769) (by decide +kernel) rfl, gw_at (i := 20) (by decide +kernel) rfl, TX6, 8, rfl⟩
theorem lmX6_34 : LSt RX6 34 1 mJ6_bitCount_0f7a4 := ⟨⟨gw_at (i := 771) (by decide +kernel) rfl, gw_at (i := 773) (by decide +kernel) rfl, gw_at (i := 79) (by decide +kernel) rfl, ⟨by decide +kernel, by decide +kernel, by decide +kernel⟩, by decide⟩, gw_at (i := 772) (by decide +kernel) rfl⟩
theorem lkJ6_265 : Cond.constant RJ6 265 1431655765 ∈ gw := gw_at (i := 774) (by decide +kernel) rfl
theorem lkJ6_266 : Cond.constant RJ6 266 858993459 ∈ gw := gw_at (i := 775) (by decide +kernel) rfl
theorem lkJ6_267 : Cond.constant RJ6 267 252645135 ∈ gw := gw_at (i := 776) (by decide +kernel) rfl
theorem lmX6_50 : LV RX6 50 2 6 mX6_join := ⟨⟨gw_at (i := 777) (by decide +kernel) rfl, gw_at (i := 780) (by decide +kernel) rfl, gw_at (i := 69) (by decide +kernel) rfl, ⟨by decide +kernel, by decide +kernel, by decide +kernel⟩, by decide⟩, gw_at (i := 779) (by decide +kernel) rfl, gw_at (i := 21) (by decide +kernel) rfl, TX6, 8, rfl⟩
theorem lmL_130 : LV RL 130 0 8 mX8_tree := ⟨⟨gw_at (i := 781) (by decide +kernel) rfl, gw_at (i := 784) (by decide +kernel) rfl, gw_at (i := 60) (by decide +kernel) rfl, ⟨by decide +kernel, by decide +kernel, by decide +kernel⟩, by decide⟩, gw_at (i := 782) (by decide +kernel) rfl, gw_at (i := 783) (by decide +kernel) rfl, TX8, 5, rfl⟩
theorem lmL_134 : LV RL 134 1 8 mX8_link := ⟨⟨gw_at (i := 785) (by decide +kernel) rfl, gw_at (i := 788) (by decide +kernel) rfl, gw_at (i := 60) (by decide +kernel) rfl, ⟨by decide +kernel, by decide +kernel, by decide +kernel⟩, by decide⟩, gw_at (i := 786) (by decide +kernel) rfl, gw_at (i := 787) (by decide +kernel) rfl, TX8, 5, rfl⟩
theorem lmL_138 : LV RL 138 0 8 mX8_rivals := ⟨⟨gw_at (i := 789) (by decide +kernel) rfl, gw_at (i := 792) (by decide +kernel) rfl, gw_at (i := 60) (by decide +kernel) rfl, ⟨by decide +kernel, by decide +kernel, by decide +kernel⟩, by decide⟩, gw_at (i := 790) (by decide +kernel) rfl, gw_at (i := 791) (by decide +kernel) rfl, TX8, 5, rfl⟩
theorem lmX8_233 : LV RX8 233 0 6 mX6_rivalTrees := ⟨⟨gw_at (i := 793) (by decide +kernel) rfl, gw_at (i := 796) (by decide +kernel) rfl, gw_at (i := 69) (by decide +kernel) rfl, ⟨by decide +kernel, by decide +kernel, by decide +kernel⟩, by decide⟩, gw_at (i := 794) (by decide +kernel) rfl, gw_at (i := 795) (by decide +kernel) rfl, TX6, 8, rfl⟩
theorem lmX6_54 : LSt RX6 54 2 mJ9_min_7cf53 := ⟨⟨gw_at (i := 797) (by decide +kernel) rfl, gw_at (i := 391) (by decide +kernel) rfl, gw_at (i := 61) (by decide +kernel) rfl, ⟨by decide +kernel, by decide +kernel, by decide +kernel⟩, by decide⟩, gw_at (i := 390) (by decide +kernel) rfl⟩
theorem lmX6_59 : LSt RX6 59 1 mX6_firstOf := ⟨⟨gw_at (i := 798) (by decide +kernel) rfl, gw_at (i := 800) (by decide +kernel) rfl, gw_at (i := 69) (by decide +kernel) rfl, ⟨by decide +kernel, by decide +kernel, by decide +kernel⟩, by decide⟩, gw_at (i := 799) (by decide +kernel) rfl⟩
theorem lmX6_62 : LV RX6 62 2 6 mX6_splitSet := ⟨⟨gw_at (i := 801) (by decide +kernel) rfl, gw_at (i := 804) (by decide +kernel) rfl, gw_at (i := 69) (by decide +kernel) rfl, ⟨by decide +kernel, by decide +kernel, by decide +kernel⟩, by decide⟩, gw_at (i := 803) (by decide +kernel) rfl, gw_at (i := 22) (by decide +kernel) rfl, TX6, 8, rfl⟩
theorem lmX6_65 : LV RX6 65 3 6 mX6_linkBranch := ⟨⟨gw_at (i := 805) (by decide +kernel) rfl, gw_at (i := 808) (by decide +kernel) rfl, gw_at (i := 69) (by decide +kernel) rfl, ⟨by decide +kernel, by decide +kernel, by decide +kernel⟩, by decide⟩, gw_at (i := 807) (by decide +kernel) rfl, gw_at (i := 23) (by decide +kernel) rfl, TX6, 8, rfl⟩
theorem lmX6_69 : LV RX6 69 3 6 mX6_addTrees := ⟨⟨gw_at (i := 809) (by decide +kernel) rfl, gw_at (i := 812) (by decide +kernel) rfl, gw_at (i := 69) (by decide +kernel) rfl, ⟨by decide +kernel, by decide +kernel, by decide +kernel⟩, by decide⟩, gw_at (i := 811) (by decide +kernel) rfl, gw_at (i := 24) (by decide +kernel) rfl, TX6, 8, rfl⟩
theorem lmL_142 : LV RL 142 1 8 mX8_count := ⟨⟨gw_at (i := 813) (by decide +kernel) rfl, gw_at (i := 816) (by decide +kernel) rfl, gw_at (i := 60) (by decide +kernel) rfl, ⟨by decide +kernel, by decide +kernel, by decide +kernel⟩, by decide⟩, gw_at (i := 814) (by decide +kernel) rfl, gw_at (i := 815) (by decide +kernel) rfl, TX8, 5, rfl⟩
theorem lmX8_236 : LV RX8 236 0 1 mX1_faultsInAll := ⟨⟨gw_at (i := 817) (by decide +kernel) rfl, gw_at (i := 820) (by decide +kernel) rfl, gw_at (i := 62) (by decide +kernel) rfl, ⟨by decide +kernel, by decide +kernel, by decide +kernel⟩, by decide⟩, gw_at (i := 818) (by decide +kernel) rfl, gw_at (i := 819) (by decide +kernel) rfl, TX1, 6, rfl⟩
theorem lmX8_239 : LV RX8 239 0 1 mX1_minutesInAll := ⟨⟨gw_at (i := 821) (by decide +kernel) rfl, gw_at (i := 824) (by decide +kernel) rfl, gw_at (i := 62) (by decide +kernel) rfl, ⟨by decide +kernel, by decide +kernel, by decide +kernel⟩, by decide⟩, gw_at (i := 822) (by decide +kernel) rfl, gw_at (i := 823) (by decide +kernel) rfl, TX1, 6, rfl⟩
theorem lmL_146 : LV RL 146 4 8 mX8_keep := ⟨⟨gw_at (i := 825) (by decide +kernel) rfl, gw_at (i := 828) (by decide +kernel) rfl, gw_at (i := 60) (by decide +kernel) rfl, ⟨by decide +kernel, by decide +kernel, by decide +kernel⟩, by decide⟩, gw_at (i := 826) (by decide +kernel) rfl, gw_at (i := 827) (by decide +kernel) rfl, TX8, 5, rfl⟩
theorem lmX8_242 : LSt RX8 242 1 mX8_isShelf := ⟨⟨gw_at (i := 829) (by decide +kernel) rfl, gw_at (i := 831) (by decide +kernel) rfl, gw_at (i := 60) (by decide +kernel) rfl, ⟨by decide +kernel, by decide +kernel, by decide +kernel⟩, by decide⟩, gw_at (i := 830) (by decide +kernel) rfl⟩
theorem lmX8_245 : LV RX8 245 0 4 mX4_holdNothing := ⟨⟨gw_at (i := 832) (by decide +kernel) rfl, gw_at (i := 835) (by decide +kernel) rfl, gw_at (i := 70) (by decide +kernel) rfl, ⟨by decide +kernel, by decide +kernel, by decide +kernel⟩, by decide⟩, gw_at (i := 833) (by decide +kernel) rfl, gw_at (i := 834) (by decide +kernel) rfl, TX4, 4, rfl⟩
theorem lmX8_248 : LV RX8 248 3 8 mX8_keepStep := ⟨⟨gw_at (i := 836) (by decide +kernel) rfl, gw_at (i := 839) (by decide +kernel) rfl, gw_at (i := 60) (by decide +kernel) rfl, ⟨by decide +kernel, by decide +kernel, by decide +kernel⟩, by decide⟩, gw_at (i := 838) (by decide +kernel) rfl, gw_at (i := 25) (by decide +kernel) rfl, TX8, 5, rfl⟩
theorem lnX8_101 : GN RX8 101 5 [.int 0, .int 0, .int 0] := ⟨RX5, TX5, 3, tyX5, rfl, inX5_g, tyX5_ok, gw_at (i := 840) (by decide +kernel) rfl, gw_at (i := 438) (by decide +kernel) rfl, gw_at (i := 78) (by decide +kernel) rfl, rfl, fun g j hj => by rcases (show j = 0 ∨ j = 1 ∨ j = 2 by omega) with rfl | rfl | rfl <;> rfl⟩
theorem lcX8_101 : Cond.classLink RX8 101 RX5 ∈ gw := gw_at (i := 840) (by decide +kernel) rfl
theorem lmX8_315 : LI RX8 315 3 mX5_init := ⟨⟨gw_at (i := 841) (by decide +kernel) rfl, gw_at (i := 441) (by decide +kernel) rfl, gw_at (i := 78) (by decide +kernel) rfl, ⟨by decide +kernel, by decide +kernel, by decide +kernel⟩, by decide⟩, gw_at (i := 440) (by decide +kernel) rfl, rfl, rfl⟩
theorem lmX8_318 : LV RX8 318 1 4 mX4_holdStep := ⟨⟨gw_at (i := 842) (by decide +kernel) rfl, gw_at (i := 845) (by decide +kernel) rfl, gw_at (i := 70) (by decide +kernel) rfl, ⟨by decide +kernel, by decide +kernel, by decide +kernel⟩, by decide⟩, gw_at (i := 843) (by decide +kernel) rfl, gw_at (i := 844) (by decide +kernel) rfl, TX4, 4, rfl⟩
theorem lmX8_252 : LV RX8 252 2 8 mX8_keepColours := ⟨⟨gw_at (i := 846) (by decide +kernel) rfl, gw_at (i := 849) (by decide +kernel) rfl, gw_at (i := 60) (by decide +kernel) rfl, ⟨by decide +kernel, by decide +kernel, by decide +kernel⟩, by decide⟩, gw_at (i := 848) (by decide +kernel) rfl, gw_at (i := 26) (by decide +kernel) rfl, TX8, 5, rfl⟩
theorem lmX8_260 : LV RX8 260 2 4 mX4_holdZeros := ⟨⟨gw_at (i := 850) (by decide +kernel) rfl, gw_at (i := 853) (by decide +kernel) rfl, gw_at (i := 70) (by decide +kernel) rfl, ⟨by decide +kernel, by decide +kernel, by decide +kernel⟩, by decide⟩, gw_at (i := 851) (by decide +kernel) rfl, gw_at (i := 852) (by decide +kernel) rfl, TX4, 4, rfl⟩
theorem lmX4_26 : LSt RX4 26 2 mJ9_min_7cf53 := ⟨⟨gw_at (i := 854) (by decide +kernel) rfl, gw_at (i := 391) (by decide +kernel) rfl, gw_at (i := 61) (by decide +kernel) rfl, ⟨by decide +kernel, by decide +kernel, by decide +kernel⟩, by decide⟩, gw_at (i := 390) (by decide +kernel) rfl⟩
theorem lmX4_32 : LSt RX4 32 2 mJ9_max_7cf53 := ⟨⟨gw_at (i := 855) (by decide +kernel) rfl, gw_at (i := 358) (by decide +kernel) rfl, gw_at (i := 61) (by decide +kernel) rfl, ⟨by decide +kernel, by decide +kernel, by decide +kernel⟩, by decide⟩, gw_at (i := 357) (by decide +kernel) rfl⟩
theorem lmX8_256 : LV RX8 256 1 8 mX8_keepMinutes := ⟨⟨gw_at (i := 856) (by decide +kernel) rfl, gw_at (i := 859) (by decide +kernel) rfl, gw_at (i := 60) (by decide +kernel) rfl, ⟨by decide +kernel, by decide +kernel, by decide +kernel⟩, by decide⟩, gw_at (i := 858) (by decide +kernel) rfl, gw_at (i := 27) (by decide +kernel) rfl, TX8, 5, rfl⟩
theorem lmL_150 : LV RL 150 3 8 mX8_make := ⟨⟨gw_at (i := 860) (by decide +kernel) rfl, gw_at (i := 863) (by decide +kernel) rfl, gw_at (i := 60) (by decide +kernel) rfl, ⟨by decide +kernel, by decide +kernel, by decide +kernel⟩, by decide⟩, gw_at (i := 861) (by decide +kernel) rfl, gw_at (i := 862) (by decide +kernel) rfl, TX8, 5, rfl⟩
theorem lmL_161 : LV RL 161 5 8 mX8_copy := ⟨⟨gw_at (i := 864) (by decide +kernel) rfl, gw_at (i := 867) (by decide +kernel) rfl, gw_at (i := 60) (by decide +kernel) rfl, ⟨by decide +kernel, by decide +kernel, by decide +kernel⟩, by decide⟩, gw_at (i := 865) (by decide +kernel) rfl, gw_at (i := 866) (by decide +kernel) rfl, TX8, 5, rfl⟩
theorem lmX8_271 : LV RX8 271 0 4 mX4_holdsRow := ⟨⟨gw_at (i := 868) (by decide +kernel) rfl, gw_at (i := 871) (by decide +kernel) rfl, gw_at (i := 70) (by decide +kernel) rfl, ⟨by decide +kernel, by decide +kernel, by decide +kernel⟩, by decide⟩, gw_at (i := 869) (by decide +kernel) rfl, gw_at (i := 870) (by decide +kernel) rfl, TX4, 4, rfl⟩
theorem lmX8_287 : LV RX8 287 2 4 mX4_hasPlaces := ⟨⟨gw_at (i := 872) (by decide +kernel) rfl, gw_at (i := 875) (by decide +kernel) rfl, gw_at (i := 70) (by decide +kernel) rfl, ⟨by decide +kernel, by decide +kernel, by decide +kernel⟩, by decide⟩, gw_at (i := 873) (by decide +kernel) rfl, gw_at (i := 874) (by decide +kernel) rfl, TX4, 4, rfl⟩
theorem lmL_166 : LV RL 166 1 8 mX8_weight := ⟨⟨gw_at (i := 877) (by decide +kernel) rfl, gw_at (i := 880) (by decide +kernel) rfl, gw_at (i := 60) (by decide +kernel) rfl, ⟨by decide +kernel, by decide +kernel, by decide +kernel⟩, by decide⟩, gw_at (i := 878) (by decide +kernel) rfl, gw_at (i := 879) (by decide +kernel) rfl, TX8, 5, rfl⟩
theorem lmX8_296 : LV RX8 296 1 8 mX8_stepOn := ⟨⟨gw_at (i := 881) (by decide +kernel) rfl, gw_at (i := 884) (by decide +kernel) rfl, gw_at (i := 60) (by decide +kernel) rfl, ⟨by decide +kernel, by decide +kernel, by decide +kernel⟩, by decide⟩, gw_at (i := 883) (by decide +kernel) rfl, gw_at (i := 28) (by decide +kernel) rfl, TX8, 5, rfl⟩
theorem lmX8_300 : LV RX8 300 1 8 mX8_whyNoStepOn := ⟨⟨gw_at (i := 885) (by decide +kernel) rfl, gw_at (i := 888) (by decide +kernel) rfl, gw_at (i := 60) (by decide +kernel) rfl, ⟨by decide +kernel, by decide +kernel, by decide +kernel⟩, by decide⟩, gw_at (i := 887) (by decide +kernel) rfl, gw_at (i := 29) (by decide +kernel) rfl, TX8, 5, rfl⟩
theorem lmX8_303 : LV RX8 303 0 5 mX5_heft := ⟨⟨gw_at (i := 889) (by decide +kernel) rfl, gw_at (i := 892) (by decide +kernel) rfl, gw_at (i := 78) (by decide +kernel) rfl, ⟨by decide +kernel, by decide +kernel, by decide +kernel⟩, by decide⟩, gw_at (i := 890) (by decide +kernel) rfl, gw_at (i := 891) (by decide +kernel) rfl, TX5, 3, rfl⟩
theorem lmX5_21 : LV RX5 21 0 5 mX5_hasColour := ⟨⟨gw_at (i := 893) (by decide +kernel) rfl, gw_at (i := 581) (by decide +kernel) rfl, gw_at (i := 78) (by decide +kernel) rfl, ⟨by decide +kernel, by decide +kernel, by decide +kernel⟩, by decide⟩, gw_at (i := 579) (by decide +kernel) rfl, gw_at (i := 580) (by decide +kernel) rfl, TX5, 3, rfl⟩
theorem lmX5_25 : LV RX5 25 0 5 mX5_hasN := ⟨⟨gw_at (i := 894) (by decide +kernel) rfl, gw_at (i := 577) (by decide +kernel) rfl, gw_at (i := 78) (by decide +kernel) rfl, ⟨by decide +kernel, by decide +kernel, by decide +kernel⟩, by decide⟩, gw_at (i := 575) (by decide +kernel) rfl, gw_at (i := 576) (by decide +kernel) rfl, TX5, 3, rfl⟩
theorem lcX8_277 : Cond.classLink RX8 277 "java/lang/IllegalStateException" ∈ gw := gw_at (i := 899) (by decide +kernel) rfl
theorem lmX8_306 : LV RX8 306 0 5 mX5_fail := ⟨⟨gw_at (i := 900) (by decide +kernel) rfl, gw_at (i := 903) (by decide +kernel) rfl, gw_at (i := 78) (by decide +kernel) rfl, ⟨by decide +kernel, by decide +kernel, by decide +kernel⟩, by decide⟩, gw_at (i := 901) (by decide +kernel) rfl, gw_at (i := 902) (by decide +kernel) rfl, TX5, 3, rfl⟩
theorem lcX5_28 : Cond.classLink RX5 28 "java/lang/IllegalStateException" ∈ gw := gw_at (i := 904) (by decide +kernel) rfl
theorem lmL_17 : LSt RL 17 2 mL_cell := ⟨⟨gw_at (i := 970) (by decide +kernel) rfl, gw_at (i := 972) (by decide +kernel) rfl, gw_at (i := 59) (by decide +kernel) rfl, ⟨by decide +kernel, by decide +kernel, by decide +kernel⟩, by decide⟩, gw_at (i := 971) (by decide +kernel) rfl⟩
theorem lcL_13 : Cond.classLink RL 13 "java/lang/IllegalArgumentException" ∈ gw := gw_at (i := 976) (by decide +kernel) rfl
theorem lcL_15 : Cond.classLink RL 15 "java/lang/IllegalStateException" ∈ gw := gw_at (i := 977) (by decide +kernel) rfl
theorem lmL_7 : LV RL 7 2 8 mX8_element := ⟨⟨gw_at (i := 978) (by decide +kernel) rfl, gw_at (i := 981) (by decide +kernel) rfl, gw_at (i := 60) (by decide +kernel) rfl, ⟨by decide +kernel, by decide +kernel, by decide +kernel⟩, by decide⟩, gw_at (i := 979) (by decide +kernel) rfl, gw_at (i := 980) (by decide +kernel) rfl, TX8, 5, rfl⟩
theorem lcX8_264 : Cond.classLink RX8 264 "java/lang/IllegalArgumentException" ∈ gw := gw_at (i := 982) (by decide +kernel) rfl
theorem lmL_158 : LV RL 158 0 9 mX9_thrown := ⟨⟨gw_at (i := 1000) (by decide +kernel) rfl, gw_at (i := 1003) (by decide +kernel) rfl, gw_at (i := 71) (by decide +kernel) rfl, ⟨by decide +kernel, by decide +kernel, by decide +kernel⟩, by decide⟩, gw_at (i := 1001) (by decide +kernel) rfl, gw_at (i := 1002) (by decide +kernel) rfl, TX9, 42, rfl⟩
theorem lnL_26 : GN RL 26 9 [.int 0, .int 0, .int 0, .null, .null, .null, .null, .null, .null, .null, .null, .null, .null, .int 0, .int 0, .int 0, .null, .null, .null, .null, .null, .int 0, .null, .null, .null, .null, .null, .int 0, .int 0, .int 0, .null, .null, .null, .null, .null, .null, .null, .null, .null, .null, .null, .null] := ⟨RX9, TX9, 42, tyX9, rfl, inX9_g, tyX9_ok, gw_at (i := 1004) (by decide +kernel) rfl, gw_at (i := 1005) (by decide +kernel) rfl, gw_at (i := 71) (by decide +kernel) rfl, rfl, fun g => by
  have hh : ∀ j : Fin 42, defaultValue (tyX9 j) = ([.int 0, .int 0, .int 0, .null, .null, .null, .null, .null, .null, .null, .null, .null, .null, .int 0, .int 0, .int 0, .null, .null, .null, .null, .null, .int 0, .null, .null, .null, .null, .null, .int 0, .int 0, .int 0, .null, .null, .null, .null, .null, .null, .null, .null, .null, .null, .null, .null] : List Value).getD j .null := by decide +kernel
  intro j hj
  have h1 := hh ⟨j, hj⟩
  have h2 : ∀ j : Fin 42, vp_V (([.int 0, .int 0, .int 0, .null, .null, .null, .null, .null, .null, .null, .null, .null, .null, .int 0, .int 0, .int 0, .null, .null, .null, .null, .null, .int 0, .null, .null, .null, .null, .null, .int 0, .int 0, .int 0, .null, .null, .null, .null, .null, .null, .null, .null, .null, .null, .null, .null] : List Value).map (cv g)) j = ([.int 0, .int 0, .int 0, .null, .null, .null, .null, .null, .null, .null, .null, .null, .null, .int 0, .int 0, .int 0, .null, .null, .null, .null, .null, .int 0, .null, .null, .null, .null, .null, .int 0, .int 0, .int 0, .null, .null, .null, .null, .null, .null, .null, .null, .null, .null, .null, .null] : List Value).getD j .null := by
    intro j
    obtain ⟨j, hj⟩ := j
    rcases (show j = 0 ∨ j = 1 ∨ j = 2 ∨ j = 3 ∨ j = 4 ∨ j = 5 ∨ j = 6 ∨ j = 7 ∨ j = 8 ∨ j = 9 ∨ j = 10 ∨ j = 11 ∨ j = 12 ∨ j = 13 ∨ j = 14 ∨ j = 15 ∨ j = 16 ∨ j = 17 ∨ j = 18 ∨ j = 19 ∨ j = 20 ∨ j = 21 ∨ j = 22 ∨ j = 23 ∨ j = 24 ∨ j = 25 ∨ j = 26 ∨ j = 27 ∨ j = 28 ∨ j = 29 ∨ j = 30 ∨ j = 31 ∨ j = 32 ∨ j = 33 ∨ j = 34 ∨ j = 35 ∨ j = 36 ∨ j = 37 ∨ j = 38 ∨ j = 39 ∨ j = 40 ∨ j = 41 by omega) with rfl | rfl | rfl | rfl | rfl | rfl | rfl | rfl | rfl | rfl | rfl | rfl | rfl | rfl | rfl | rfl | rfl | rfl | rfl | rfl | rfl | rfl | rfl | rfl | rfl | rfl | rfl | rfl | rfl | rfl | rfl | rfl | rfl | rfl | rfl | rfl | rfl | rfl | rfl | rfl | rfl | rfl <;> rfl
  exact h1.trans (h2 ⟨j, hj⟩).symm⟩
theorem lcL_26 : Cond.classLink RL 26 RX9 ∈ gw := gw_at (i := 1004) (by decide +kernel) rfl
theorem lmL_28 : LI RL 28 1 mX9_init := ⟨⟨gw_at (i := 1006) (by decide +kernel) rfl, gw_at (i := 1008) (by decide +kernel) rfl, gw_at (i := 71) (by decide +kernel) rfl, ⟨by decide +kernel, by decide +kernel, by decide +kernel⟩, by decide⟩, gw_at (i := 1007) (by decide +kernel) rfl, rfl, rfl⟩
theorem lfX9_1 : GF RX9 1 9 0 := ⟨RX9, TX9, 42, RX9, rfl, by decide, inX9_g, gw_at (i := 1010) (by decide +kernel) rfl, Or.inl rfl⟩
theorem lfX9_134 : GF RX9 134 9 1 := ⟨RX9, TX9, 42, RX9, rfl, by decide, inX9_g, gw_at (i := 1011) (by decide +kernel) rfl, Or.inl rfl⟩
theorem lfX9_13 : GF RX9 13 9 2 := ⟨RX9, TX9, 42, RX9, rfl, by decide, inX9_g, gw_at (i := 1012) (by decide +kernel) rfl, Or.inl rfl⟩
theorem lfX9_16 : GF RX9 16 9 3 := ⟨RX9, TX9, 42, RX9, rfl, by decide, inX9_g, gw_at (i := 1013) (by decide +kernel) rfl, Or.inl rfl⟩
theorem lfX9_20 : GF RX9 20 9 4 := ⟨RX9, TX9, 42, RX9, rfl, by decide, inX9_g, gw_at (i := 1014) (by decide +kernel) rfl, Or.inl rfl⟩
theorem lfX9_23 : GF RX9 23 9 5 := ⟨RX9, TX9, 42, RX9, rfl, by decide, inX9_g, gw_at (i := 1015) (by decide +kernel) rfl, Or.inl rfl⟩
theorem lfX9_26 : GF RX9 26 9 6 := ⟨RX9, TX9, 42, RX9, rfl, by decide, inX9_g, gw_at (i := 1016) (by decide +kernel) rfl, Or.inl rfl⟩
theorem lfX9_29 : GF RX9 29 9 7 := ⟨RX9, TX9, 42, RX9, rfl, by decide, inX9_g, gw_at (i := 1017) (by decide +kernel) rfl, Or.inl rfl⟩
theorem lfX9_32 : GF RX9 32 9 8 := ⟨RX9, TX9, 42, RX9, rfl, by decide, inX9_g, gw_at (i := 1018) (by decide +kernel) rfl, Or.inl rfl⟩
theorem lfX9_35 : GF RX9 35 9 9 := ⟨RX9, TX9, 42, RX9, rfl, by decide, inX9_g, gw_at (i := 1019) (by decide +kernel) rfl, Or.inl rfl⟩
theorem lfX9_38 : GF RX9 38 9 10 := ⟨RX9, TX9, 42, RX9, rfl, by decide, inX9_g, gw_at (i := 1020) (by decide +kernel) rfl, Or.inl rfl⟩
theorem lfX9_41 : GF RX9 41 9 11 := ⟨RX9, TX9, 42, RX9, rfl, by decide, inX9_g, gw_at (i := 1021) (by decide +kernel) rfl, Or.inl rfl⟩
theorem lfX9_44 : GF RX9 44 9 12 := ⟨RX9, TX9, 42, RX9, rfl, by decide, inX9_g, gw_at (i := 1022) (by decide +kernel) rfl, Or.inl rfl⟩
theorem lfX9_47 : GF RX9 47 9 13 := ⟨RX9, TX9, 42, RX9, rfl, by decide, inX9_g, gw_at (i := 1023) (by decide +kernel) rfl, Or.inl rfl⟩
theorem lfX9_50 : GF RX9 50 9 14 := ⟨RX9, TX9, 42, RX9, rfl, by decide, inX9_g, gw_at (i := 1024) (by decide +kernel) rfl, Or.inl rfl⟩
theorem lfX9_53 : GF RX9 53 9 15 := ⟨RX9, TX9, 42, RX9, rfl, by decide, inX9_g, gw_at (i := 1025) (by decide +kernel) rfl, Or.inl rfl⟩
theorem lfX9_56 : GF RX9 56 9 16 := ⟨RX9, TX9, 42, RX9, rfl, by decide, inX9_g, gw_at (i := 1026) (by decide +kernel) rfl, Or.inl rfl⟩
theorem lfX9_59 : GF RX9 59 9 17 := ⟨RX9, TX9, 42, RX9, rfl, by decide, inX9_g, gw_at (i := 1027) (by decide +kernel) rfl, Or.inl rfl⟩
theorem lfX9_62 : GF RX9 62 9 18 := ⟨RX9, TX9, 42, RX9, rfl, by decide, inX9_g, gw_at (i := 1028) (by decide +kernel) rfl, Or.inl rfl⟩
theorem lfX9_65 : GF RX9 65 9 19 := ⟨RX9, TX9, 42, RX9, rfl, by decide, inX9_g, gw_at (i := 1029) (by decide +kernel) rfl, Or.inl rfl⟩
theorem lfX9_68 : GF RX9 68 9 20 := ⟨RX9, TX9, 42, RX9, rfl, by decide, inX9_g, gw_at (i := 1030) (by decide +kernel) rfl, Or.inl rfl⟩
theorem lfX9_71 : GF RX9 71 9 21 := ⟨RX9, TX9, 42, RX9, rfl, by decide, inX9_g, gw_at (i := 1031) (by decide +kernel) rfl, Or.inl rfl⟩
theorem lfX9_74 : GF RX9 74 9 22 := ⟨RX9, TX9, 42, RX9, rfl, by decide, inX9_g, gw_at (i := 1032) (by decide +kernel) rfl, Or.inl rfl⟩
theorem lfX9_77 : GF RX9 77 9 23 := ⟨RX9, TX9, 42, RX9, rfl, by decide, inX9_g, gw_at (i := 1033) (by decide +kernel) rfl, Or.inl rfl⟩
theorem lfX9_80 : GF RX9 80 9 24 := ⟨RX9, TX9, 42, RX9, rfl, by decide, inX9_g, gw_at (i := 1034) (by decide +kernel) rfl, Or.inl rfl⟩
theorem lfX9_83 : GF RX9 83 9 25 := ⟨RX9, TX9, 42, RX9, rfl, by decide, inX9_g, gw_at (i := 1035) (by decide +kernel) rfl, Or.inl rfl⟩
theorem lfX9_86 : GF RX9 86 9 26 := ⟨RX9, TX9, 42, RX9, rfl, by decide, inX9_g, gw_at (i := 1036) (by decide +kernel) rfl, Or.inl rfl⟩
theorem lfX9_89 : GF RX9 89 9 27 := ⟨RX9, TX9, 42, RX9, rfl, by decide, inX9_g, gw_at (i := 1037) (by decide +kernel) rfl, Or.inl rfl⟩
theorem lfX9_92 : GF RX9 92 9 28 := ⟨RX9, TX9, 42, RX9, rfl, by decide, inX9_g, gw_at (i := 1038) (by decide +kernel) rfl, Or.inl rfl⟩
theorem lfX9_95 : GF RX9 95 9 29 := ⟨RX9, TX9, 42, RX9, rfl, by decide, inX9_g, gw_at (i := 1039) (by decide +kernel) rfl, Or.inl rfl⟩
theorem lfX9_98 : GF RX9 98 9 30 := ⟨RX9, TX9, 42, RX9, rfl, by decide, inX9_g, gw_at (i := 1040) (by decide +kernel) rfl, Or.inl rfl⟩
theorem lfX9_101 : GF RX9 101 9 31 := ⟨RX9, TX9, 42, RX9, rfl, by decide, inX9_g, gw_at (i := 1041) (by decide +kernel) rfl, Or.inl rfl⟩
theorem lfX9_104 : GF RX9 104 9 32 := ⟨RX9, TX9, 42, RX9, rfl, by decide, inX9_g, gw_at (i := 1042) (by decide +kernel) rfl, Or.inl rfl⟩
theorem lfX9_107 : GF RX9 107 9 33 := ⟨RX9, TX9, 42, RX9, rfl, by decide, inX9_g, gw_at (i := 1043) (by decide +kernel) rfl, Or.inl rfl⟩
theorem lfX9_110 : GF RX9 110 9 34 := ⟨RX9, TX9, 42, RX9, rfl, by decide, inX9_g, gw_at (i := 1044) (by decide +kernel) rfl, Or.inl rfl⟩
theorem lfX9_113 : GF RX9 113 9 35 := ⟨RX9, TX9, 42, RX9, rfl, by decide, inX9_g, gw_at (i := 1045) (by decide +kernel) rfl, Or.inl rfl⟩
theorem lfX9_116 : GF RX9 116 9 36 := ⟨RX9, TX9, 42, RX9, rfl, by decide, inX9_g, gw_at (i := 1046) (by decide +kernel) rfl, Or.inl rfl⟩
theorem lfX9_119 : GF RX9 119 9 37 := ⟨RX9, TX9, 42, RX9, rfl, by decide, inX9_g, gw_at (i := 1047) (by decide +kernel) rfl, Or.inl rfl⟩
theorem lfX9_122 : GF RX9 122 9 38 := ⟨RX9, TX9, 42, RX9, rfl, by decide, inX9_g, gw_at (i := 1048) (by decide +kernel) rfl, Or.inl rfl⟩
theorem lfX9_125 : GF RX9 125 9 39 := ⟨RX9, TX9, 42, RX9, rfl, by decide, inX9_g, gw_at (i := 1049) (by decide +kernel) rfl, Or.inl rfl⟩
theorem lfX9_128 : GF RX9 128 9 40 := ⟨RX9, TX9, 42, RX9, rfl, by decide, inX9_g, gw_at (i := 1050) (by decide +kernel) rfl, Or.inl rfl⟩
theorem lfX9_131 : GF RX9 131 9 41 := ⟨RX9, TX9, 42, RX9, rfl, by decide, inX9_g, gw_at (i := 1051) (by decide +kernel) rfl, Or.inl rfl⟩
theorem lmL_33 : LV RL 33 0 9 mX9_chant := ⟨⟨gw_at (i := 1137) (by decide +kernel) rfl, gw_at (i := 1140) (by decide +kernel) rfl, gw_at (i := 71) (by decide +kernel) rfl, ⟨by decide +kernel, by decide +kernel, by decide +kernel⟩, by decide⟩, gw_at (i := 1138) (by decide +kernel) rfl, gw_at (i := 1139) (by decide +kernel) rfl, TX9, 42, rfl⟩
theorem lmL_38 : LV RL 38 3 9 mX9_step := ⟨⟨gw_at (i := 1141) (by decide +kernel) rfl, gw_at (i := 1144) (by decide +kernel) rfl, gw_at (i := 71) (by decide +kernel) rfl, ⟨by decide +kernel, by decide +kernel, by decide +kernel⟩, by decide⟩, gw_at (i := 1142) (by decide +kernel) rfl, gw_at (i := 1143) (by decide +kernel) rfl, TX9, 42, rfl⟩
theorem lmX9_137 : LV RX9 137 3 9 mX9_in := ⟨⟨gw_at (i := 1145) (by decide +kernel) rfl, gw_at (i := 1148) (by decide +kernel) rfl, gw_at (i := 71) (by decide +kernel) rfl, ⟨by decide +kernel, by decide +kernel, by decide +kernel⟩, by decide⟩, gw_at (i := 1147) (by decide +kernel) rfl, gw_at (i := 31) (by decide +kernel) rfl, TX9, 42, rfl⟩
theorem lmX9_141 : LV RX9 141 1 9 mX9_hasColour := ⟨⟨gw_at (i := 1149) (by decide +kernel) rfl, gw_at (i := 1152) (by decide +kernel) rfl, gw_at (i := 71) (by decide +kernel) rfl, ⟨by decide +kernel, by decide +kernel, by decide +kernel⟩, by decide⟩, gw_at (i := 1151) (by decide +kernel) rfl, gw_at (i := 32) (by decide +kernel) rfl, TX9, 42, rfl⟩
theorem lmX9_145 : LV RX9 145 1 9 mX9_isColour := ⟨⟨gw_at (i := 1153) (by decide +kernel) rfl, gw_at (i := 1156) (by decide +kernel) rfl, gw_at (i := 71) (by decide +kernel) rfl, ⟨by decide +kernel, by decide +kernel, by decide +kernel⟩, by decide⟩, gw_at (i := 1155) (by decide +kernel) rfl, gw_at (i := 33) (by decide +kernel) rfl, TX9, 42, rfl⟩
theorem lmX9_148 : LV RX9 148 1 9 mX9_hasNumber := ⟨⟨gw_at (i := 1157) (by decide +kernel) rfl, gw_at (i := 1160) (by decide +kernel) rfl, gw_at (i := 71) (by decide +kernel) rfl, ⟨by decide +kernel, by decide +kernel, by decide +kernel⟩, by decide⟩, gw_at (i := 1159) (by decide +kernel) rfl, gw_at (i := 34) (by decide +kernel) rfl, TX9, 42, rfl⟩
theorem lmL_43 : LV RL 43 1 9 mX9_length := ⟨⟨gw_at (i := 1161) (by decide +kernel) rfl, gw_at (i := 1164) (by decide +kernel) rfl, gw_at (i := 71) (by decide +kernel) rfl, ⟨by decide +kernel, by decide +kernel, by decide +kernel⟩, by decide⟩, gw_at (i := 1162) (by decide +kernel) rfl, gw_at (i := 1163) (by decide +kernel) rfl, TX9, 42, rfl⟩
theorem lmX9_165 : LV RX9 165 1 9 mX9_isChant := ⟨⟨gw_at (i := 1165) (by decide +kernel) rfl, gw_at (i := 1168) (by decide +kernel) rfl, gw_at (i := 71) (by decide +kernel) rfl, ⟨by decide +kernel, by decide +kernel, by decide +kernel⟩, by decide⟩, gw_at (i := 1167) (by decide +kernel) rfl, gw_at (i := 35) (by decide +kernel) rfl, TX9, 42, rfl⟩
theorem lmX9_168 : LV RX9 168 1 9 mX9_call := ⟨⟨gw_at (i := 1169) (by decide +kernel) rfl, gw_at (i := 1172) (by decide +kernel) rfl, gw_at (i := 71) (by decide +kernel) rfl, ⟨by decide +kernel, by decide +kernel, by decide +kernel⟩, by decide⟩, gw_at (i := 1171) (by decide +kernel) rfl, gw_at (i := 36) (by decide +kernel) rfl, TX9, 42, rfl⟩
theorem lmX9_162 : LV RX9 162 3 9 mX9_stepOf := ⟨⟨gw_at (i := 1173) (by decide +kernel) rfl, gw_at (i := 1176) (by decide +kernel) rfl, gw_at (i := 71) (by decide +kernel) rfl, ⟨by decide +kernel, by decide +kernel, by decide +kernel⟩, by decide⟩, gw_at (i := 1175) (by decide +kernel) rfl, gw_at (i := 37) (by decide +kernel) rfl, TX9, 42, rfl⟩
theorem lmX9_151 : LV RX9 151 1 9 mX9_add := ⟨⟨gw_at (i := 1177) (by decide +kernel) rfl, gw_at (i := 1180) (by decide +kernel) rfl, gw_at (i := 71) (by decide +kernel) rfl, ⟨by decide +kernel, by decide +kernel, by decide +kernel⟩, by decide⟩, gw_at (i := 1179) (by decide +kernel) rfl, gw_at (i := 38) (by decide +kernel) rfl, TX9, 42, rfl⟩
theorem lmX9_154 : LV RX9 154 3 9 mX9_addAll := ⟨⟨gw_at (i := 1181) (by decide +kernel) rfl, gw_at (i := 1184) (by decide +kernel) rfl, gw_at (i := 71) (by decide +kernel) rfl, ⟨by decide +kernel, by decide +kernel, by decide +kernel⟩, by decide⟩, gw_at (i := 1183) (by decide +kernel) rfl, gw_at (i := 39) (by decide +kernel) rfl, TX9, 42, rfl⟩
theorem lmX9_158 : LV RX9 158 2 9 mX9_below := ⟨⟨gw_at (i := 1185) (by decide +kernel) rfl, gw_at (i := 1188) (by decide +kernel) rfl, gw_at (i := 71) (by decide +kernel) rfl, ⟨by decide +kernel, by decide +kernel, by decide +kernel⟩, by decide⟩, gw_at (i := 1187) (by decide +kernel) rfl, gw_at (i := 40) (by decide +kernel) rfl, TX9, 42, rfl⟩
theorem lmL_48 : LV RL 48 2 9 mX9_colour := ⟨⟨gw_at (i := 1189) (by decide +kernel) rfl, gw_at (i := 1192) (by decide +kernel) rfl, gw_at (i := 71) (by decide +kernel) rfl, ⟨by decide +kernel, by decide +kernel, by decide +kernel⟩, by decide⟩, gw_at (i := 1190) (by decide +kernel) rfl, gw_at (i := 1191) (by decide +kernel) rfl, TX9, 42, rfl⟩
theorem lmL_52 : LV RL 52 1 9 mX9_closes := ⟨⟨gw_at (i := 1193) (by decide +kernel) rfl, gw_at (i := 1196) (by decide +kernel) rfl, gw_at (i := 71) (by decide +kernel) rfl, ⟨by decide +kernel, by decide +kernel, by decide +kernel⟩, by decide⟩, gw_at (i := 1194) (by decide +kernel) rfl, gw_at (i := 1195) (by decide +kernel) rfl, TX9, 42, rfl⟩
theorem lmL_56 : LV RL 56 2 9 mX9_mend := ⟨⟨gw_at (i := 1197) (by decide +kernel) rfl, gw_at (i := 1200) (by decide +kernel) rfl, gw_at (i := 71) (by decide +kernel) rfl, ⟨by decide +kernel, by decide +kernel, by decide +kernel⟩, by decide⟩, gw_at (i := 1198) (by decide +kernel) rfl, gw_at (i := 1199) (by decide +kernel) rfl, TX9, 42, rfl⟩
theorem lmX9_172 : LV RX9 172 1 9 mX9_findMend := ⟨⟨gw_at (i := 1201) (by decide +kernel) rfl, gw_at (i := 1204) (by decide +kernel) rfl, gw_at (i := 71) (by decide +kernel) rfl, ⟨by decide +kernel, by decide +kernel, by decide +kernel⟩, by decide⟩, gw_at (i := 1203) (by decide +kernel) rfl, gw_at (i := 41) (by decide +kernel) rfl, TX9, 42, rfl⟩
theorem lmL_60 : LV RL 60 1 9 mX9_mended := ⟨⟨gw_at (i := 1205) (by decide +kernel) rfl, gw_at (i := 1208) (by decide +kernel) rfl, gw_at (i := 71) (by decide +kernel) rfl, ⟨by decide +kernel, by decide +kernel, by decide +kernel⟩, by decide⟩, gw_at (i := 1206) (by decide +kernel) rfl, gw_at (i := 1207) (by decide +kernel) rfl, TX9, 42, rfl⟩
theorem lmL_64 : LV RL 64 3 9 mX9_told := ⟨⟨gw_at (i := 1209) (by decide +kernel) rfl, gw_at (i := 1212) (by decide +kernel) rfl, gw_at (i := 71) (by decide +kernel) rfl, ⟨by decide +kernel, by decide +kernel, by decide +kernel⟩, by decide⟩, gw_at (i := 1210) (by decide +kernel) rfl, gw_at (i := 1211) (by decide +kernel) rfl, TX9, 42, rfl⟩
theorem lmL_68 : LV RL 68 3 9 mX9_hand := ⟨⟨gw_at (i := 1213) (by decide +kernel) rfl, gw_at (i := 1216) (by decide +kernel) rfl, gw_at (i := 71) (by decide +kernel) rfl, ⟨by decide +kernel, by decide +kernel, by decide +kernel⟩, by decide⟩, gw_at (i := 1214) (by decide +kernel) rfl, gw_at (i := 1215) (by decide +kernel) rfl, TX9, 42, rfl⟩
theorem lmL_72 : LV RL 72 3 9 mX9_dye := ⟨⟨gw_at (i := 1217) (by decide +kernel) rfl, gw_at (i := 1220) (by decide +kernel) rfl, gw_at (i := 71) (by decide +kernel) rfl, ⟨by decide +kernel, by decide +kernel, by decide +kernel⟩, by decide⟩, gw_at (i := 1218) (by decide +kernel) rfl, gw_at (i := 1219) (by decide +kernel) rfl, TX9, 42, rfl⟩
theorem lmL_76 : LV RL 76 1 9 mX9_tie := ⟨⟨gw_at (i := 1221) (by decide +kernel) rfl, gw_at (i := 1224) (by decide +kernel) rfl, gw_at (i := 71) (by decide +kernel) rfl, ⟨by decide +kernel, by decide +kernel, by decide +kernel⟩, by decide⟩, gw_at (i := 1222) (by decide +kernel) rfl, gw_at (i := 1223) (by decide +kernel) rfl, TX9, 42, rfl⟩
theorem lmX9_181 : LV RX9 181 0 9 mX9_isEnough := ⟨⟨gw_at (i := 1225) (by decide +kernel) rfl, gw_at (i := 1228) (by decide +kernel) rfl, gw_at (i := 71) (by decide +kernel) rfl, ⟨by decide +kernel, by decide +kernel, by decide +kernel⟩, by decide⟩, gw_at (i := 1227) (by decide +kernel) rfl, gw_at (i := 42) (by decide +kernel) rfl, TX9, 42, rfl⟩
theorem lmX9_175 : LV RX9 175 1 9 mX9_leftOf := ⟨⟨gw_at (i := 1229) (by decide +kernel) rfl, gw_at (i := 1232) (by decide +kernel) rfl, gw_at (i := 71) (by decide +kernel) rfl, ⟨by decide +kernel, by decide +kernel, by decide +kernel⟩, by decide⟩, gw_at (i := 1231) (by decide +kernel) rfl, gw_at (i := 43) (by decide +kernel) rfl, TX9, 42, rfl⟩
theorem lmX9_185 : LV RX9 185 1 9 mX9_minutesOf := ⟨⟨gw_at (i := 1233) (by decide +kernel) rfl, gw_at (i := 1236) (by decide +kernel) rfl, gw_at (i := 71) (by decide +kernel) rfl, ⟨by decide +kernel, by decide +kernel, by decide +kernel⟩, by decide⟩, gw_at (i := 1235) (by decide +kernel) rfl, gw_at (i := 44) (by decide +kernel) rfl, TX9, 42, rfl⟩
theorem lmX9_178 : LV RX9 178 1 9 mX9_handAt := ⟨⟨gw_at (i := 1237) (by decide +kernel) rfl, gw_at (i := 1240) (by decide +kernel) rfl, gw_at (i := 71) (by decide +kernel) rfl, ⟨by decide +kernel, by decide +kernel, by decide +kernel⟩, by decide⟩, gw_at (i := 1239) (by decide +kernel) rfl, gw_at (i := 45) (by decide +kernel) rfl, TX9, 42, rfl⟩
theorem lmX9_188 : LV RX9 188 1 9 mX9_takeWool := ⟨⟨gw_at (i := 1241) (by decide +kernel) rfl, gw_at (i := 1244) (by decide +kernel) rfl, gw_at (i := 71) (by decide +kernel) rfl, ⟨by decide +kernel, by decide +kernel, by decide +kernel⟩, by decide⟩, gw_at (i := 1243) (by decide +kernel) rfl, gw_at (i := 46) (by decide +kernel) rfl, TX9, 42, rfl⟩
theorem lmL_80 : LV RL 80 2 9 mX9_knot := ⟨⟨gw_at (i := 1245) (by decide +kernel) rfl, gw_at (i := 1248) (by decide +kernel) rfl, gw_at (i := 71) (by decide +kernel) rfl, ⟨by decide +kernel, by decide +kernel, by decide +kernel⟩, by decide⟩, gw_at (i := 1246) (by decide +kernel) rfl, gw_at (i := 1247) (by decide +kernel) rfl, TX9, 42, rfl⟩
theorem lmX9_191 : LV RX9 191 2 9 mX9_isKnot := ⟨⟨gw_at (i := 1249) (by decide +kernel) rfl, gw_at (i := 1252) (by decide +kernel) rfl, gw_at (i := 71) (by decide +kernel) rfl, ⟨by decide +kernel, by decide +kernel, by decide +kernel⟩, by decide⟩, gw_at (i := 1251) (by decide +kernel) rfl, gw_at (i := 47) (by decide +kernel) rfl, TX9, 42, rfl⟩
theorem lmL_84 : LV RL 84 3 9 mX9_look := ⟨⟨gw_at (i := 1253) (by decide +kernel) rfl, gw_at (i := 1256) (by decide +kernel) rfl, gw_at (i := 71) (by decide +kernel) rfl, ⟨by decide +kernel, by decide +kernel, by decide +kernel⟩, by decide⟩, gw_at (i := 1254) (by decide +kernel) rfl, gw_at (i := 1255) (by decide +kernel) rfl, TX9, 42, rfl⟩
theorem lmL_88 : LV RL 88 3 9 mX9_found := ⟨⟨gw_at (i := 1257) (by decide +kernel) rfl, gw_at (i := 1260) (by decide +kernel) rfl, gw_at (i := 71) (by decide +kernel) rfl, ⟨by decide +kernel, by decide +kernel, by decide +kernel⟩, by decide⟩, gw_at (i := 1258) (by decide +kernel) rfl, gw_at (i := 1259) (by decide +kernel) rfl, TX9, 42, rfl⟩
theorem lmL_92 : LV RL 92 0 9 mX9_cut := ⟨⟨gw_at (i := 1261) (by decide +kernel) rfl, gw_at (i := 1264) (by decide +kernel) rfl, gw_at (i := 71) (by decide +kernel) rfl, ⟨by decide +kernel, by decide +kernel, by decide +kernel⟩, by decide⟩, gw_at (i := 1262) (by decide +kernel) rfl, gw_at (i := 1263) (by decide +kernel) rfl, TX9, 42, rfl⟩
theorem lmL_96 : LV RL 96 1 9 mX9_minutes := ⟨⟨gw_at (i := 1265) (by decide +kernel) rfl, gw_at (i := 1268) (by decide +kernel) rfl, gw_at (i := 71) (by decide +kernel) rfl, ⟨by decide +kernel, by decide +kernel, by decide +kernel⟩, by decide⟩, gw_at (i := 1266) (by decide +kernel) rfl, gw_at (i := 1267) (by decide +kernel) rfl, TX9, 42, rfl⟩
theorem lmL_100 : LV RL 100 1 9 mX9_shifts := ⟨⟨gw_at (i := 1269) (by decide +kernel) rfl, gw_at (i := 1272) (by decide +kernel) rfl, gw_at (i := 71) (by decide +kernel) rfl, ⟨by decide +kernel, by decide +kernel, by decide +kernel⟩, by decide⟩, gw_at (i := 1270) (by decide +kernel) rfl, gw_at (i := 1271) (by decide +kernel) rfl, TX9, 42, rfl⟩
theorem lmL_104 : LV RL 104 1 9 mX9_wool := ⟨⟨gw_at (i := 1273) (by decide +kernel) rfl, gw_at (i := 1276) (by decide +kernel) rfl, gw_at (i := 71) (by decide +kernel) rfl, ⟨by decide +kernel, by decide +kernel, by decide +kernel⟩, by decide⟩, gw_at (i := 1274) (by decide +kernel) rfl, gw_at (i := 1275) (by decide +kernel) rfl, TX9, 42, rfl⟩
theorem lmL_108 : LV RL 108 2 9 mX9_hands := ⟨⟨gw_at (i := 1277) (by decide +kernel) rfl, gw_at (i := 1280) (by decide +kernel) rfl, gw_at (i := 71) (by decide +kernel) rfl, ⟨by decide +kernel, by decide +kernel, by decide +kernel⟩, by decide⟩, gw_at (i := 1278) (by decide +kernel) rfl, gw_at (i := 1279) (by decide +kernel) rfl, TX9, 42, rfl⟩
theorem lmL_112 : LV RL 112 2 9 mX9_unlike := ⟨⟨gw_at (i := 1281) (by decide +kernel) rfl, gw_at (i := 1284) (by decide +kernel) rfl, gw_at (i := 71) (by decide +kernel) rfl, ⟨by decide +kernel, by decide +kernel, by decide +kernel⟩, by decide⟩, gw_at (i := 1282) (by decide +kernel) rfl, gw_at (i := 1283) (by decide +kernel) rfl, TX9, 42, rfl⟩
theorem lmL_116 : LV RL 116 3 9 mX9_side := ⟨⟨gw_at (i := 1285) (by decide +kernel) rfl, gw_at (i := 1288) (by decide +kernel) rfl, gw_at (i := 71) (by decide +kernel) rfl, ⟨by decide +kernel, by decide +kernel, by decide +kernel⟩, by decide⟩, gw_at (i := 1286) (by decide +kernel) rfl, gw_at (i := 1287) (by decide +kernel) rfl, TX9, 42, rfl⟩
theorem lmX9_195 : LV RX9 195 2 9 mX9_areUnits := ⟨⟨gw_at (i := 1289) (by decide +kernel) rfl, gw_at (i := 1292) (by decide +kernel) rfl, gw_at (i := 71) (by decide +kernel) rfl, ⟨by decide +kernel, by decide +kernel, by decide +kernel⟩, by decide⟩, gw_at (i := 1291) (by decide +kernel) rfl, gw_at (i := 48) (by decide +kernel) rfl, TX9, 42, rfl⟩
theorem lmX9_198 : LV RX9 198 3 9 mX9_wayOf := ⟨⟨gw_at (i := 1293) (by decide +kernel) rfl, gw_at (i := 1296) (by decide +kernel) rfl, gw_at (i := 71) (by decide +kernel) rfl, ⟨by decide +kernel, by decide +kernel, by decide +kernel⟩, by decide⟩, gw_at (i := 1295) (by decide +kernel) rfl, gw_at (i := 49) (by decide +kernel) rfl, TX9, 42, rfl⟩
theorem lmL_121 : LV RL 121 4 9 mX9_corner := ⟨⟨gw_at (i := 1297) (by decide +kernel) rfl, gw_at (i := 1300) (by decide +kernel) rfl, gw_at (i := 71) (by decide +kernel) rfl, ⟨by decide +kernel, by decide +kernel, by decide +kernel⟩, by decide⟩, gw_at (i := 1298) (by decide +kernel) rfl, gw_at (i := 1299) (by decide +kernel) rfl, TX9, 42, rfl⟩
theorem lmX9_202 : LV RX9 202 2 9 mX9_meets := ⟨⟨gw_at (i := 1301) (by decide +kernel) rfl, gw_at (i := 1304) (by decide +kernel) rfl, gw_at (i := 71) (by decide +kernel) rfl, ⟨by decide +kernel, by decide +kernel, by decide +kernel⟩, by decide⟩, gw_at (i := 1303) (by decide +kernel) rfl, gw_at (i := 50) (by decide +kernel) rfl, TX9, 42, rfl⟩
theorem lmL_125 : LV RL 125 3 9 mX9_fits := ⟨⟨gw_at (i := 1305) (by decide +kernel) rfl, gw_at (i := 1308) (by decide +kernel) rfl, gw_at (i := 71) (by decide +kernel) rfl, ⟨by decide +kernel, by decide +kernel, by decide +kernel⟩, by decide⟩, gw_at (i := 1306) (by decide +kernel) rfl, gw_at (i := 1307) (by decide +kernel) rfl, TX9, 42, rfl⟩
theorem lmL_129 : LV RL 129 1 9 mX9_village := ⟨⟨gw_at (i := 1309) (by decide +kernel) rfl, gw_at (i := 1312) (by decide +kernel) rfl, gw_at (i := 71) (by decide +kernel) rfl, ⟨by decide +kernel, by decide +kernel, by decide +kernel⟩, by decide⟩, gw_at (i := 1310) (by decide +kernel) rfl, gw_at (i := 1311) (by decide +kernel) rfl, TX9, 42, rfl⟩
theorem lmL_133 : LV RL 133 0 9 mX9_tree := ⟨⟨gw_at (i := 1313) (by decide +kernel) rfl, gw_at (i := 1316) (by decide +kernel) rfl, gw_at (i := 71) (by decide +kernel) rfl, ⟨by decide +kernel, by decide +kernel, by decide +kernel⟩, by decide⟩, gw_at (i := 1314) (by decide +kernel) rfl, gw_at (i := 1315) (by decide +kernel) rfl, TX9, 42, rfl⟩
theorem lmX9_212 : LV RX9 212 0 9 mX9_makeTree := ⟨⟨gw_at (i := 1317) (by decide +kernel) rfl, gw_at (i := 1320) (by decide +kernel) rfl, gw_at (i := 71) (by decide +kernel) rfl, ⟨by decide +kernel, by decide +kernel, by decide +kernel⟩, by decide⟩, gw_at (i := 1319) (by decide +kernel) rfl, gw_at (i := 51) (by decide +kernel) rfl, TX9, 42, rfl⟩
theorem lmX9_205 : LV RX9 205 2 9 mX9_apart := ⟨⟨gw_at (i := 1321) (by decide +kernel) rfl, gw_at (i := 1324) (by decide +kernel) rfl, gw_at (i := 71) (by decide +kernel) rfl, ⟨by decide +kernel, by decide +kernel, by decide +kernel⟩, by decide⟩, gw_at (i := 1323) (by decide +kernel) rfl, gw_at (i := 52) (by decide +kernel) rfl, TX9, 42, rfl⟩
theorem lmX9_208 : LV RX9 208 2 9 mX9_join := ⟨⟨gw_at (i := 1325) (by decide +kernel) rfl, gw_at (i := 1328) (by decide +kernel) rfl, gw_at (i := 71) (by decide +kernel) rfl, ⟨by decide +kernel, by decide +kernel, by decide +kernel⟩, by decide⟩, gw_at (i := 1327) (by decide +kernel) rfl, gw_at (i := 53) (by decide +kernel) rfl, TX9, 42, rfl⟩
theorem lmL_137 : LV RL 137 1 9 mX9_link := ⟨⟨gw_at (i := 1329) (by decide +kernel) rfl, gw_at (i := 1332) (by decide +kernel) rfl, gw_at (i := 71) (by decide +kernel) rfl, ⟨by decide +kernel, by decide +kernel, by decide +kernel⟩, by decide⟩, gw_at (i := 1330) (by decide +kernel) rfl, gw_at (i := 1331) (by decide +kernel) rfl, TX9, 42, rfl⟩
theorem lmL_141 : LV RL 141 0 9 mX9_rivals := ⟨⟨gw_at (i := 1333) (by decide +kernel) rfl, gw_at (i := 1336) (by decide +kernel) rfl, gw_at (i := 71) (by decide +kernel) rfl, ⟨by decide +kernel, by decide +kernel, by decide +kernel⟩, by decide⟩, gw_at (i := 1334) (by decide +kernel) rfl, gw_at (i := 1335) (by decide +kernel) rfl, TX9, 42, rfl⟩
theorem lmX9_215 : LV RX9 215 3 9 mX9_isTree := ⟨⟨gw_at (i := 1337) (by decide +kernel) rfl, gw_at (i := 1340) (by decide +kernel) rfl, gw_at (i := 71) (by decide +kernel) rfl, ⟨by decide +kernel, by decide +kernel, by decide +kernel⟩, by decide⟩, gw_at (i := 1339) (by decide +kernel) rfl, gw_at (i := 54) (by decide +kernel) rfl, TX9, 42, rfl⟩
theorem lmL_145 : LV RL 145 1 9 mX9_count := ⟨⟨gw_at (i := 1341) (by decide +kernel) rfl, gw_at (i := 1344) (by decide +kernel) rfl, gw_at (i := 71) (by decide +kernel) rfl, ⟨by decide +kernel, by decide +kernel, by decide +kernel⟩, by decide⟩, gw_at (i := 1342) (by decide +kernel) rfl, gw_at (i := 1343) (by decide +kernel) rfl, TX9, 42, rfl⟩
theorem lmX9_218 : LV RX9 218 0 9 mX9_faults := ⟨⟨gw_at (i := 1345) (by decide +kernel) rfl, gw_at (i := 1348) (by decide +kernel) rfl, gw_at (i := 71) (by decide +kernel) rfl, ⟨by decide +kernel, by decide +kernel, by decide +kernel⟩, by decide⟩, gw_at (i := 1347) (by decide +kernel) rfl, gw_at (i := 55) (by decide +kernel) rfl, TX9, 42, rfl⟩
theorem lmL_149 : LV RL 149 4 9 mX9_keep := ⟨⟨gw_at (i := 1349) (by decide +kernel) rfl, gw_at (i := 1352) (by decide +kernel) rfl, gw_at (i := 71) (by decide +kernel) rfl, ⟨by decide +kernel, by decide +kernel, by decide +kernel⟩, by decide⟩, gw_at (i := 1350) (by decide +kernel) rfl, gw_at (i := 1351) (by decide +kernel) rfl, TX9, 42, rfl⟩
theorem lmX9_222 : LV RX9 222 1 9 mX9_isShelf := ⟨⟨gw_at (i := 1353) (by decide +kernel) rfl, gw_at (i := 1356) (by decide +kernel) rfl, gw_at (i := 71) (by decide +kernel) rfl, ⟨by decide +kernel, by decide +kernel, by decide +kernel⟩, by decide⟩, gw_at (i := 1355) (by decide +kernel) rfl, gw_at (i := 56) (by decide +kernel) rfl, TX9, 42, rfl⟩
theorem lmX9_225 : LV RX9 225 1 9 mX9_wipe := ⟨⟨gw_at (i := 1357) (by decide +kernel) rfl, gw_at (i := 1360) (by decide +kernel) rfl, gw_at (i := 71) (by decide +kernel) rfl, ⟨by decide +kernel, by decide +kernel, by decide +kernel⟩, by decide⟩, gw_at (i := 1359) (by decide +kernel) rfl, gw_at (i := 57) (by decide +kernel) rfl, TX9, 42, rfl⟩
theorem lmL_153 : LV RL 153 3 9 mX9_make := ⟨⟨gw_at (i := 1361) (by decide +kernel) rfl, gw_at (i := 1364) (by decide +kernel) rfl, gw_at (i := 71) (by decide +kernel) rfl, ⟨by decide +kernel, by decide +kernel, by decide +kernel⟩, by decide⟩, gw_at (i := 1362) (by decide +kernel) rfl, gw_at (i := 1363) (by decide +kernel) rfl, TX9, 42, rfl⟩
theorem lmL_157 : LV RL 157 2 9 mX9_element := ⟨⟨gw_at (i := 1365) (by decide +kernel) rfl, gw_at (i := 1368) (by decide +kernel) rfl, gw_at (i := 71) (by decide +kernel) rfl, ⟨by decide +kernel, by decide +kernel, by decide +kernel⟩, by decide⟩, gw_at (i := 1366) (by decide +kernel) rfl, gw_at (i := 1367) (by decide +kernel) rfl, TX9, 42, rfl⟩
theorem lmL_165 : LV RL 165 5 9 mX9_copy := ⟨⟨gw_at (i := 1369) (by decide +kernel) rfl, gw_at (i := 1372) (by decide +kernel) rfl, gw_at (i := 71) (by decide +kernel) rfl, ⟨by decide +kernel, by decide +kernel, by decide +kernel⟩, by decide⟩, gw_at (i := 1370) (by decide +kernel) rfl, gw_at (i := 1371) (by decide +kernel) rfl, TX9, 42, rfl⟩
theorem lmL_169 : LV RL 169 1 9 mX9_weight := ⟨⟨gw_at (i := 1373) (by decide +kernel) rfl, gw_at (i := 1376) (by decide +kernel) rfl, gw_at (i := 71) (by decide +kernel) rfl, ⟨by decide +kernel, by decide +kernel, by decide +kernel⟩, by decide⟩, gw_at (i := 1374) (by decide +kernel) rfl, gw_at (i := 1375) (by decide +kernel) rfl, TX9, 42, rfl⟩
theorem lmX9_229 : LV RX9 229 1 9 mX9_lacksStep := ⟨⟨gw_at (i := 1377) (by decide +kernel) rfl, gw_at (i := 1380) (by decide +kernel) rfl, gw_at (i := 71) (by decide +kernel) rfl, ⟨by decide +kernel, by decide +kernel, by decide +kernel⟩, by decide⟩, gw_at (i := 1379) (by decide +kernel) rfl, gw_at (i := 58) (by decide +kernel) rfl, TX9, 42, rfl⟩
theorem lmL_173 : LV RL 173 1 9 mX9_toss := ⟨⟨gw_at (i := 1381) (by decide +kernel) rfl, gw_at (i := 1384) (by decide +kernel) rfl, gw_at (i := 71) (by decide +kernel) rfl, ⟨by decide +kernel, by decide +kernel, by decide +kernel⟩, by decide⟩, gw_at (i := 1382) (by decide +kernel) rfl, gw_at (i := 1383) (by decide +kernel) rfl, TX9, 42, rfl⟩
theorem la_long : Cond.arrayClass .long ∈ gw := gw_at (i := 1385) (by decide +kernel) rfl
theorem lo_inst : Cond.instanceMethod objectInit ∈ gw := gw_at (i := 91) (by decide +kernel) rfl
theorem lo_code : Cond.code objectInit ⟨#[0xb1]⟩ 1 none ∈ gw := gw_at (i := 92) (by decide +kernel) rfl
theorem loX8_3 : Cond.methodLink RX8 3 objectInit ∈ gw := gw_at (i := 90) (by decide +kernel) rfl
theorem loX1_3 : Cond.methodLink RX1 3 objectInit ∈ gw := gw_at (i := 101) (by decide +kernel) rfl
theorem loX7_3 : Cond.methodLink RX7 3 objectInit ∈ gw := gw_at (i := 110) (by decide +kernel) rfl
theorem loX3_1 : Cond.methodLink RX3 1 objectInit ∈ gw := gw_at (i := 126) (by decide +kernel) rfl
theorem loX0_3 : Cond.methodLink RX0 3 objectInit ∈ gw := gw_at (i := 179) (by decide +kernel) rfl
theorem loJxa1e45_1 : Cond.methodLink RJxa1e45 1 objectInit ∈ gw := gw_at (i := 191) (by decide +kernel) rfl
theorem loX6_3 : Cond.methodLink RX6 3 objectInit ∈ gw := gw_at (i := 241) (by decide +kernel) rfl
theorem loX4_3 : Cond.methodLink RX4 3 objectInit ∈ gw := gw_at (i := 277) (by decide +kernel) rfl
theorem loX2_1 : Cond.methodLink RX2 1 objectInit ∈ gw := gw_at (i := 329) (by decide +kernel) rfl
theorem loX5_3 : Cond.methodLink RX5 3 objectInit ∈ gw := gw_at (i := 442) (by decide +kernel) rfl
theorem lojava_lang_Throwable_1 : Cond.methodLink "java/lang/Throwable" 1 objectInit ∈ gw := gw_at (i := 929) (by decide +kernel) rfl
theorem loX9_7 : Cond.methodLink RX9 7 objectInit ∈ gw := gw_at (i := 1009) (by decide +kernel) rfl
theorem gtX7_0 : GT RX7 7 0 (.array .int) true := fun C T N h => by cases h; exact ⟨by decide +kernel, rfl, fun _ => rfl⟩
theorem gtX7_1 : GT RX7 7 1 (.array .int) true := fun C T N h => by cases h; exact ⟨by decide +kernel, rfl, fun _ => rfl⟩
theorem gtX7_2 {o : String} : GT o 7 2 (.int) false := fun C T N h => by cases h; exact ⟨by decide +kernel, rfl, fun z => (by cases z)⟩
theorem gtX3_0 : GT RX3 3 0 (.array .byte) true := fun C T N h => by cases h; exact ⟨by decide +kernel, rfl, fun _ => rfl⟩
theorem gtX3_1 : GT RX3 3 1 (.array .byte) true := fun C T N h => by cases h; exact ⟨by decide +kernel, rfl, fun _ => rfl⟩
theorem gtX3_2 : GT RX3 3 2 (.array .byte) true := fun C T N h => by cases h; exact ⟨by decide +kernel, rfl, fun _ => rfl⟩
theorem gtX3_3 : GT RX3 3 3 (.array .byte) true := fun C T N h => by cases h; exact ⟨by decide +kernel, rfl, fun _ => rfl⟩
theorem gtX3_4 {o : String} : GT o 3 4 (.int) false := fun C T N h => by cases h; exact ⟨by decide +kernel, rfl, fun z => (by cases z)⟩
theorem gtX1_0 : GT RX1 1 0 (.int) true := fun C T N h => by cases h; exact ⟨by decide +kernel, rfl, fun _ => rfl⟩
theorem gtX1_1 : GT RX1 1 1 (.array .int) true := fun C T N h => by cases h; exact ⟨by decide +kernel, rfl, fun _ => rfl⟩
theorem gtX1_2 : GT RX1 1 2 (.array .int) true := fun C T N h => by cases h; exact ⟨by decide +kernel, rfl, fun _ => rfl⟩
theorem gtX1_3 : GT RX1 1 3 (.array (.object "KnotCaller$Wool")) true := fun C T N h => by cases h; exact ⟨by decide +kernel, rfl, fun _ => rfl⟩
theorem gtX1_4 : GT RX1 1 4 (.array (.object "KnotCaller$Row")) true := fun C T N h => by cases h; exact ⟨by decide +kernel, rfl, fun _ => rfl⟩
theorem gtX1_5 {o : String} : GT o 1 5 (.int) false := fun C T N h => by cases h; exact ⟨by decide +kernel, rfl, fun z => (by cases z)⟩
theorem gtJx4a65c_1 {o : String} : GT o 10 1 (.array (.object "java/lang/Object")) false := fun C T N h => by cases h; exact ⟨by decide +kernel, rfl, fun z => (by cases z)⟩
theorem gtJx4a65c_2 {o : String} : GT o 10 2 (.int) false := fun C T N h => by cases h; exact ⟨by decide +kernel, rfl, fun z => (by cases z)⟩
theorem gtJx4a65c_0 {o : String} : GT o 10 0 (.int) false := fun C T N h => by cases h; exact ⟨by decide +kernel, rfl, fun z => (by cases z)⟩
theorem gtX0_0 : GT RX0 0 0 (.int) true := fun C T N h => by cases h; exact ⟨by decide +kernel, rfl, fun _ => rfl⟩
theorem gtX0_1 : GT RX0 0 1 (.object "KnotCaller$Carpet") true := fun C T N h => by cases h; exact ⟨by decide +kernel, rfl, fun _ => rfl⟩
theorem gtX0_2 : GT RX0 0 2 (.object "java/util/ArrayList") true := fun C T N h => by cases h; exact ⟨by decide +kernel, rfl, fun _ => rfl⟩
theorem gtX0_3 : GT RX0 0 3 (.array .byte) true := fun C T N h => by cases h; exact ⟨by decide +kernel, rfl, fun _ => rfl⟩
theorem gtX0_4 : GT RX0 0 4 (.array .int) true := fun C T N h => by cases h; exact ⟨by decide +kernel, rfl, fun _ => rfl⟩
theorem gtX0_5 {o : String} : GT o 0 5 (.int) false := fun C T N h => by cases h; exact ⟨by decide +kernel, rfl, fun z => (by cases z)⟩
theorem gtX0_6 {o : String} : GT o 0 6 (.int) false := fun C T N h => by cases h; exact ⟨by decide +kernel, rfl, fun z => (by cases z)⟩
theorem gtX0_7 {o : String} : GT o 0 7 (.int) false := fun C T N h => by cases h; exact ⟨by decide +kernel, rfl, fun z => (by cases z)⟩
theorem gtX0_8 {o : String} : GT o 0 8 (.int) false := fun C T N h => by cases h; exact ⟨by decide +kernel, rfl, fun z => (by cases z)⟩
theorem gtX6_0 : GT RX6 6 0 (.array .int) true := fun C T N h => by cases h; exact ⟨by decide +kernel, rfl, fun _ => rfl⟩
theorem gtX6_1 : GT RX6 6 1 (.array .int) true := fun C T N h => by cases h; exact ⟨by decide +kernel, rfl, fun _ => rfl⟩
theorem gtX6_2 : GT RX6 6 2 (.array .int) true := fun C T N h => by cases h; exact ⟨by decide +kernel, rfl, fun _ => rfl⟩
theorem gtX6_3 : GT RX6 6 3 (.array .int) true := fun C T N h => by cases h; exact ⟨by decide +kernel, rfl, fun _ => rfl⟩
theorem gtX6_4 : GT RX6 6 4 (.array .int) true := fun C T N h => by cases h; exact ⟨by decide +kernel, rfl, fun _ => rfl⟩
theorem gtX6_5 {o : String} : GT o 6 5 (.int) false := fun C T N h => by cases h; exact ⟨by decide +kernel, rfl, fun z => (by cases z)⟩
theorem gtX6_6 {o : String} : GT o 6 6 (.int) false := fun C T N h => by cases h; exact ⟨by decide +kernel, rfl, fun z => (by cases z)⟩
theorem gtX6_7 {o : String} : GT o 6 7 (.int) false := fun C T N h => by cases h; exact ⟨by decide +kernel, rfl, fun z => (by cases z)⟩
theorem gtX4_0 : GT RX4 4 0 (.array .short) true := fun C T N h => by cases h; exact ⟨by decide +kernel, rfl, fun _ => rfl⟩
theorem gtX4_1 {o : String} : GT o 4 1 (.int) false := fun C T N h => by cases h; exact ⟨by decide +kernel, rfl, fun z => (by cases z)⟩
theorem gtX4_2 {o : String} : GT o 4 2 (.int) false := fun C T N h => by cases h; exact ⟨by decide +kernel, rfl, fun z => (by cases z)⟩
theorem gtX4_3 {o : String} : GT o 4 3 (.object "KnotCaller$Step") false := fun C T N h => by cases h; exact ⟨by decide +kernel, rfl, fun z => (by cases z)⟩
theorem gtX8_0 : GT RX8 8 0 (.int) true := fun C T N h => by cases h; exact ⟨by decide +kernel, rfl, fun _ => rfl⟩
theorem gtX8_1 : GT RX8 8 1 (.object "KnotCaller$Carpet") true := fun C T N h => by cases h; exact ⟨by decide +kernel, rfl, fun _ => rfl⟩
theorem gtX8_2 : GT RX8 8 2 (.object "KnotCaller$Caller") true := fun C T N h => by cases h; exact ⟨by decide +kernel, rfl, fun _ => rfl⟩
theorem gtX8_3 : GT RX8 8 3 (.object "KnotCaller$Villages") true := fun C T N h => by cases h; exact ⟨by decide +kernel, rfl, fun _ => rfl⟩
theorem gtX8_4 : GT RX8 8 4 (.array (.object "KnotCaller$Shelf")) true := fun C T N h => by cases h; exact ⟨by decide +kernel, rfl, fun _ => rfl⟩
theorem gtX2_0 : GT RX2 2 0 (.object "java/util/ArrayList") true := fun C T N h => by cases h; exact ⟨by decide +kernel, rfl, fun _ => rfl⟩
theorem gtX5_0 : GT RX5 5 0 (.int) true := fun C T N h => by cases h; exact ⟨by decide +kernel, rfl, fun _ => rfl⟩
theorem gtX5_1 : GT RX5 5 1 (.int) true := fun C T N h => by cases h; exact ⟨by decide +kernel, rfl, fun _ => rfl⟩
theorem gtX5_2 {o : String} : GT o 5 2 (.int) false := fun C T N h => by cases h; exact ⟨by decide +kernel, rfl, fun z => (by cases z)⟩
theorem gtX9_0 {o : String} : GT o 9 0 (.int) false := fun C T N h => by cases h; exact ⟨by decide +kernel, rfl, fun z => (by cases z)⟩
theorem gtX9_1 : GT RX9 9 1 (.int) true := fun C T N h => by cases h; exact ⟨by decide +kernel, rfl, fun _ => rfl⟩
theorem gtX9_2 {o : String} : GT o 9 2 (.int) false := fun C T N h => by cases h; exact ⟨by decide +kernel, rfl, fun z => (by cases z)⟩
theorem gtX9_3 : GT RX9 9 3 (.array .int) true := fun C T N h => by cases h; exact ⟨by decide +kernel, rfl, fun _ => rfl⟩
theorem gtX9_4 : GT RX9 9 4 (.array .int) true := fun C T N h => by cases h; exact ⟨by decide +kernel, rfl, fun _ => rfl⟩
theorem gtX9_5 : GT RX9 9 5 (.array .int) true := fun C T N h => by cases h; exact ⟨by decide +kernel, rfl, fun _ => rfl⟩
theorem gtX9_6 : GT RX9 9 6 (.array .int) true := fun C T N h => by cases h; exact ⟨by decide +kernel, rfl, fun _ => rfl⟩
theorem gtX9_7 : GT RX9 9 7 (.array .int) true := fun C T N h => by cases h; exact ⟨by decide +kernel, rfl, fun _ => rfl⟩
theorem gtX9_8 : GT RX9 9 8 (.array .int) true := fun C T N h => by cases h; exact ⟨by decide +kernel, rfl, fun _ => rfl⟩
theorem gtX9_9 : GT RX9 9 9 (.array .int) true := fun C T N h => by cases h; exact ⟨by decide +kernel, rfl, fun _ => rfl⟩
theorem gtX9_10 : GT RX9 9 10 (.array .int) true := fun C T N h => by cases h; exact ⟨by decide +kernel, rfl, fun _ => rfl⟩
theorem gtX9_11 : GT RX9 9 11 (.array .int) true := fun C T N h => by cases h; exact ⟨by decide +kernel, rfl, fun _ => rfl⟩
theorem gtX9_12 : GT RX9 9 12 (.array .int) true := fun C T N h => by cases h; exact ⟨by decide +kernel, rfl, fun _ => rfl⟩
theorem gtX9_13 {o : String} : GT o 9 13 (.int) false := fun C T N h => by cases h; exact ⟨by decide +kernel, rfl, fun z => (by cases z)⟩
theorem gtX9_14 {o : String} : GT o 9 14 (.int) false := fun C T N h => by cases h; exact ⟨by decide +kernel, rfl, fun z => (by cases z)⟩
theorem gtX9_15 {o : String} : GT o 9 15 (.int) false := fun C T N h => by cases h; exact ⟨by decide +kernel, rfl, fun z => (by cases z)⟩
theorem gtX9_16 : GT RX9 9 16 (.array .int) true := fun C T N h => by cases h; exact ⟨by decide +kernel, rfl, fun _ => rfl⟩
theorem gtX9_17 : GT RX9 9 17 (.array .int) true := fun C T N h => by cases h; exact ⟨by decide +kernel, rfl, fun _ => rfl⟩
theorem gtX9_18 : GT RX9 9 18 (.array .int) true := fun C T N h => by cases h; exact ⟨by decide +kernel, rfl, fun _ => rfl⟩
theorem gtX9_19 : GT RX9 9 19 (.array .int) true := fun C T N h => by cases h; exact ⟨by decide +kernel, rfl, fun _ => rfl⟩
theorem gtX9_20 : GT RX9 9 20 (.array .int) true := fun C T N h => by cases h; exact ⟨by decide +kernel, rfl, fun _ => rfl⟩
theorem gtX9_21 {o : String} : GT o 9 21 (.int) false := fun C T N h => by cases h; exact ⟨by decide +kernel, rfl, fun z => (by cases z)⟩
theorem gtX9_22 : GT RX9 9 22 (.array .int) true := fun C T N h => by cases h; exact ⟨by decide +kernel, rfl, fun _ => rfl⟩
theorem gtX9_23 : GT RX9 9 23 (.array .int) true := fun C T N h => by cases h; exact ⟨by decide +kernel, rfl, fun _ => rfl⟩
theorem gtX9_24 : GT RX9 9 24 (.array .int) true := fun C T N h => by cases h; exact ⟨by decide +kernel, rfl, fun _ => rfl⟩
theorem gtX9_25 : GT RX9 9 25 (.array .int) true := fun C T N h => by cases h; exact ⟨by decide +kernel, rfl, fun _ => rfl⟩
theorem gtX9_26 : GT RX9 9 26 (.array .int) true := fun C T N h => by cases h; exact ⟨by decide +kernel, rfl, fun _ => rfl⟩
theorem gtX9_27 {o : String} : GT o 9 27 (.int) false := fun C T N h => by cases h; exact ⟨by decide +kernel, rfl, fun z => (by cases z)⟩
theorem gtX9_28 {o : String} : GT o 9 28 (.int) false := fun C T N h => by cases h; exact ⟨by decide +kernel, rfl, fun z => (by cases z)⟩
theorem gtX9_29 {o : String} : GT o 9 29 (.int) false := fun C T N h => by cases h; exact ⟨by decide +kernel, rfl, fun z => (by cases z)⟩
theorem gtX9_30 : GT RX9 9 30 (.array .int) true := fun C T N h => by cases h; exact ⟨by decide +kernel, rfl, fun _ => rfl⟩
theorem gtX9_31 : GT RX9 9 31 (.array .int) true := fun C T N h => by cases h; exact ⟨by decide +kernel, rfl, fun _ => rfl⟩
theorem gtX9_32 : GT RX9 9 32 (.array .int) true := fun C T N h => by cases h; exact ⟨by decide +kernel, rfl, fun _ => rfl⟩
theorem gtX9_33 : GT RX9 9 33 (.array .int) true := fun C T N h => by cases h; exact ⟨by decide +kernel, rfl, fun _ => rfl⟩
theorem gtX9_34 : GT RX9 9 34 (.array .int) true := fun C T N h => by cases h; exact ⟨by decide +kernel, rfl, fun _ => rfl⟩
theorem gtX9_35 : GT RX9 9 35 (.array .int) true := fun C T N h => by cases h; exact ⟨by decide +kernel, rfl, fun _ => rfl⟩
theorem gtX9_36 : GT RX9 9 36 (.array .int) true := fun C T N h => by cases h; exact ⟨by decide +kernel, rfl, fun _ => rfl⟩
theorem gtX9_37 : GT RX9 9 37 (.array .int) true := fun C T N h => by cases h; exact ⟨by decide +kernel, rfl, fun _ => rfl⟩
theorem gtX9_38 : GT RX9 9 38 (.array .int) true := fun C T N h => by cases h; exact ⟨by decide +kernel, rfl, fun _ => rfl⟩
theorem gtX9_39 : GT RX9 9 39 (.array .int) true := fun C T N h => by cases h; exact ⟨by decide +kernel, rfl, fun _ => rfl⟩
theorem gtX9_40 : GT RX9 9 40 (.array .int) true := fun C T N h => by cases h; exact ⟨by decide +kernel, rfl, fun _ => rfl⟩
theorem gtX9_41 : GT RX9 9 41 (.array .int) true := fun C T N h => by cases h; exact ⟨by decide +kernel, rfl, fun _ => rfl⟩
end
section
/-! Z-RULES: ints as iI z, z : Int; arrays of ints as iarr t n f, f : Int → Int -/
def iI (z : Int) : Int32 := Int32.ofInt z
abbrev inR (z : Int) : Prop := -2147483648 ≤ z ∧ z < 2147483648
theorem iI_toInt {z : Int} (h : inR z) : (iI z).toInt = z := by
  unfold iI
  rw [Int32.toInt_ofInt]
  show z.bmod 4294967296 = z
  have h1 := h.1
  have h2 := h.2
  exact Int.bmod_eq_of_le (by omega) (by omega)
theorem iI_of (x : Int32) : iI x.toInt = x := Int32.ofInt_toInt x
theorem iI_rng (x : Int32) : inR x.toInt := by
  have h1 := Int32.le_toInt x
  have h2 := Int32.toInt_lt x
  exact ⟨by omega, by omega⟩
theorem iI_add (a b : Int) : iI a + iI b = iI (a + b) := (Int32.ofInt_add a b).symm
theorem iI_sub (a b : Int) : iI a - iI b = iI (a - b) := (Int32.ofInt_sub a b).symm
theorem iI_mul (a b : Int) : iI a * iI b = iI (a * b) := (Int32.ofInt_mul a b).symm
theorem iI_neg (a : Int) : -iI a = iI (-a) := (Int32.ofInt_neg a).symm
theorem iI_lt {a b : Int} (ha : inR a) (hb : inR b) : iI a < iI b ↔ a < b := by rw [Int32.lt_iff_toInt_lt, iI_toInt ha, iI_toInt hb]
theorem iI_le {a b : Int} (ha : inR a) (hb : inR b) : iI a ≤ iI b ↔ a ≤ b := by rw [Int32.le_iff_toInt_le, iI_toInt ha, iI_toInt hb]
theorem iI_eq {a b : Int} (ha : inR a) (hb : inR b) : iI a = iI b ↔ a = b := ⟨fun h => by have := congrArg Int32.toInt h; rwa [iI_toInt ha, iI_toInt hb] at this, fun h => by rw [h]⟩
theorem iI_0 : iI 0 = 0 := rfl
theorem iI_nat (n : Nat) : iI (n : Int) = nI n := by
  unfold iI nI
  rw [Int32.ofInt_eq_ofNat]
theorem iI_clamp {z : Int} (h0 : 0 ≤ z) (h : z < 2147483648) : (iI z).toNatClampNeg = z.toNat := by
  show (iI z).toInt.toNat = z.toNat
  rw [iI_toInt ⟨by omega, h⟩]
theorem iI_in {z : Int} {n : Nat} (h0 : 0 ≤ z) (h : z < (n : Int)) (hn : z < 2147483648) : vp_in (iI z) n := by
  rw [vp_in_iff, iI_toInt ⟨by omega, hn⟩]
  exact ⟨h0, h⟩
theorem iI_div {a b : Int} (ha0 : 0 ≤ a) (ha : a < 2147483648) (hb0 : 0 < b) (hb : b < 2147483648) : iI a / iI b = iI (a / b) := by
  obtain ⟨m, rfl⟩ := Int.eq_ofNat_of_zero_le ha0
  obtain ⟨n, rfl⟩ := Int.eq_ofNat_of_zero_le (Int.le_of_lt hb0)
  have h1 := pk_div (a := m) (d := n) (by omega) (by omega) (by omega)
  rw [iI_nat, iI_nat, h1, ← iI_nat, Int.natCast_ediv]
theorem iI_rem {a b : Int} (ha0 : 0 ≤ a) (ha : a < 2147483648) (hb0 : 0 < b) (hb : b < 2147483648) : iI a - iI a / iI b * iI b = iI (a % b) := by
  rw [iI_div ha0 ha hb0 hb, iI_mul, iI_sub]
  congr 1
  have h1 := Int.mul_ediv_add_emod a b
  rw [Int.mul_comm] at h1
  omega
theorem iI_byte {z : Int} (h0 : -128 ≤ z) (h : z < 128) : (iI z).toInt8.toInt32 = iI z := by
  have h1 := Int32.toInt_inj.mp (show ((iI z).toInt8.toInt32).toInt = (iI z).toInt from ?_)
  · exact h1
  · rw [iI_toInt ⟨by omega, by omega⟩, Int8.toInt_toInt32, Int32.toInt_toInt8, iI_toInt ⟨by omega, by omega⟩]
    exact Int.bmod_eq_of_le (by omega) (by omega)
theorem iI_short {z : Int} (h0 : -32768 ≤ z) (h : z < 32768) : (iI z).toInt16.toInt32 = iI z := by
  have h1 := Int32.toInt_inj.mp (show ((iI z).toInt16.toInt32).toInt = (iI z).toInt from ?_)
  · exact h1
  · rw [iI_toInt ⟨by omega, by omega⟩, Int16.toInt_toInt32, Int32.toInt_toInt16, iI_toInt ⟨by omega, by omega⟩]
    exact Int.bmod_eq_of_le (by omega) (by omega)
theorem iI_long (z : Int) (h : inR z) : (iI z).toInt64 = Int64.ofInt z := by
  have h1 := Int64.ofInt_toInt ((iI z).toInt64)
  rw [← h1, Int32.toInt_toInt64, iI_toInt h]
/-- a function changed at a place -/
def fu (f : Int → Int) (i v : Int) : Int → Int := fun j => if j = i then v else f j
theorem fu_s (f : Int → Int) (i v : Int) : fu f i v i = v := by simp [fu]
theorem fu_n {f : Int → Int} {i v j : Int} (h : j ≠ i) : fu f i v j = f j := by simp [fu, h]
def iarr (t n : Nat) (f : Int → Int) : va_E := .inl (t, n, .inl (fun j => iI (f (j : Int))))
theorem iarr_up {f : Int → Int} {z v : Int} (h0 : 0 ≤ z) : upd (fun j => iI (f ((j : Nat) : Int))) z.toNat (iI v) = fun j => iI (fu f z v ((j : Nat) : Int)) := by
  funext j
  by_cases h : j = z.toNat
  · subst h
    have h1 : ((z.toNat : Nat) : Int) = z := Int.toNat_of_nonneg h0
    simp [upd, h1, fu_s]
  · have h1 : (j : Int) ≠ z := by omega
    simp [upd, h, fu_n h1]
section FWZ
variable {X : Cx} {l0 : Launch} {g : Gw} {μ : Md} {d mc ms : Nat} {Z : State → Prop} {kc ks pc : Nat} {L : List (Option Value)} {st : List Value} {σ : Sg}
theorem z_iconst {n : Int} (b : BX X l0 g μ d mc ms) (hd : decode μ.2.1 pc = .ok (.iconst n, 1)) (kk : WW X g μ.2.2.1 Z kc ks (pc + 1) L (.int (iI n) :: st) σ) : WW X g μ.2.2.1 Z kc ks pc L st σ := w_iconst b hd rfl kk
theorem z_bipush {n : Int} (b : BX X l0 g μ d mc ms) (hd : decode μ.2.1 pc = .ok (.bipush n, 2)) (hv : (Int8.ofInt n).toInt32 = iI n) (kk : WW X g μ.2.2.1 Z kc ks (pc + 2) L (.int (iI n) :: st) σ) : WW X g μ.2.2.1 Z kc ks pc L st σ := w_bipush b hd hv kk
theorem z_sipush {n : Int} (b : BX X l0 g μ d mc ms) (hd : decode μ.2.1 pc = .ok (.sipush n, 3)) (hv : (Int16.ofInt n).toInt32 = iI n) (kk : WW X g μ.2.2.1 Z kc ks (pc + 3) L (.int (iI n) :: st) σ) : WW X g μ.2.2.1 Z kc ks pc L st σ := w_sipush b hd hv kk
theorem z_iinc {i : Nat} {n x v : Int} (b : BX X l0 g μ d mc ms) (hd : decode μ.2.1 pc = .ok (.iinc i n, 3)) (hl : L[i]? = some (some (.int (iI x)))) (ok : okS L i = true) (hv : x + n = v)
    (kk : WW X g μ.2.2.1 Z kc ks (pc + 3) (L.set i (some (.int (iI v)))) st σ) : WW X g μ.2.2.1 Z kc ks pc L st σ := w_iinc b hd hl ok (by rw [← hv]; exact iI_add x n) kk
theorem z_iadd {x y : Int} (b : BX X l0 g μ d mc ms) (hd : decode μ.2.1 pc = .ok (.iadd, 1)) (kk : WW X g μ.2.2.1 Z kc ks (pc + 1) L (.int (iI (x + y)) :: st) σ) : WW X g μ.2.2.1 Z kc ks pc L (.int (iI y) :: .int (iI x) :: st) σ := w_iadd b hd (by rw [iI_add]; exact kk)
theorem z_isub {x y : Int} (b : BX X l0 g μ d mc ms) (hd : decode μ.2.1 pc = .ok (.isub, 1)) (kk : WW X g μ.2.2.1 Z kc ks (pc + 1) L (.int (iI (x - y)) :: st) σ) : WW X g μ.2.2.1 Z kc ks pc L (.int (iI y) :: .int (iI x) :: st) σ := w_isub b hd (by rw [iI_sub]; exact kk)
theorem z_imul {x y : Int} (b : BX X l0 g μ d mc ms) (hd : decode μ.2.1 pc = .ok (.imul, 1)) (kk : WW X g μ.2.2.1 Z kc ks (pc + 1) L (.int (iI (x * y)) :: st) σ) : WW X g μ.2.2.1 Z kc ks pc L (.int (iI y) :: .int (iI x) :: st) σ := w_imul b hd (by rw [iI_mul]; exact kk)
theorem z_ineg {x : Int} (b : BX X l0 g μ d mc ms) (hd : decode μ.2.1 pc = .ok (.ineg, 1)) (kk : WW X g μ.2.2.1 Z kc ks (pc + 1) L (.int (iI (-x)) :: st) σ) : WW X g μ.2.2.1 Z kc ks pc L (.int (iI x) :: st) σ := w_ineg b hd (by rw [iI_neg]; exact kk)
theorem z_idiv {x y : Int} (b : BX X l0 g μ d mc ms) (hd : decode μ.2.1 pc = .ok (.idiv, 1)) (h : 0 ≤ x ∧ x < 2147483648 ∧ 0 < y ∧ y < 2147483648) (kk : WW X g μ.2.2.1 Z kc ks (pc + 1) L (.int (iI (x / y)) :: st) σ) : WW X g μ.2.2.1 Z kc ks pc L (.int (iI y) :: .int (iI x) :: st) σ := w_idiv b hd (fun z => by have := (iI_eq (b := 0) ⟨by omega, h.2.2.2⟩ ⟨by omega, by omega⟩).mp z; omega) (by rw [iI_div h.1 h.2.1 h.2.2.1 h.2.2.2]; exact kk)
theorem z_irem {x y : Int} (b : BX X l0 g μ d mc ms) (hd : decode μ.2.1 pc = .ok (.irem, 1)) (h : 0 ≤ x ∧ x < 2147483648 ∧ 0 < y ∧ y < 2147483648) (kk : WW X g μ.2.2.1 Z kc ks (pc + 1) L (.int (iI (x % y)) :: st) σ) : WW X g μ.2.2.1 Z kc ks pc L (.int (iI y) :: .int (iI x) :: st) σ := w_irem b hd (fun z => by have := (iI_eq (b := 0) ⟨by omega, h.2.2.2⟩ ⟨by omega, by omega⟩).mp z; omega) (by rw [iI_rem h.1 h.2.1 h.2.2.1 h.2.2.2]; exact kk)
theorem z_i2b {x : Int} (b : BX X l0 g μ d mc ms) (hd : decode μ.2.1 pc = .ok (.i2b, 1)) (h : -128 ≤ x ∧ x < 128) (kk : WW X g μ.2.2.1 Z kc ks (pc + 1) L (.int (iI x) :: st) σ) : WW X g μ.2.2.1 Z kc ks pc L (.int (iI x) :: st) σ := w_i2b b hd (by rw [iI_byte h.1 h.2]; exact kk)
theorem z_i2s {x : Int} (b : BX X l0 g μ d mc ms) (hd : decode μ.2.1 pc = .ok (.i2s, 1)) (h : -32768 ≤ x ∧ x < 32768) (kk : WW X g μ.2.2.1 Z kc ks (pc + 1) L (.int (iI x) :: st) σ) : WW X g μ.2.2.1 Z kc ks pc L (.int (iI x) :: st) σ := w_i2s b hd (by rw [iI_short h.1 h.2]; exact kk)
theorem z_if_eq {x : Int} {off : Int} {tgt : Nat} (b : BX X l0 g μ d mc ms) (hd : decode μ.2.1 pc = .ok (.ifCond .eq off, 3)) (ht : (pc : Int) + off = (tgt : Int)) (hx : inR x) (kt : x = 0 → WW X g μ.2.2.1 Z kc ks tgt L st σ) (kf : ¬ x = 0 → WW X g μ.2.2.1 Z kc ks (pc + 3) L st σ) : WW X g μ.2.2.1 Z kc ks pc L (.int (iI x) :: st) σ := w_if_eq b hd ht (fun z => kt ((iI_eq hx (by decide)).mp z)) (fun z => kf (fun w => z ((iI_eq hx (by decide)).mpr w)))
theorem z_if_ne {x : Int} {off : Int} {tgt : Nat} (b : BX X l0 g μ d mc ms) (hd : decode μ.2.1 pc = .ok (.ifCond .ne off, 3)) (ht : (pc : Int) + off = (tgt : Int)) (hx : inR x) (kt : ¬ x = 0 → WW X g μ.2.2.1 Z kc ks tgt L st σ) (kf : x = 0 → WW X g μ.2.2.1 Z kc ks (pc + 3) L st σ) : WW X g μ.2.2.1 Z kc ks pc L (.int (iI x) :: st) σ := w_if_ne b hd ht (fun z => kt (fun w => z ((iI_eq hx (by decide)).mpr w))) (fun z => kf ((iI_eq hx (by decide)).mp z))
theorem z_if_lt {x : Int} {off : Int} {tgt : Nat} (b : BX X l0 g μ d mc ms) (hd : decode μ.2.1 pc = .ok (.ifCond .lt off, 3)) (ht : (pc : Int) + off = (tgt : Int)) (hx : inR x) (kt : x < 0 → WW X g μ.2.2.1 Z kc ks tgt L st σ) (kf : ¬ x < 0 → WW X g μ.2.2.1 Z kc ks (pc + 3) L st σ) : WW X g μ.2.2.1 Z kc ks pc L (.int (iI x) :: st) σ := w_if_lt b hd ht (fun z => kt ((iI_lt hx (by decide)).mp z)) (fun z => kf (fun w => z ((iI_lt hx (by decide)).mpr w)))
theorem z_if_ge {x : Int} {off : Int} {tgt : Nat} (b : BX X l0 g μ d mc ms) (hd : decode μ.2.1 pc = .ok (.ifCond .ge off, 3)) (ht : (pc : Int) + off = (tgt : Int)) (hx : inR x) (kt : 0 ≤ x → WW X g μ.2.2.1 Z kc ks tgt L st σ) (kf : ¬ 0 ≤ x → WW X g μ.2.2.1 Z kc ks (pc + 3) L st σ) : WW X g μ.2.2.1 Z kc ks pc L (.int (iI x) :: st) σ := w_if_ge b hd ht (fun z => kt ((iI_le (by decide) hx).mp z)) (fun z => kf (fun w => z ((iI_le (by decide) hx).mpr w)))
theorem z_if_gt {x : Int} {off : Int} {tgt : Nat} (b : BX X l0 g μ d mc ms) (hd : decode μ.2.1 pc = .ok (.ifCond .gt off, 3)) (ht : (pc : Int) + off = (tgt : Int)) (hx : inR x) (kt : 0 < x → WW X g μ.2.2.1 Z kc ks tgt L st σ) (kf : ¬ 0 < x → WW X g μ.2.2.1 Z kc ks (pc + 3) L st σ) : WW X g μ.2.2.1 Z kc ks pc L (.int (iI x) :: st) σ := w_if_gt b hd ht (fun z => kt ((iI_lt (by decide) hx).mp z)) (fun z => kf (fun w => z ((iI_lt (by decide) hx).mpr w)))
theorem z_if_le {x : Int} {off : Int} {tgt : Nat} (b : BX X l0 g μ d mc ms) (hd : decode μ.2.1 pc = .ok (.ifCond .le off, 3)) (ht : (pc : Int) + off = (tgt : Int)) (hx : inR x) (kt : x ≤ 0 → WW X g μ.2.2.1 Z kc ks tgt L st σ) (kf : ¬ x ≤ 0 → WW X g μ.2.2.1 Z kc ks (pc + 3) L st σ) : WW X g μ.2.2.1 Z kc ks pc L (.int (iI x) :: st) σ := w_if_le b hd ht (fun z => kt ((iI_le hx (by decide)).mp z)) (fun z => kf (fun w => z ((iI_le hx (by decide)).mpr w)))
theorem z_icmp_eq {x y : Int} {off : Int} {tgt : Nat} (b : BX X l0 g μ d mc ms) (hd : decode μ.2.1 pc = .ok (.if_icmp .eq off, 3)) (ht : (pc : Int) + off = (tgt : Int)) (hx : inR x ∧ inR y) (kt : x = y → WW X g μ.2.2.1 Z kc ks tgt L st σ) (kf : ¬ x = y → WW X g μ.2.2.1 Z kc ks (pc + 3) L st σ) : WW X g μ.2.2.1 Z kc ks pc L (.int (iI y) :: .int (iI x) :: st) σ := w_icmp_eq b hd ht (fun z => kt ((iI_eq hx.1 hx.2).mp z)) (fun z => kf (fun w => z ((iI_eq hx.1 hx.2).mpr w)))
theorem z_icmp_ne {x y : Int} {off : Int} {tgt : Nat} (b : BX X l0 g μ d mc ms) (hd : decode μ.2.1 pc = .ok (.if_icmp .ne off, 3)) (ht : (pc : Int) + off = (tgt : Int)) (hx : inR x ∧ inR y) (kt : ¬ x = y → WW X g μ.2.2.1 Z kc ks tgt L st σ) (kf : x = y → WW X g μ.2.2.1 Z kc ks (pc + 3) L st σ) : WW X g μ.2.2.1 Z kc ks pc L (.int (iI y) :: .int (iI x) :: st) σ := w_icmp_ne b hd ht (fun z => kt (fun w => z ((iI_eq hx.1 hx.2).mpr w))) (fun z => kf ((iI_eq hx.1 hx.2).mp z))
theorem z_icmp_lt {x y : Int} {off : Int} {tgt : Nat} (b : BX X l0 g μ d mc ms) (hd : decode μ.2.1 pc = .ok (.if_icmp .lt off, 3)) (ht : (pc : Int) + off = (tgt : Int)) (hx : inR x ∧ inR y) (kt : x < y → WW X g μ.2.2.1 Z kc ks tgt L st σ) (kf : ¬ x < y → WW X g μ.2.2.1 Z kc ks (pc + 3) L st σ) : WW X g μ.2.2.1 Z kc ks pc L (.int (iI y) :: .int (iI x) :: st) σ := w_icmp_lt b hd ht (fun z => kt ((iI_lt hx.1 hx.2).mp z)) (fun z => kf (fun w => z ((iI_lt hx.1 hx.2).mpr w)))
theorem z_icmp_ge {x y : Int} {off : Int} {tgt : Nat} (b : BX X l0 g μ d mc ms) (hd : decode μ.2.1 pc = .ok (.if_icmp .ge off, 3)) (ht : (pc : Int) + off = (tgt : Int)) (hx : inR x ∧ inR y) (kt : y ≤ x → WW X g μ.2.2.1 Z kc ks tgt L st σ) (kf : ¬ y ≤ x → WW X g μ.2.2.1 Z kc ks (pc + 3) L st σ) : WW X g μ.2.2.1 Z kc ks pc L (.int (iI y) :: .int (iI x) :: st) σ := w_icmp_ge b hd ht (fun z => kt ((iI_le hx.2 hx.1).mp z)) (fun z => kf (fun w => z ((iI_le hx.2 hx.1).mpr w)))
theorem z_icmp_gt {x y : Int} {off : Int} {tgt : Nat} (b : BX X l0 g μ d mc ms) (hd : decode μ.2.1 pc = .ok (.if_icmp .gt off, 3)) (ht : (pc : Int) + off = (tgt : Int)) (hx : inR x ∧ inR y) (kt : y < x → WW X g μ.2.2.1 Z kc ks tgt L st σ) (kf : ¬ y < x → WW X g μ.2.2.1 Z kc ks (pc + 3) L st σ) : WW X g μ.2.2.1 Z kc ks pc L (.int (iI y) :: .int (iI x) :: st) σ := w_icmp_gt b hd ht (fun z => kt ((iI_lt hx.2 hx.1).mp z)) (fun z => kf (fun w => z ((iI_lt hx.2 hx.1).mpr w)))
theorem z_icmp_le {x y : Int} {off : Int} {tgt : Nat} (b : BX X l0 g μ d mc ms) (hd : decode μ.2.1 pc = .ok (.if_icmp .le off, 3)) (ht : (pc : Int) + off = (tgt : Int)) (hx : inR x ∧ inR y) (kt : x ≤ y → WW X g μ.2.2.1 Z kc ks tgt L st σ) (kf : ¬ x ≤ y → WW X g μ.2.2.1 Z kc ks (pc + 3) L st σ) : WW X g μ.2.2.1 Z kc ks pc L (.int (iI y) :: .int (iI x) :: st) σ := w_icmp_le b hd ht (fun z => kt ((iI_le hx.1 hx.2).mp z)) (fun z => kf (fun w => z ((iI_le hx.1 hx.2).mpr w)))
theorem z_iald {q n : Nat} {f : Int → Int} {i : Int} (b : BX X l0 g μ d mc ms) (hd : decode μ.2.1 pc = .ok (.iaload, 1)) (hc : σ.1 q = iarr 0 n f) (h : 0 ≤ i ∧ i < (n : Int) ∧ i < 2147483648) (kk : WW X g μ.2.2.1 Z kc ks (pc + 1) L (.int (iI (f i)) :: st) σ) : WW X g μ.2.2.1 Z kc ks pc L (.int (iI i) :: .ref q :: st) σ := by
  refine w_iald b hd hc (iI_in h.1 h.2.1 h.2.2) ?_
  rw [iI_clamp h.1 h.2.2, Int.toNat_of_nonneg h.1]
  exact kk
theorem z_bald {q n : Nat} {f : Int → Int} {i : Int} (b : BX X l0 g μ d mc ms) (hd : decode μ.2.1 pc = .ok (.baload, 1)) (hc : σ.1 q = iarr 1 n f) (h : 0 ≤ i ∧ i < (n : Int) ∧ i < 2147483648) (kk : WW X g μ.2.2.1 Z kc ks (pc + 1) L (.int (iI (f i)) :: st) σ) : WW X g μ.2.2.1 Z kc ks pc L (.int (iI i) :: .ref q :: st) σ := by
  refine w_bald b hd hc (iI_in h.1 h.2.1 h.2.2) ?_
  rw [iI_clamp h.1 h.2.2, Int.toNat_of_nonneg h.1]
  exact kk
theorem z_sald {q n : Nat} {f : Int → Int} {i : Int} (b : BX X l0 g μ d mc ms) (hd : decode μ.2.1 pc = .ok (.saload, 1)) (hc : σ.1 q = iarr 2 n f) (h : 0 ≤ i ∧ i < (n : Int) ∧ i < 2147483648) (kk : WW X g μ.2.2.1 Z kc ks (pc + 1) L (.int (iI (f i)) :: st) σ) : WW X g μ.2.2.1 Z kc ks pc L (.int (iI i) :: .ref q :: st) σ := by
  refine w_sald b hd hc (iI_in h.1 h.2.1 h.2.2) ?_
  rw [iI_clamp h.1 h.2.2, Int.toNat_of_nonneg h.1]
  exact kk
theorem z_iast {q n : Nat} {f : Int → Int} {i v : Int} (b : BX X l0 g μ d mc ms) (hd : decode μ.2.1 pc = .ok (.iastore, 1)) (hc : σ.1 q = iarr 0 n f) (h : 0 ≤ i ∧ i < (n : Int) ∧ i < 2147483648) (kk : WW X g μ.2.2.1 Z kc ks (pc + 1) L st (va_up σ.1 q (iarr 0 n (fu f i v)), σ.2)) : WW X g μ.2.2.1 Z kc ks pc L (.int (iI v) :: .int (iI i) :: .ref q :: st) σ := by
  refine w_iast b hd hc (iI_in h.1 h.2.1 h.2.2) ?_
  rw [iI_clamp h.1 h.2.2, iarr_up h.1]
  exact kk
theorem z_bast {q n : Nat} {f : Int → Int} {i v : Int} (b : BX X l0 g μ d mc ms) (hd : decode μ.2.1 pc = .ok (.bastore, 1)) (hc : σ.1 q = iarr 1 n f) (h : 0 ≤ i ∧ i < (n : Int) ∧ i < 2147483648) (hv : -128 ≤ v ∧ v < 128) (kk : WW X g μ.2.2.1 Z kc ks (pc + 1) L st (va_up σ.1 q (iarr 1 n (fu f i v)), σ.2)) : WW X g μ.2.2.1 Z kc ks pc L (.int (iI v) :: .int (iI i) :: .ref q :: st) σ := by
  refine w_bast b hd hc (iI_in h.1 h.2.1 h.2.2) ?_
  rw [iI_clamp h.1 h.2.2, vp_nar_byte, iI_byte hv.1 hv.2, iarr_up h.1]
  exact kk
theorem z_sast {q n : Nat} {f : Int → Int} {i v : Int} (b : BX X l0 g μ d mc ms) (hd : decode μ.2.1 pc = .ok (.sastore, 1)) (hc : σ.1 q = iarr 2 n f) (h : 0 ≤ i ∧ i < (n : Int) ∧ i < 2147483648) (hv : -32768 ≤ v ∧ v < 32768) (kk : WW X g μ.2.2.1 Z kc ks (pc + 1) L st (va_up σ.1 q (iarr 2 n (fu f i v)), σ.2)) : WW X g μ.2.2.1 Z kc ks pc L (.int (iI v) :: .int (iI i) :: .ref q :: st) σ := by
  refine w_sast b hd hc (iI_in h.1 h.2.1 h.2.2) ?_
  rw [iI_clamp h.1 h.2.2, vp_nar_short, iI_short hv.1 hv.2, iarr_up h.1]
  exact kk
theorem z_alen {q n t : Nat} {f : Int → Int} (b : BX X l0 g μ d mc ms) (hd : decode μ.2.1 pc = .ok (.arraylength, 1)) (hc : σ.1 q = iarr t n f) (ht : t < 8) (kk : WW X g μ.2.2.1 Z kc ks (pc + 1) L (.int (iI (n : Int)) :: st) σ) : WW X g μ.2.2.1 Z kc ks pc L (.ref q :: st) σ := w_alen b hd hc ht (iI_nat n).symm kk
theorem z_newa {t : Nat} {n : Int} {N : Nat} (b : BX X l0 g μ d mc ms) (hd : decode μ.2.1 pc = .ok (.newarray (arT t).1, 2)) (hw : Cond.arrayClass (arT t).2 ∈ gw) (ht : t < 3) (hN : n = (N : Int)) (hb8 : N ≤ 67108864) (hkc : kc + 1 ≤ mc) (hks : ks + N ≤ ms)
    (kk : WW X g μ.2.2.1 Z (kc + 1) (ks + N) (pc + 2) L (.ref σ.2 :: st) (va_up σ.1 σ.2 (iarr t N (fun _ => 0)), σ.2 + 1)) : WW X g μ.2.2.1 Z kc ks pc L (.int (iI n) :: st) σ := by
  subst hN
  exact w_newa b hd hw (by omega) (by rw [if_neg (by omega)]; rfl) (fun z => by rw [← iI_0] at z; have := (iI_lt (a := (N : Int)) ⟨by omega, by omega⟩ (by decide)).mp z; omega) (by rw [iI_clamp (by omega) (by omega)]; rfl) hb8 hkc hks kk
def MD (l : Launch) (g : Gw) (d : Nat) (μ : Md) (σ : Sg) (vs : List Value) (mc ms : Nat) (r : Option Value) (σ1 : Sg) : Prop := MM l g d μ σ vs mc ms (fun r' σ' => r' = r ∧ σ' = σ1)
theorem MD.of {vs : List Value} {r : Option Value} {σ1 : Sg} (hy : plainName μ.1.cls = true) (hcat : ∀ v ∈ vs, v.category = 1) (hlen : vs.length ≤ μ.2.2.1)
    (h : ∀ X : Cx, BX X l0 g μ d mc ms → WW X g μ.2.2.1 (ZQ X g (fun r' σ' => r' = r ∧ σ' = σ1) mc ms) 0 0 0 (arL vs μ.2.2.1) [] σ) : MD l0 g d μ σ vs mc ms r σ1 := MM.of hy hcat hlen h
theorem c_V0 {idx ci d' mc' ms' q : Nat} {μ' : Md} {fs : List Value}  {w : Value} {σ1 : Sg} (b : BX X l0 g μ d mc ms) (hd : decode μ.2.1 pc = .ok (.invokevirtual idx, 3)) (lk : LV μ.1.cls idx 0 ci μ') (hc : σ.1 q = .inr (ci, fs)) (hM : MD l0 g d' μ' σ (.ref q :: []) mc' ms' (some w) σ1) (hw : (st.map fun v => v.category).sum ≤ 8) (hdd : d' + 1 ≤ d) (hkc : kc + mc' ≤ mc) (hks : ks + ms' ≤ ms) (kk : WW X g μ.2.2.1 Z (kc + mc') (ks + ms') (pc + 3) L (w :: st) σ1) : WW X g μ.2.2.1 Z kc ks pc L (.ref q :: st) σ := w_callV (vs := []) b hd lk rfl rfl hc hw hdd hkc hks hM (fun r σ' hq => by obtain ⟨rfl, rfl⟩ := hq; exact kk)
theorem c_S0 {idx d' mc' ms' : Nat} {μ' : Md}  {w : Value} {σ1 : Sg} (b : BX X l0 g μ d mc ms) (hd : decode μ.2.1 pc = .ok (.invokestatic idx, 3)) (lk : LSt μ.1.cls idx 0 μ') (hM : MD l0 g d' μ' σ [] mc' ms' (some w) σ1) (hw : (st.map fun v => v.category).sum ≤ 8) (hdd : d' + 1 ≤ d) (hkc : kc + mc' ≤ mc) (hks : ks + ms' ≤ ms) (kk : WW X g μ.2.2.1 Z (kc + mc') (ks + ms') (pc + 3) L (w :: st) σ1) : WW X g μ.2.2.1 Z kc ks pc L (st) σ := w_callS (vs := []) b hd lk rfl rfl hw hdd hkc hks hM (fun r σ' hq => by obtain ⟨rfl, rfl⟩ := hq; exact kk)
theorem c_V0v {idx ci d' mc' ms' q : Nat} {μ' : Md} {fs : List Value}   {σ1 : Sg} (b : BX X l0 g μ d mc ms) (hd : decode μ.2.1 pc = .ok (.invokevirtual idx, 3)) (lk : LV μ.1.cls idx 0 ci μ') (hc : σ.1 q = .inr (ci, fs)) (hM : MD l0 g d' μ' σ (.ref q :: []) mc' ms' none σ1) (hw : (st.map fun v => v.category).sum ≤ 8) (hdd : d' + 1 ≤ d) (hkc : kc + mc' ≤ mc) (hks : ks + ms' ≤ ms) (kk : WW X g μ.2.2.1 Z (kc + mc') (ks + ms') (pc + 3) L (st) σ1) : WW X g μ.2.2.1 Z kc ks pc L (.ref q :: st) σ := w_callV (vs := []) b hd lk rfl rfl hc hw hdd hkc hks hM (fun r σ' hq => by obtain ⟨rfl, rfl⟩ := hq; exact kk)
theorem c_S0v {idx d' mc' ms' : Nat} {μ' : Md}   {σ1 : Sg} (b : BX X l0 g μ d mc ms) (hd : decode μ.2.1 pc = .ok (.invokestatic idx, 3)) (lk : LSt μ.1.cls idx 0 μ') (hM : MD l0 g d' μ' σ [] mc' ms' none σ1) (hw : (st.map fun v => v.category).sum ≤ 8) (hdd : d' + 1 ≤ d) (hkc : kc + mc' ≤ mc) (hks : ks + ms' ≤ ms) (kk : WW X g μ.2.2.1 Z (kc + mc') (ks + ms') (pc + 3) L (st) σ1) : WW X g μ.2.2.1 Z kc ks pc L (st) σ := w_callS (vs := []) b hd lk rfl rfl hw hdd hkc hks hM (fun r σ' hq => by obtain ⟨rfl, rfl⟩ := hq; exact kk)
theorem c_I0 {idx d' mc' ms' q : Nat} {μ' : Md}  {σ1 : Sg} (b : BX X l0 g μ d mc ms) (hd : decode μ.2.1 pc = .ok (.invokespecial idx, 3)) (lk : LI μ.1.cls idx 0 μ') (hM : MD l0 g d' μ' σ (.ref q :: []) mc' ms' none σ1) (hw : (st.map fun v => v.category).sum ≤ 8) (hdd : d' + 1 ≤ d) (hkc : kc + mc' ≤ mc) (hks : ks + ms' ≤ ms) (kk : WW X g μ.2.2.1 Z (kc + mc') (ks + ms') (pc + 3) L st σ1) : WW X g μ.2.2.1 Z kc ks pc L (.ref q :: st) σ := w_callI (vs := []) b hd lk rfl rfl hw hdd hkc hks hM (fun r σ' hq => by obtain ⟨rfl, rfl⟩ := hq; exact kk)
theorem c_V1 {idx ci d' mc' ms' q : Nat} {μ' : Md} {fs : List Value} {v1 : Value} {w : Value} {σ1 : Sg} (b : BX X l0 g μ d mc ms) (hd : decode μ.2.1 pc = .ok (.invokevirtual idx, 3)) (lk : LV μ.1.cls idx 1 ci μ') (hc : σ.1 q = .inr (ci, fs)) (hM : MD l0 g d' μ' σ (.ref q :: [v1]) mc' ms' (some w) σ1) (hw : (st.map fun v => v.category).sum ≤ 8) (hdd : d' + 1 ≤ d) (hkc : kc + mc' ≤ mc) (hks : ks + ms' ≤ ms) (kk : WW X g μ.2.2.1 Z (kc + mc') (ks + ms') (pc + 3) L (w :: st) σ1) : WW X g μ.2.2.1 Z kc ks pc L (v1 :: .ref q :: st) σ := w_callV (vs := [v1]) b hd lk rfl rfl hc hw hdd hkc hks hM (fun r σ' hq => by obtain ⟨rfl, rfl⟩ := hq; exact kk)
theorem c_S1 {idx d' mc' ms' : Nat} {μ' : Md} {v1 : Value} {w : Value} {σ1 : Sg} (b : BX X l0 g μ d mc ms) (hd : decode μ.2.1 pc = .ok (.invokestatic idx, 3)) (lk : LSt μ.1.cls idx 1 μ') (hM : MD l0 g d' μ' σ [v1] mc' ms' (some w) σ1) (hw : (st.map fun v => v.category).sum ≤ 8) (hdd : d' + 1 ≤ d) (hkc : kc + mc' ≤ mc) (hks : ks + ms' ≤ ms) (kk : WW X g μ.2.2.1 Z (kc + mc') (ks + ms') (pc + 3) L (w :: st) σ1) : WW X g μ.2.2.1 Z kc ks pc L (v1 :: st) σ := w_callS (vs := [v1]) b hd lk rfl rfl hw hdd hkc hks hM (fun r σ' hq => by obtain ⟨rfl, rfl⟩ := hq; exact kk)
theorem c_V1v {idx ci d' mc' ms' q : Nat} {μ' : Md} {fs : List Value} {v1 : Value}  {σ1 : Sg} (b : BX X l0 g μ d mc ms) (hd : decode μ.2.1 pc = .ok (.invokevirtual idx, 3)) (lk : LV μ.1.cls idx 1 ci μ') (hc : σ.1 q = .inr (ci, fs)) (hM : MD l0 g d' μ' σ (.ref q :: [v1]) mc' ms' none σ1) (hw : (st.map fun v => v.category).sum ≤ 8) (hdd : d' + 1 ≤ d) (hkc : kc + mc' ≤ mc) (hks : ks + ms' ≤ ms) (kk : WW X g μ.2.2.1 Z (kc + mc') (ks + ms') (pc + 3) L (st) σ1) : WW X g μ.2.2.1 Z kc ks pc L (v1 :: .ref q :: st) σ := w_callV (vs := [v1]) b hd lk rfl rfl hc hw hdd hkc hks hM (fun r σ' hq => by obtain ⟨rfl, rfl⟩ := hq; exact kk)
theorem c_S1v {idx d' mc' ms' : Nat} {μ' : Md} {v1 : Value}  {σ1 : Sg} (b : BX X l0 g μ d mc ms) (hd : decode μ.2.1 pc = .ok (.invokestatic idx, 3)) (lk : LSt μ.1.cls idx 1 μ') (hM : MD l0 g d' μ' σ [v1] mc' ms' none σ1) (hw : (st.map fun v => v.category).sum ≤ 8) (hdd : d' + 1 ≤ d) (hkc : kc + mc' ≤ mc) (hks : ks + ms' ≤ ms) (kk : WW X g μ.2.2.1 Z (kc + mc') (ks + ms') (pc + 3) L (st) σ1) : WW X g μ.2.2.1 Z kc ks pc L (v1 :: st) σ := w_callS (vs := [v1]) b hd lk rfl rfl hw hdd hkc hks hM (fun r σ' hq => by obtain ⟨rfl, rfl⟩ := hq; exact kk)
theorem c_I1 {idx d' mc' ms' q : Nat} {μ' : Md} {v1 : Value} {σ1 : Sg} (b : BX X l0 g μ d mc ms) (hd : decode μ.2.1 pc = .ok (.invokespecial idx, 3)) (lk : LI μ.1.cls idx 1 μ') (hM : MD l0 g d' μ' σ (.ref q :: [v1]) mc' ms' none σ1) (hw : (st.map fun v => v.category).sum ≤ 8) (hdd : d' + 1 ≤ d) (hkc : kc + mc' ≤ mc) (hks : ks + ms' ≤ ms) (kk : WW X g μ.2.2.1 Z (kc + mc') (ks + ms') (pc + 3) L st σ1) : WW X g μ.2.2.1 Z kc ks pc L (v1 :: .ref q :: st) σ := w_callI (vs := [v1]) b hd lk rfl rfl hw hdd hkc hks hM (fun r σ' hq => by obtain ⟨rfl, rfl⟩ := hq; exact kk)
theorem c_V2 {idx ci d' mc' ms' q : Nat} {μ' : Md} {fs : List Value} {v1 v2 : Value} {w : Value} {σ1 : Sg} (b : BX X l0 g μ d mc ms) (hd : decode μ.2.1 pc = .ok (.invokevirtual idx, 3)) (lk : LV μ.1.cls idx 2 ci μ') (hc : σ.1 q = .inr (ci, fs)) (hM : MD l0 g d' μ' σ (.ref q :: [v1, v2]) mc' ms' (some w) σ1) (hw : (st.map fun v => v.category).sum ≤ 8) (hdd : d' + 1 ≤ d) (hkc : kc + mc' ≤ mc) (hks : ks + ms' ≤ ms) (kk : WW X g μ.2.2.1 Z (kc + mc') (ks + ms') (pc + 3) L (w :: st) σ1) : WW X g μ.2.2.1 Z kc ks pc L (v2 :: v1 :: .ref q :: st) σ := w_callV (vs := [v1, v2]) b hd lk rfl rfl hc hw hdd hkc hks hM (fun r σ' hq => by obtain ⟨rfl, rfl⟩ := hq; exact kk)
theorem c_S2 {idx d' mc' ms' : Nat} {μ' : Md} {v1 v2 : Value} {w : Value} {σ1 : Sg} (b : BX X l0 g μ d mc ms) (hd : decode μ.2.1 pc = .ok (.invokestatic idx, 3)) (lk : LSt μ.1.cls idx 2 μ') (hM : MD l0 g d' μ' σ [v1, v2] mc' ms' (some w) σ1) (hw : (st.map fun v => v.category).sum ≤ 8) (hdd : d' + 1 ≤ d) (hkc : kc + mc' ≤ mc) (hks : ks + ms' ≤ ms) (kk : WW X g μ.2.2.1 Z (kc + mc') (ks + ms') (pc + 3) L (w :: st) σ1) : WW X g μ.2.2.1 Z kc ks pc L (v2 :: v1 :: st) σ := w_callS (vs := [v1, v2]) b hd lk rfl rfl hw hdd hkc hks hM (fun r σ' hq => by obtain ⟨rfl, rfl⟩ := hq; exact kk)
theorem c_V2v {idx ci d' mc' ms' q : Nat} {μ' : Md} {fs : List Value} {v1 v2 : Value}  {σ1 : Sg} (b : BX X l0 g μ d mc ms) (hd : decode μ.2.1 pc = .ok (.invokevirtual idx, 3)) (lk : LV μ.1.cls idx 2 ci μ') (hc : σ.1 q = .inr (ci, fs)) (hM : MD l0 g d' μ' σ (.ref q :: [v1, v2]) mc' ms' none σ1) (hw : (st.map fun v => v.category).sum ≤ 8) (hdd : d' + 1 ≤ d) (hkc : kc + mc' ≤ mc) (hks : ks + ms' ≤ ms) (kk : WW X g μ.2.2.1 Z (kc + mc') (ks + ms') (pc + 3) L (st) σ1) : WW X g μ.2.2.1 Z kc ks pc L (v2 :: v1 :: .ref q :: st) σ := w_callV (vs := [v1, v2]) b hd lk rfl rfl hc hw hdd hkc hks hM (fun r σ' hq => by obtain ⟨rfl, rfl⟩ := hq; exact kk)
theorem c_S2v {idx d' mc' ms' : Nat} {μ' : Md} {v1 v2 : Value}  {σ1 : Sg} (b : BX X l0 g μ d mc ms) (hd : decode μ.2.1 pc = .ok (.invokestatic idx, 3)) (lk : LSt μ.1.cls idx 2 μ') (hM : MD l0 g d' μ' σ [v1, v2] mc' ms' none σ1) (hw : (st.map fun v => v.category).sum ≤ 8) (hdd : d' + 1 ≤ d) (hkc : kc + mc' ≤ mc) (hks : ks + ms' ≤ ms) (kk : WW X g μ.2.2.1 Z (kc + mc') (ks + ms') (pc + 3) L (st) σ1) : WW X g μ.2.2.1 Z kc ks pc L (v2 :: v1 :: st) σ := w_callS (vs := [v1, v2]) b hd lk rfl rfl hw hdd hkc hks hM (fun r σ' hq => by obtain ⟨rfl, rfl⟩ := hq; exact kk)
theorem c_I2 {idx d' mc' ms' q : Nat} {μ' : Md} {v1 v2 : Value} {σ1 : Sg} (b : BX X l0 g μ d mc ms) (hd : decode μ.2.1 pc = .ok (.invokespecial idx, 3)) (lk : LI μ.1.cls idx 2 μ') (hM : MD l0 g d' μ' σ (.ref q :: [v1, v2]) mc' ms' none σ1) (hw : (st.map fun v => v.category).sum ≤ 8) (hdd : d' + 1 ≤ d) (hkc : kc + mc' ≤ mc) (hks : ks + ms' ≤ ms) (kk : WW X g μ.2.2.1 Z (kc + mc') (ks + ms') (pc + 3) L st σ1) : WW X g μ.2.2.1 Z kc ks pc L (v2 :: v1 :: .ref q :: st) σ := w_callI (vs := [v1, v2]) b hd lk rfl rfl hw hdd hkc hks hM (fun r σ' hq => by obtain ⟨rfl, rfl⟩ := hq; exact kk)
theorem c_V3 {idx ci d' mc' ms' q : Nat} {μ' : Md} {fs : List Value} {v1 v2 v3 : Value} {w : Value} {σ1 : Sg} (b : BX X l0 g μ d mc ms) (hd : decode μ.2.1 pc = .ok (.invokevirtual idx, 3)) (lk : LV μ.1.cls idx 3 ci μ') (hc : σ.1 q = .inr (ci, fs)) (hM : MD l0 g d' μ' σ (.ref q :: [v1, v2, v3]) mc' ms' (some w) σ1) (hw : (st.map fun v => v.category).sum ≤ 8) (hdd : d' + 1 ≤ d) (hkc : kc + mc' ≤ mc) (hks : ks + ms' ≤ ms) (kk : WW X g μ.2.2.1 Z (kc + mc') (ks + ms') (pc + 3) L (w :: st) σ1) : WW X g μ.2.2.1 Z kc ks pc L (v3 :: v2 :: v1 :: .ref q :: st) σ := w_callV (vs := [v1, v2, v3]) b hd lk rfl rfl hc hw hdd hkc hks hM (fun r σ' hq => by obtain ⟨rfl, rfl⟩ := hq; exact kk)
theorem c_S3 {idx d' mc' ms' : Nat} {μ' : Md} {v1 v2 v3 : Value} {w : Value} {σ1 : Sg} (b : BX X l0 g μ d mc ms) (hd : decode μ.2.1 pc = .ok (.invokestatic idx, 3)) (lk : LSt μ.1.cls idx 3 μ') (hM : MD l0 g d' μ' σ [v1, v2, v3] mc' ms' (some w) σ1) (hw : (st.map fun v => v.category).sum ≤ 8) (hdd : d' + 1 ≤ d) (hkc : kc + mc' ≤ mc) (hks : ks + ms' ≤ ms) (kk : WW X g μ.2.2.1 Z (kc + mc') (ks + ms') (pc + 3) L (w :: st) σ1) : WW X g μ.2.2.1 Z kc ks pc L (v3 :: v2 :: v1 :: st) σ := w_callS (vs := [v1, v2, v3]) b hd lk rfl rfl hw hdd hkc hks hM (fun r σ' hq => by obtain ⟨rfl, rfl⟩ := hq; exact kk)
theorem c_V3v {idx ci d' mc' ms' q : Nat} {μ' : Md} {fs : List Value} {v1 v2 v3 : Value}  {σ1 : Sg} (b : BX X l0 g μ d mc ms) (hd : decode μ.2.1 pc = .ok (.invokevirtual idx, 3)) (lk : LV μ.1.cls idx 3 ci μ') (hc : σ.1 q = .inr (ci, fs)) (hM : MD l0 g d' μ' σ (.ref q :: [v1, v2, v3]) mc' ms' none σ1) (hw : (st.map fun v => v.category).sum ≤ 8) (hdd : d' + 1 ≤ d) (hkc : kc + mc' ≤ mc) (hks : ks + ms' ≤ ms) (kk : WW X g μ.2.2.1 Z (kc + mc') (ks + ms') (pc + 3) L (st) σ1) : WW X g μ.2.2.1 Z kc ks pc L (v3 :: v2 :: v1 :: .ref q :: st) σ := w_callV (vs := [v1, v2, v3]) b hd lk rfl rfl hc hw hdd hkc hks hM (fun r σ' hq => by obtain ⟨rfl, rfl⟩ := hq; exact kk)
theorem c_S3v {idx d' mc' ms' : Nat} {μ' : Md} {v1 v2 v3 : Value}  {σ1 : Sg} (b : BX X l0 g μ d mc ms) (hd : decode μ.2.1 pc = .ok (.invokestatic idx, 3)) (lk : LSt μ.1.cls idx 3 μ') (hM : MD l0 g d' μ' σ [v1, v2, v3] mc' ms' none σ1) (hw : (st.map fun v => v.category).sum ≤ 8) (hdd : d' + 1 ≤ d) (hkc : kc + mc' ≤ mc) (hks : ks + ms' ≤ ms) (kk : WW X g μ.2.2.1 Z (kc + mc') (ks + ms') (pc + 3) L (st) σ1) : WW X g μ.2.2.1 Z kc ks pc L (v3 :: v2 :: v1 :: st) σ := w_callS (vs := [v1, v2, v3]) b hd lk rfl rfl hw hdd hkc hks hM (fun r σ' hq => by obtain ⟨rfl, rfl⟩ := hq; exact kk)
theorem c_I3 {idx d' mc' ms' q : Nat} {μ' : Md} {v1 v2 v3 : Value} {σ1 : Sg} (b : BX X l0 g μ d mc ms) (hd : decode μ.2.1 pc = .ok (.invokespecial idx, 3)) (lk : LI μ.1.cls idx 3 μ') (hM : MD l0 g d' μ' σ (.ref q :: [v1, v2, v3]) mc' ms' none σ1) (hw : (st.map fun v => v.category).sum ≤ 8) (hdd : d' + 1 ≤ d) (hkc : kc + mc' ≤ mc) (hks : ks + ms' ≤ ms) (kk : WW X g μ.2.2.1 Z (kc + mc') (ks + ms') (pc + 3) L st σ1) : WW X g μ.2.2.1 Z kc ks pc L (v3 :: v2 :: v1 :: .ref q :: st) σ := w_callI (vs := [v1, v2, v3]) b hd lk rfl rfl hw hdd hkc hks hM (fun r σ' hq => by obtain ⟨rfl, rfl⟩ := hq; exact kk)
theorem c_V4 {idx ci d' mc' ms' q : Nat} {μ' : Md} {fs : List Value} {v1 v2 v3 v4 : Value} {w : Value} {σ1 : Sg} (b : BX X l0 g μ d mc ms) (hd : decode μ.2.1 pc = .ok (.invokevirtual idx, 3)) (lk : LV μ.1.cls idx 4 ci μ') (hc : σ.1 q = .inr (ci, fs)) (hM : MD l0 g d' μ' σ (.ref q :: [v1, v2, v3, v4]) mc' ms' (some w) σ1) (hw : (st.map fun v => v.category).sum ≤ 8) (hdd : d' + 1 ≤ d) (hkc : kc + mc' ≤ mc) (hks : ks + ms' ≤ ms) (kk : WW X g μ.2.2.1 Z (kc + mc') (ks + ms') (pc + 3) L (w :: st) σ1) : WW X g μ.2.2.1 Z kc ks pc L (v4 :: v3 :: v2 :: v1 :: .ref q :: st) σ := w_callV (vs := [v1, v2, v3, v4]) b hd lk rfl rfl hc hw hdd hkc hks hM (fun r σ' hq => by obtain ⟨rfl, rfl⟩ := hq; exact kk)
theorem c_S4 {idx d' mc' ms' : Nat} {μ' : Md} {v1 v2 v3 v4 : Value} {w : Value} {σ1 : Sg} (b : BX X l0 g μ d mc ms) (hd : decode μ.2.1 pc = .ok (.invokestatic idx, 3)) (lk : LSt μ.1.cls idx 4 μ') (hM : MD l0 g d' μ' σ [v1, v2, v3, v4] mc' ms' (some w) σ1) (hw : (st.map fun v => v.category).sum ≤ 8) (hdd : d' + 1 ≤ d) (hkc : kc + mc' ≤ mc) (hks : ks + ms' ≤ ms) (kk : WW X g μ.2.2.1 Z (kc + mc') (ks + ms') (pc + 3) L (w :: st) σ1) : WW X g μ.2.2.1 Z kc ks pc L (v4 :: v3 :: v2 :: v1 :: st) σ := w_callS (vs := [v1, v2, v3, v4]) b hd lk rfl rfl hw hdd hkc hks hM (fun r σ' hq => by obtain ⟨rfl, rfl⟩ := hq; exact kk)
theorem c_V4v {idx ci d' mc' ms' q : Nat} {μ' : Md} {fs : List Value} {v1 v2 v3 v4 : Value}  {σ1 : Sg} (b : BX X l0 g μ d mc ms) (hd : decode μ.2.1 pc = .ok (.invokevirtual idx, 3)) (lk : LV μ.1.cls idx 4 ci μ') (hc : σ.1 q = .inr (ci, fs)) (hM : MD l0 g d' μ' σ (.ref q :: [v1, v2, v3, v4]) mc' ms' none σ1) (hw : (st.map fun v => v.category).sum ≤ 8) (hdd : d' + 1 ≤ d) (hkc : kc + mc' ≤ mc) (hks : ks + ms' ≤ ms) (kk : WW X g μ.2.2.1 Z (kc + mc') (ks + ms') (pc + 3) L (st) σ1) : WW X g μ.2.2.1 Z kc ks pc L (v4 :: v3 :: v2 :: v1 :: .ref q :: st) σ := w_callV (vs := [v1, v2, v3, v4]) b hd lk rfl rfl hc hw hdd hkc hks hM (fun r σ' hq => by obtain ⟨rfl, rfl⟩ := hq; exact kk)
theorem c_S4v {idx d' mc' ms' : Nat} {μ' : Md} {v1 v2 v3 v4 : Value}  {σ1 : Sg} (b : BX X l0 g μ d mc ms) (hd : decode μ.2.1 pc = .ok (.invokestatic idx, 3)) (lk : LSt μ.1.cls idx 4 μ') (hM : MD l0 g d' μ' σ [v1, v2, v3, v4] mc' ms' none σ1) (hw : (st.map fun v => v.category).sum ≤ 8) (hdd : d' + 1 ≤ d) (hkc : kc + mc' ≤ mc) (hks : ks + ms' ≤ ms) (kk : WW X g μ.2.2.1 Z (kc + mc') (ks + ms') (pc + 3) L (st) σ1) : WW X g μ.2.2.1 Z kc ks pc L (v4 :: v3 :: v2 :: v1 :: st) σ := w_callS (vs := [v1, v2, v3, v4]) b hd lk rfl rfl hw hdd hkc hks hM (fun r σ' hq => by obtain ⟨rfl, rfl⟩ := hq; exact kk)
theorem c_V5 {idx ci d' mc' ms' q : Nat} {μ' : Md} {fs : List Value} {v1 v2 v3 v4 v5 : Value} {w : Value} {σ1 : Sg} (b : BX X l0 g μ d mc ms) (hd : decode μ.2.1 pc = .ok (.invokevirtual idx, 3)) (lk : LV μ.1.cls idx 5 ci μ') (hc : σ.1 q = .inr (ci, fs)) (hM : MD l0 g d' μ' σ (.ref q :: [v1, v2, v3, v4, v5]) mc' ms' (some w) σ1) (hw : (st.map fun v => v.category).sum ≤ 8) (hdd : d' + 1 ≤ d) (hkc : kc + mc' ≤ mc) (hks : ks + ms' ≤ ms) (kk : WW X g μ.2.2.1 Z (kc + mc') (ks + ms') (pc + 3) L (w :: st) σ1) : WW X g μ.2.2.1 Z kc ks pc L (v5 :: v4 :: v3 :: v2 :: v1 :: .ref q :: st) σ := w_callV (vs := [v1, v2, v3, v4, v5]) b hd lk rfl rfl hc hw hdd hkc hks hM (fun r σ' hq => by obtain ⟨rfl, rfl⟩ := hq; exact kk)
theorem c_S5 {idx d' mc' ms' : Nat} {μ' : Md} {v1 v2 v3 v4 v5 : Value} {w : Value} {σ1 : Sg} (b : BX X l0 g μ d mc ms) (hd : decode μ.2.1 pc = .ok (.invokestatic idx, 3)) (lk : LSt μ.1.cls idx 5 μ') (hM : MD l0 g d' μ' σ [v1, v2, v3, v4, v5] mc' ms' (some w) σ1) (hw : (st.map fun v => v.category).sum ≤ 8) (hdd : d' + 1 ≤ d) (hkc : kc + mc' ≤ mc) (hks : ks + ms' ≤ ms) (kk : WW X g μ.2.2.1 Z (kc + mc') (ks + ms') (pc + 3) L (w :: st) σ1) : WW X g μ.2.2.1 Z kc ks pc L (v5 :: v4 :: v3 :: v2 :: v1 :: st) σ := w_callS (vs := [v1, v2, v3, v4, v5]) b hd lk rfl rfl hw hdd hkc hks hM (fun r σ' hq => by obtain ⟨rfl, rfl⟩ := hq; exact kk)
theorem c_V5v {idx ci d' mc' ms' q : Nat} {μ' : Md} {fs : List Value} {v1 v2 v3 v4 v5 : Value}  {σ1 : Sg} (b : BX X l0 g μ d mc ms) (hd : decode μ.2.1 pc = .ok (.invokevirtual idx, 3)) (lk : LV μ.1.cls idx 5 ci μ') (hc : σ.1 q = .inr (ci, fs)) (hM : MD l0 g d' μ' σ (.ref q :: [v1, v2, v3, v4, v5]) mc' ms' none σ1) (hw : (st.map fun v => v.category).sum ≤ 8) (hdd : d' + 1 ≤ d) (hkc : kc + mc' ≤ mc) (hks : ks + ms' ≤ ms) (kk : WW X g μ.2.2.1 Z (kc + mc') (ks + ms') (pc + 3) L (st) σ1) : WW X g μ.2.2.1 Z kc ks pc L (v5 :: v4 :: v3 :: v2 :: v1 :: .ref q :: st) σ := w_callV (vs := [v1, v2, v3, v4, v5]) b hd lk rfl rfl hc hw hdd hkc hks hM (fun r σ' hq => by obtain ⟨rfl, rfl⟩ := hq; exact kk)
theorem c_S5v {idx d' mc' ms' : Nat} {μ' : Md} {v1 v2 v3 v4 v5 : Value}  {σ1 : Sg} (b : BX X l0 g μ d mc ms) (hd : decode μ.2.1 pc = .ok (.invokestatic idx, 3)) (lk : LSt μ.1.cls idx 5 μ') (hM : MD l0 g d' μ' σ [v1, v2, v3, v4, v5] mc' ms' none σ1) (hw : (st.map fun v => v.category).sum ≤ 8) (hdd : d' + 1 ≤ d) (hkc : kc + mc' ≤ mc) (hks : ks + ms' ≤ ms) (kk : WW X g μ.2.2.1 Z (kc + mc') (ks + ms') (pc + 3) L (st) σ1) : WW X g μ.2.2.1 Z kc ks pc L (v5 :: v4 :: v3 :: v2 :: v1 :: st) σ := w_callS (vs := [v1, v2, v3, v4, v5]) b hd lk rfl rfl hw hdd hkc hks hM (fun r σ' hq => by obtain ⟨rfl, rfl⟩ := hq; exact kk)
theorem c_IN0 {idx d' mc' ms' q : Nat} {μ' : Md} {σ1 : Sg} (b : BX X l0 g μ d mc ms) (hd : decode μ.2.1 pc = .ok (.invokespecial idx, 3)) (lk : LN μ.1.cls idx 0 μ') (hins : Cond.instanceMethod μ'.1 ∈ gw) (hnm : μ'.1.name = "<init>") (hrn : μ'.2.2.2 = none) (hM : MD l0 g d' μ' σ [.ref q] mc' ms' none σ1) (hw : (st.map fun v => v.category).sum ≤ 8) (hdd : d' + 1 ≤ d) (hkc : kc + mc' ≤ mc) (hks : ks + ms' ≤ ms) (kk : WW X g μ.2.2.1 Z (kc + mc') (ks + ms') (pc + 3) L st σ1) : WW X g μ.2.2.1 Z kc ks pc L (.ref q :: st) σ := w_callIN (vs := []) b hd lk hins hnm hrn rfl rfl hw hdd hkc hks hM (fun r σ' hq => by obtain ⟨rfl, rfl⟩ := hq; exact kk)
theorem c_SN3 {idx d' mc' ms' : Nat} {μ' : Md} {v1 v2 v3 w : Value} {σ1 : Sg} (b : BX X l0 g μ d mc ms) (hd : decode μ.2.1 pc = .ok (.invokestatic idx, 3)) (lk : LN μ.1.cls idx 3 μ') (hsta : Cond.static μ'.1 ∈ gw) (hM : MD l0 g d' μ' σ [v1, v2, v3] mc' ms' (some w) σ1) (hw : (st.map fun v => v.category).sum ≤ 8) (hdd : d' + 1 ≤ d) (hkc : kc + mc' ≤ mc) (hks : ks + ms' ≤ ms) (kk : WW X g μ.2.2.1 Z (kc + mc') (ks + ms') (pc + 3) L (w :: st) σ1) : WW X g μ.2.2.1 Z kc ks pc L (v3 :: v2 :: v1 :: st) σ := w_callSN (vs := [v1, v2, v3]) b hd lk hsta rfl rfl hw hdd hkc hks hM (fun r σ' hq => by obtain ⟨rfl, rfl⟩ := hq; exact kk)
end FWZ
end
section
/-! THE REFERENCE'S LAYER: its object is cell mo, its 32 arrays behind it; I: its int fields by their numbers, F: its arrays by their fields' numbers -/
abbrev marr : List (Nat × Nat) := [(3, 12), (4, 144), (5, 144), (6, 144), (7, 1000), (8, 12), (9, 13), (10, 13), (11, 13), (12, 13), (16, 6), (17, 6), (18, 8), (19, 80), (20, 80), (22, 1600), (23, 1600), (24, 1600), (25, 1600), (26, 40), (30, 8), (31, 8), (32, 7), (33, 15), (34, 15), (35, 8), (36, 8), (37, 8), (38, 8), (39, 8), (40, 480), (41, 60)]
def mfs (mo : Nat) (I : Nat → Int) : List Value := [.int (iI (I 0)), .int (iI (I 1)), .int (iI (I 2)), .ref (mo + 1 + 0), .ref (mo + 1 + 1), .ref (mo + 1 + 2), .ref (mo + 1 + 3), .ref (mo + 1 + 4), .ref (mo + 1 + 5), .ref (mo + 1 + 6), .ref (mo + 1 + 7), .ref (mo + 1 + 8), .ref (mo + 1 + 9), .int (iI (I 13)), .int (iI (I 14)), .int (iI (I 15)), .ref (mo + 1 + 10), .ref (mo + 1 + 11), .ref (mo + 1 + 12), .ref (mo + 1 + 13), .ref (mo + 1 + 14), .int (iI (I 21)), .ref (mo + 1 + 15), .ref (mo + 1 + 16), .ref (mo + 1 + 17), .ref (mo + 1 + 18), .ref (mo + 1 + 19), .int (iI (I 27)), .int (iI (I 28)), .int (iI (I 29)), .ref (mo + 1 + 20), .ref (mo + 1 + 21), .ref (mo + 1 + 22), .ref (mo + 1 + 23), .ref (mo + 1 + 24), .ref (mo + 1 + 25), .ref (mo + 1 + 26), .ref (mo + 1 + 27), .ref (mo + 1 + 28), .ref (mo + 1 + 29), .ref (mo + 1 + 30), .ref (mo + 1 + 31)]
def mp (mo : Nat) (h0 : Nat → va_E) (I : Nat → Int) (F : Nat → Int → Int) : Nat → va_E := fun q => if q = mo then .inr (9, mfs mo I) else if mo < q then (match marr[q - (mo + 1)]? with
  | some (k, n) => iarr 0 n (F k)
  | none => h0 q) else h0 q
theorem mp_obj (mo : Nat) (h0 : Nat → va_E) (I : Nat → Int) (F : Nat → Int → Int) : mp mo h0 I F mo = .inr (9, mfs mo I) := by simp [mp]
theorem mp_arr {mo : Nat} {h0 : Nat → va_E} {I : Nat → Int} {F : Nat → Int → Int} {p k n : Nat} (hp : marr[p]? = some (k, n)) : mp mo h0 I F (mo + 1 + p) = iarr 0 n (F k) := by
  unfold mp
  rw [if_neg (by omega), if_pos (by omega), show mo + 1 + p - (mo + 1) = p by omega, hp]
theorem mp_out {mo : Nat} {h0 : Nat → va_E} {I : Nat → Int} {F : Nat → Int → Int} {q : Nat} (hq : q < mo ∨ mo + 32 < q) : mp mo h0 I F q = h0 q := by
  unfold mp
  rw [if_neg (by omega)]
  by_cases h : mo < q
  · rw [if_pos h, List.getElem?_eq_none (by show 32 ≤ q - (mo + 1); omega)]
  · rw [if_neg h]
theorem marr_le : ∀ q ∈ marr, q.2 ≤ 1600 := by decide +kernel
theorem marr_inj : ∀ i : Fin 32, ∀ j : Fin 32, marr[i.val].1 = marr[j.val].1 → i = j := by decide +kernel
theorem mp_upF {mo : Nat} {h0 : Nat → va_E} {I : Nat → Int} {F : Nat → Int → Int} {p k n : Nat} (hp : marr[p]? = some (k, n)) (f : Int → Int) : va_up (mp mo h0 I F) (mo + 1 + p) (iarr 0 n f) = mp mo h0 I (va_up F k f) := by
  have hp32 : p < 32 := (List.getElem?_eq_some_iff.mp hp).1
  funext q
  by_cases h1 : q = mo + 1 + p
  · subst h1
    rw [va_up_self, mp_arr hp, va_up_self]
  · rw [va_up_ne _ _ h1]
    by_cases h2 : q = mo
    · subst h2
      rw [mp_obj, mp_obj]
    · by_cases h3 : q < mo ∨ mo + 32 < q
      · rw [mp_out h3, mp_out h3]
      · have h4 : q - (mo + 1) < 32 := by omega
        have h5 : marr[q - (mo + 1)]? = some (marr[q - (mo + 1)]'h4) := List.getElem?_eq_getElem h4
        have h6 : q = mo + 1 + (q - (mo + 1)) := by omega
        rw [h6, mp_arr (k := (marr[q - (mo + 1)]'h4).1) (n := (marr[q - (mo + 1)]'h4).2) h5, mp_arr (k := (marr[q - (mo + 1)]'h4).1) (n := (marr[q - (mo + 1)]'h4).2) h5]
        rw [va_up_ne]
        intro he
        have h7 := (List.getElem?_eq_some_iff.mp hp).2
        have h8 := marr_inj ⟨q - (mo + 1), h4⟩ ⟨p, hp32⟩ (he.trans (by show k = (marr[p]'_).1; rw [h7]))
        have h9 : q - (mo + 1) = p := congrArg Fin.val h8
        omega
theorem mp_upI {mo : Nat} {h0 : Nat → va_E} {I : Nat → Int} {F : Nat → Int → Int} {fs : List Value} {I2 : Nat → Int} (hfs : fs = mfs mo I2) : va_up (mp mo h0 I F) mo (.inr (9, fs)) = mp mo h0 I2 F := by
  subst hfs
  funext q
  by_cases h1 : q = mo
  · subst h1
    rw [va_up_self, mp_obj]
  · rw [va_up_ne _ _ h1]
    unfold mp
    rw [if_neg h1, if_neg h1]
section FWM
variable {X : Cx} {l0 : Launch} {g : Gw} {μ : Md} {d mc ms : Nat} {Z : State → Prop} {kc ks pc : Nat} {L : List (Option Value)} {st : List Value} {mo nx : Nat} {h0 : Nat → va_E} {I : Nat → Int} {F : Nat → Int → Int}
theorem m_get {idx k : Nat} {v : Value} (b : BX X l0 g μ d mc ms) (hd : decode μ.2.1 pc = .ok (.getfield idx, 3)) (lk : GF μ.1.cls idx 9 k) (hv : (mfs mo I)[k]? = some v) (kk : WW X g μ.2.2.1 Z kc ks (pc + 3) L (v :: st) (mp mo h0 I F, nx)) : WW X g μ.2.2.1 Z kc ks pc L (.ref mo :: st) (mp mo h0 I F, nx) := w_getf b hd lk (mp_obj mo h0 I F) hv kk
theorem m_ald {p k n : Nat} {i : Int} (b : BX X l0 g μ d mc ms) (hd : decode μ.2.1 pc = .ok (.iaload, 1)) (hp : marr[p]? = some (k, n)) (h : 0 ≤ i ∧ i < (n : Int)) (kk : WW X g μ.2.2.1 Z kc ks (pc + 1) L (.int (iI (F k i)) :: st) (mp mo h0 I F, nx)) : WW X g μ.2.2.1 Z kc ks pc L (.int (iI i) :: .ref (mo + 1 + p) :: st) (mp mo h0 I F, nx) := by
  have hn : n ≤ 1600 := marr_le (k, n) (List.mem_of_getElem? hp)
  exact z_iald b hd (mp_arr hp) ⟨h.1, h.2, by omega⟩ kk
theorem m_ast {p k n : Nat} {i v : Int} (b : BX X l0 g μ d mc ms) (hd : decode μ.2.1 pc = .ok (.iastore, 1)) (hp : marr[p]? = some (k, n)) (h : 0 ≤ i ∧ i < (n : Int)) (kk : WW X g μ.2.2.1 Z kc ks (pc + 1) L st (mp mo h0 I (va_up F k (fu (F k) i v)), nx)) : WW X g μ.2.2.1 Z kc ks pc L (.int (iI v) :: .int (iI i) :: .ref (mo + 1 + p) :: st) (mp mo h0 I F, nx) := by
  have hn : n ≤ 1600 := marr_le (k, n) (List.mem_of_getElem? hp)
  refine z_iast b hd (mp_arr hp) ⟨h.1, h.2, by omega⟩ ?_
  show WW X g μ.2.2.1 Z kc ks (pc + 1) L st (va_up (mp mo h0 I F) (mo + 1 + p) (iarr 0 n (fu (F k) i v)), nx)
  rw [mp_upF hp]
  exact kk
theorem m_put {idx k : Nat} {v : Int} (b : BX X l0 g μ d mc ms) (hd : decode μ.2.1 pc = .ok (.putfield idx, 3)) (lk : GF μ.1.cls idx 9 k) (gt : GT μ.1.cls 9 k .int false) (hk : k < 42) (hv : (mfs mo I).set k (.int (iI v)) = mfs mo (va_up I k v)) (kk : WW X g μ.2.2.1 Z kc ks (pc + 3) L st (mp mo h0 (va_up I k v) F, nx)) : WW X g μ.2.2.1 Z kc ks pc L (.int (iI v) :: .ref mo :: st) (mp mo h0 I F, nx) := by
  refine w_putf b hd lk gcX9 gt (fun z => by cases z) (mp_obj mo h0 I F) hk rfl rfl ?_
  show WW X g μ.2.2.1 Z kc ks (pc + 3) L st (va_up (mp mo h0 I F) mo (.inr (9, (mfs mo I).set k (.int (iI v)))), nx)
  rw [mp_upI hv]
  exact kk
end FWM
end
section
theorem tlt {a b : Nat} (h : Nat.ble (a + 1) b = true) : a < b := Nat.le_of_ble_eq_true h
theorem tle {a b : Nat} (h : Nat.ble a b = true) : a ≤ b := Nat.le_of_ble_eq_true h
theorem z_zret {X : Cx} {l0 : Launch} {g : Gw} {μ : Md} {d mc ms kc ks pc : Nat} {L : List (Option Value)} {σ : Sg} {Q : Option Value → Sg → Prop} {z : Int} (b : BX X l0 g μ d mc ms) (hd : decode μ.2.1 pc = .ok (.ireturn, 1)) (hrt : μ.2.2.2 = some .boolean) (hz : z = 0 ∨ z = 1) (hk : kc ≤ mc) (hs : ks ≤ ms) (hq : Q (some (.int (iI z))) σ) : WW X g μ.2.2.1 (ZQ X g Q mc ms) kc ks pc L [.int (iI z)] σ := by
  refine w_zret b hd hrt ?_ hk hs hq
  rcases hz with rfl | rfl <;> rfl
/-- 1 or 0 -/
def b2 (p : Prop) [Decidable p] : Int := if p then 1 else 0
theorem b2_t {p : Prop} [Decidable p] (h : p) : b2 p = 1 := if_pos h
theorem b2_f {p : Prop} [Decidable p] (h : ¬ p) : b2 p = 0 := if_neg h
theorem b2_01 (p : Prop) [Decidable p] : b2 p = 0 ∨ b2 p = 1 := by unfold b2; split <;> simp
theorem b2_eq0 {p : Prop} [Decidable p] : b2 p = 0 ↔ ¬ p := by unfold b2; split <;> simp [*]
theorem b2_rng (p : Prop) [Decidable p] : 0 ≤ b2 p ∧ b2 p ≤ 1 := by rcases b2_01 p with h | h <;> omega
theorem iv_eq {a b : Int} (h : a = b) : some (Value.int (iI a)) = some (Value.int (iI b)) := by rw [h]
theorem b2_in (p : Prop) [Decidable p] : inR (b2 p) := by rcases b2_01 p with h | h <;> rw [h] <;> decide
section TOOLS
variable {X : Cx} {l0 : Launch} {g : Gw} {μ : Md} {d mc ms : Nat} {Z : State → Prop} {kc ks pc : Nat} {L : List (Option Value)} {st : List Value} {σ : Sg}
theorem z_ifb_eq {p : Prop} [Decidable p] {off : Int} {tgt : Nat} (b : BX X l0 g μ d mc ms) (hd : decode μ.2.1 pc = .ok (.ifCond .eq off, 3)) (ht : (pc : Int) + off = (tgt : Int)) (kt : ¬ p → WW X g μ.2.2.1 Z kc ks tgt L st σ) (kf : p → WW X g μ.2.2.1 Z kc ks (pc + 3) L st σ) : WW X g μ.2.2.1 Z kc ks pc L (.int (iI (b2 p)) :: st) σ := z_if_eq b hd ht (b2_in p) (fun h => kt (b2_eq0.mp h)) (fun h => kf (Decidable.not_not.mp (fun z => h (b2_eq0.mpr z))))
theorem z_ifb_ne {p : Prop} [Decidable p] {off : Int} {tgt : Nat} (b : BX X l0 g μ d mc ms) (hd : decode μ.2.1 pc = .ok (.ifCond .ne off, 3)) (ht : (pc : Int) + off = (tgt : Int)) (kt : p → WW X g μ.2.2.1 Z kc ks tgt L st σ) (kf : ¬ p → WW X g μ.2.2.1 Z kc ks (pc + 3) L st σ) : WW X g μ.2.2.1 Z kc ks pc L (.int (iI (b2 p)) :: st) σ := z_if_ne b hd ht (b2_in p) (fun h => kt (Decidable.not_not.mp (fun z => h (b2_eq0.mpr z)))) (fun h => kf (b2_eq0.mp h))
end TOOLS
end
section
/-! THE REFERENCE: leaves (by p20.py) -/
set_option maxRecDepth 20000 in
theorem k_X9_in {l0 : Launch} {g : Gw} {σ : Sg} {q : Nat} {v lo hi : Int} (hv : inR v) (hl : inR lo) (hh : inR hi) : MD l0 g 0 mX9_in σ [.ref q, .int (iI v), .int (iI lo), .int (iI hi)] 0 0 (some (.int (iI (b2 (lo ≤ v ∧ v ≤ hi))))) σ := by
  refine MD.of (by decide +kernel) (by simp [Value.category]) (tle rfl) (fun X b => ?_)
  change WW X g _ _ 0 0 0 [some (.ref q), some (.int (iI v)), some (.int (iI lo)), some (.int (iI hi))] [] _
  refine w_iload_n b dX9_in_0 rfl ?_
  refine w_iload_n b dX9_in_1 rfl ?_
  refine z_icmp_lt (tgt := 14) b dX9_in_2 (by decide) (by omega) (fun h2 => ?_) (fun h2 => ?_)
  · refine z_iconst b dX9_in_14 ?_
    exact z_zret b dX9_in_15 rfl (by omega) (by omega) (by omega) ⟨iv_eq (by first | rfl | omega | (simp only [b2]; split <;> omega)), rfl⟩
  · refine w_iload_n b dX9_in_5 rfl ?_
    refine w_iload_n b dX9_in_6 rfl ?_
    refine z_icmp_gt (tgt := 14) b dX9_in_7 (by decide) (by omega) (fun h7 => ?_) (fun h7 => ?_)
    · refine z_iconst b dX9_in_14 ?_
      exact z_zret b dX9_in_15 rfl (by omega) (by omega) (by omega) ⟨iv_eq (by first | rfl | omega | (simp only [b2]; split <;> omega)), rfl⟩
    · refine z_iconst b dX9_in_10 ?_
      refine w_goto (tgt := 15) b dX9_in_11 (by decide) ?_
      exact z_zret b dX9_in_15 rfl (by omega) (by omega) (by omega) ⟨iv_eq (by first | rfl | omega | (simp only [b2]; split <;> omega)), rfl⟩
set_option maxRecDepth 20000 in
theorem k_X9_thrown {l0 : Launch} {g : Gw} {mo nx : Nat} {h0 : Nat → va_E} {I : Nat → Int} {F : Nat → Int → Int}   : MD l0 g 0 mX9_thrown (mp mo h0 I F, nx) [.ref mo] 0 0 (some (.int (iI (I 0)))) (mp mo h0 I F, nx) := by
  refine MD.of (by decide +kernel) (by simp [Value.category]) (tle rfl) (fun X b => ?_)
  change WW X g _ _ 0 0 0 [some (.ref mo)] [] _
  refine w_aload_n b dX9_thrown_0 rfl rfl ?_
  refine m_get b dX9_thrown_1 lfX9_1 rfl ?_
  exact w_iret b dX9_thrown_4 rfl (by omega) (by omega) ⟨iv_eq (by first | rfl | omega | (simp only [b2]; split <;> omega)), rfl⟩
set_option maxRecDepth 20000 in
theorem k_X9_isChant {l0 : Launch} {g : Gw} {mo nx : Nat} {h0 : Nat → va_E} {I : Nat → Int} {F : Nat → Int → Int} {c : Int} (hc : inR c) (h2 : 0 ≤ I 2 ∧ I 2 ≤ 12) : MD l0 g 1 mX9_isChant (mp mo h0 I F, nx) [.ref mo, .int (iI c)] 0 0 (some (.int (iI (b2 (0 ≤ c ∧ c ≤ I 2 - 1))))) (mp mo h0 I F, nx) := by
  refine MD.of (by decide +kernel) (by simp [Value.category]) (tle rfl) (fun X b => ?_)
  change WW X g _ _ 0 0 0 [some (.ref mo), some (.int (iI c))] [] _
  refine w_aload_n b dX9_isChant_0 rfl rfl ?_
  refine w_iload_n b dX9_isChant_1 rfl ?_
  refine z_iconst b dX9_isChant_2 ?_
  refine w_aload_n b dX9_isChant_3 rfl rfl ?_
  refine m_get b dX9_isChant_4 lfX9_13 rfl ?_
  refine z_iconst b dX9_isChant_7 ?_
  refine z_isub b dX9_isChant_8 ?_
  refine c_V3 b dX9_isChant_9 lmX9_137 (mp_obj _ _ _ _) (k_X9_in (by omega) (by omega) (by omega)) (tle rfl) (by omega) (by omega) (by omega) ?_
  exact z_zret b dX9_isChant_12 rfl (b2_01 _) (by omega) (by omega) ⟨iv_eq (by first | rfl | omega | (simp only [b2]; split <;> omega)), rfl⟩
set_option maxRecDepth 20000 in
theorem k_X9_isColour {l0 : Launch} {g : Gw} {mo nx : Nat} {h0 : Nat → va_E} {I : Nat → Int} {F : Nat → Int → Int} {c : Int} (hc : inR c) : MD l0 g 1 mX9_isColour (mp mo h0 I F, nx) [.ref mo, .int (iI c)] 0 0 (some (.int (iI (b2 (0 ≤ c ∧ c ≤ 7))))) (mp mo h0 I F, nx) := by
  refine MD.of (by decide +kernel) (by simp [Value.category]) (tle rfl) (fun X b => ?_)
  change WW X g _ _ 0 0 0 [some (.ref mo), some (.int (iI c))] [] _
  refine w_aload_n b dX9_isColour_0 rfl rfl ?_
  refine w_iload_n b dX9_isColour_1 rfl ?_
  refine z_iconst b dX9_isColour_2 ?_
  refine z_bipush b dX9_isColour_3 (by decide) ?_
  refine c_V3 b dX9_isColour_5 lmX9_137 (mp_obj _ _ _ _) (k_X9_in (by omega) (by omega) (by omega)) (tle rfl) (by omega) (by omega) (by omega) ?_
  exact z_zret b dX9_isColour_8 rfl (b2_01 _) (by omega) (by omega) ⟨iv_eq (by first | rfl | omega | (simp only [b2]; split <;> omega)), rfl⟩
set_option maxRecDepth 20000 in
theorem k_X9_isShelf {l0 : Launch} {g : Gw} {mo nx : Nat} {h0 : Nat → va_E} {I : Nat → Int} {F : Nat → Int → Int} {c : Int} (hc : inR c) : MD l0 g 1 mX9_isShelf (mp mo h0 I F, nx) [.ref mo, .int (iI c)] 0 0 (some (.int (iI (b2 (0 ≤ c ∧ c ≤ 7))))) (mp mo h0 I F, nx) := by
  refine MD.of (by decide +kernel) (by simp [Value.category]) (tle rfl) (fun X b => ?_)
  change WW X g _ _ 0 0 0 [some (.ref mo), some (.int (iI c))] [] _
  refine w_aload_n b dX9_isShelf_0 rfl rfl ?_
  refine w_iload_n b dX9_isShelf_1 rfl ?_
  refine z_iconst b dX9_isShelf_2 ?_
  refine z_bipush b dX9_isShelf_3 (by decide) ?_
  refine c_V3 b dX9_isShelf_5 lmX9_137 (mp_obj _ _ _ _) (k_X9_in (by omega) (by omega) (by omega)) (tle rfl) (by omega) (by omega) (by omega) ?_
  exact z_zret b dX9_isShelf_8 rfl (b2_01 _) (by omega) (by omega) ⟨iv_eq (by first | rfl | omega | (simp only [b2]; split <;> omega)), rfl⟩
set_option maxRecDepth 20000 in
theorem k_X9_hasNumber {l0 : Launch} {g : Gw} {mo nx : Nat} {h0 : Nat → va_E} {I : Nat → Int} {F : Nat → Int → Int} {k : Int} (hc : inR k) : MD l0 g 1 mX9_hasNumber (mp mo h0 I F, nx) [.ref mo, .int (iI k)] 0 0 (some (.int (iI (b2 (k = 0 ∨ (3 ≤ k ∧ k ≤ 5)))))) (mp mo h0 I F, nx) := by
  refine MD.of (by decide +kernel) (by simp [Value.category]) (tle rfl) (fun X b => ?_)
  change WW X g _ _ 0 0 0 [some (.ref mo), some (.int (iI k))] [] _
  refine w_iload_n b dX9_hasNumber_0 rfl ?_
  refine z_if_eq (tgt := 14) b dX9_hasNumber_1 (by decide) (by omega) (fun h1 => ?_) (fun h1 => ?_)
  · refine z_iconst b dX9_hasNumber_14 ?_
    refine w_goto (tgt := 19) b dX9_hasNumber_15 (by decide) ?_
    exact z_zret b dX9_hasNumber_19 rfl (by omega) (by omega) (by omega) ⟨iv_eq (by first | rfl | omega | (simp only [b2]; split <;> omega)), rfl⟩
  · refine w_aload_n b dX9_hasNumber_4 rfl rfl ?_
    refine w_iload_n b dX9_hasNumber_5 rfl ?_
    refine z_iconst b dX9_hasNumber_6 ?_
    refine z_iconst b dX9_hasNumber_7 ?_
    refine c_V3 b dX9_hasNumber_8 lmX9_137 (mp_obj _ _ _ _) (k_X9_in (by omega) (by omega) (by omega)) (tle rfl) (by omega) (by omega) (by omega) ?_
    refine z_ifb_eq (tgt := 18) b dX9_hasNumber_11 (by decide) (fun h11 => ?_) (fun h11 => ?_)
    · refine z_iconst b dX9_hasNumber_18 ?_
      exact z_zret b dX9_hasNumber_19 rfl (by omega) (by omega) (by omega) ⟨iv_eq (by first | rfl | omega | (simp only [b2]; split <;> omega)), rfl⟩
    · refine z_iconst b dX9_hasNumber_14 ?_
      refine w_goto (tgt := 19) b dX9_hasNumber_15 (by decide) ?_
      exact z_zret b dX9_hasNumber_19 rfl (by omega) (by omega) (by omega) ⟨iv_eq (by first | rfl | omega | (simp only [b2]; split <;> omega)), rfl⟩
set_option maxRecDepth 20000 in
theorem k_X9_hasColour {l0 : Launch} {g : Gw} {mo nx : Nat} {h0 : Nat → va_E} {I : Nat → Int} {F : Nat → Int → Int} {k : Int} (hc : inR k) : MD l0 g 0 mX9_hasColour (mp mo h0 I F, nx) [.ref mo, .int (iI k)] 0 0 (some (.int (iI (b2 (k = 0 ∨ k = 1))))) (mp mo h0 I F, nx) := by
  refine MD.of (by decide +kernel) (by simp [Value.category]) (tle rfl) (fun X b => ?_)
  change WW X g _ _ 0 0 0 [some (.ref mo), some (.int (iI k))] [] _
  refine w_iload_n b dX9_hasColour_0 rfl ?_
  refine z_if_eq (tgt := 9) b dX9_hasColour_1 (by decide) (by omega) (fun h1 => ?_) (fun h1 => ?_)
  · refine z_iconst b dX9_hasColour_9 ?_
    refine w_goto (tgt := 14) b dX9_hasColour_10 (by decide) ?_
    exact z_zret b dX9_hasColour_14 rfl (by omega) (by omega) (by omega) ⟨iv_eq (by first | rfl | omega | (simp only [b2]; split <;> omega)), rfl⟩
  · refine w_iload_n b dX9_hasColour_4 rfl ?_
    refine z_iconst b dX9_hasColour_5 ?_
    refine z_icmp_ne (tgt := 13) b dX9_hasColour_6 (by decide) (by omega) (fun h6 => ?_) (fun h6 => ?_)
    · refine z_iconst b dX9_hasColour_13 ?_
      exact z_zret b dX9_hasColour_14 rfl (by omega) (by omega) (by omega) ⟨iv_eq (by first | rfl | omega | (simp only [b2]; split <;> omega)), rfl⟩
    · refine z_iconst b dX9_hasColour_9 ?_
      refine w_goto (tgt := 14) b dX9_hasColour_10 (by decide) ?_
      exact z_zret b dX9_hasColour_14 rfl (by omega) (by omega) (by omega) ⟨iv_eq (by first | rfl | omega | (simp only [b2]; split <;> omega)), rfl⟩
set_option maxRecDepth 20000 in
theorem k_X9_chant {l0 : Launch} {g : Gw} {mo nx : Nat} {h0 : Nat → va_E} {I : Nat → Int} {F : Nat → Int → Int}  (h2 : 0 ≤ I 2 ∧ I 2 ≤ 12) : MD l0 g 0 mX9_chant (mp mo h0 I F, nx) [.ref mo] 0 0 (some (.int (iI (if I 2 = 12 then -2 else I 2)))) (if I 2 = 12 then (mp mo h0 I F, nx) else (mp mo h0 (va_up I 2 (I 2 + 1)) (va_up F 3 (fu (F 3) (I 2) 0)), nx)) := by
  refine MD.of (by decide +kernel) (by simp [Value.category]) (tle rfl) (fun X b => ?_)
  change WW X g _ _ 0 0 0 [some (.ref mo)] [] _
  refine w_aload_n b dX9_chant_0 rfl rfl ?_
  refine m_get b dX9_chant_1 lfX9_13 rfl ?_
  refine z_bipush b dX9_chant_4 (by decide) ?_
  refine z_icmp_ne (tgt := 12) b dX9_chant_6 (by decide) (by omega) (fun h6 => ?_) (fun h6 => ?_)
  · refine w_aload_n b dX9_chant_12 rfl rfl ?_
    refine m_get b dX9_chant_13 lfX9_16 rfl ?_
    refine w_aload_n b dX9_chant_16 rfl rfl ?_
    refine m_get b dX9_chant_17 lfX9_13 rfl ?_
    refine z_iconst b dX9_chant_20 ?_
    refine m_ast b dX9_chant_21 rfl (by omega) ?_
    refine w_aload_n b dX9_chant_22 rfl rfl ?_
    refine w_dup b dX9_chant_23 rfl ?_
    refine m_get b dX9_chant_24 lfX9_13 rfl ?_
    refine z_iconst b dX9_chant_27 ?_
    refine z_iadd b dX9_chant_28 ?_
    refine m_put b dX9_chant_29 lfX9_13 gtX9_2 (tlt rfl) rfl ?_
    refine w_aload_n b dX9_chant_32 rfl rfl ?_
    refine m_get b dX9_chant_33 lfX9_13 rfl ?_
    refine z_iconst b dX9_chant_36 ?_
    refine z_isub b dX9_chant_37 ?_
    exact w_iret b dX9_chant_38 rfl (by omega) (by omega) ⟨iv_eq (by first | rfl | omega | (simp only [b2]; split <;> omega)), rfl⟩
  · refine z_bipush b dX9_chant_9 (by decide) ?_
    exact w_iret b dX9_chant_11 rfl (by omega) (by omega) ⟨iv_eq (by first | rfl | omega | (simp only [b2]; split <;> omega)), rfl⟩
set_option maxRecDepth 20000 in
theorem k_X9_isKnot {l0 : Launch} {g : Gw} {mo nx : Nat} {h0 : Nat → va_E} {I : Nat → Int} {F : Nat → Int → Int} {r i : Int} (hr : inR r) (hi : inR i) (h21 : 0 ≤ I 21 ∧ I 21 ≤ 40) (h1 : 4 ≤ I 1 ∧ I 1 ≤ 40) : MD l0 g 1 mX9_isKnot (mp mo h0 I F, nx) [.ref mo, .int (iI r), .int (iI i)] 0 0 (some (.int (iI (b2 ((0 ≤ r ∧ r ≤ I 21 - 1) ∧ (0 ≤ i ∧ i ≤ I 1 - 1)))))) (mp mo h0 I F, nx) := by
  refine MD.of (by decide +kernel) (by simp [Value.category]) (tle rfl) (fun X b => ?_)
  change WW X g _ _ 0 0 0 [some (.ref mo), some (.int (iI r)), some (.int (iI i))] [] _
  refine w_aload_n b dX9_isKnot_0 rfl rfl ?_
  refine w_iload_n b dX9_isKnot_1 rfl ?_
  refine z_iconst b dX9_isKnot_2 ?_
  refine w_aload_n b dX9_isKnot_3 rfl rfl ?_
  refine m_get b dX9_isKnot_4 lfX9_71 rfl ?_
  refine z_iconst b dX9_isKnot_7 ?_
  refine z_isub b dX9_isKnot_8 ?_
  refine c_V3 b dX9_isKnot_9 lmX9_137 (mp_obj _ _ _ _) (k_X9_in (by omega) (by omega) (by omega)) (tle rfl) (by omega) (by omega) (by omega) ?_
  refine z_ifb_eq (tgt := 34) b dX9_isKnot_12 (by decide) (fun h12 => ?_) (fun h12 => ?_)
  · refine z_iconst b dX9_isKnot_34 ?_
    exact z_zret b dX9_isKnot_35 rfl (by omega) (by omega) (by omega) ⟨iv_eq (by first | rfl | omega | (simp only [b2]; split <;> omega)), rfl⟩
  · refine w_aload_n b dX9_isKnot_15 rfl rfl ?_
    refine w_iload_n b dX9_isKnot_16 rfl ?_
    refine z_iconst b dX9_isKnot_17 ?_
    refine w_aload_n b dX9_isKnot_18 rfl rfl ?_
    refine m_get b dX9_isKnot_19 lfX9_134 rfl ?_
    refine z_iconst b dX9_isKnot_22 ?_
    refine z_isub b dX9_isKnot_23 ?_
    refine c_V3 b dX9_isKnot_24 lmX9_137 (mp_obj _ _ _ _) (k_X9_in (by omega) (by omega) (by omega)) (tle rfl) (by omega) (by omega) (by omega) ?_
    refine z_ifb_eq (tgt := 34) b dX9_isKnot_27 (by decide) (fun h27 => ?_) (fun h27 => ?_)
    · refine z_iconst b dX9_isKnot_34 ?_
      exact z_zret b dX9_isKnot_35 rfl (by omega) (by omega) (by omega) ⟨iv_eq (by first | rfl | omega | (simp only [b2]; split <;> omega)), rfl⟩
    · refine z_iconst b dX9_isKnot_30 ?_
      refine w_goto (tgt := 35) b dX9_isKnot_31 (by decide) ?_
      exact z_zret b dX9_isKnot_35 rfl (by omega) (by omega) (by omega) ⟨iv_eq (by first | rfl | omega | (simp only [b2]; split <;> omega)), rfl⟩
set_option maxRecDepth 20000 in
theorem k_X9_below {l0 : Launch} {g : Gw} {mo nx : Nat} {h0 : Nat → va_E} {I : Nat → Int} {F : Nat → Int → Int} {r p : Int} (hr : 1 ≤ r ∧ r ≤ 9) (hp : 0 ≤ p ∧ p ≤ 1000) (h21 : 0 ≤ I 21 ∧ I 21 ≤ 40) (h1 : 4 ≤ I 1 ∧ I 1 ≤ 40) : MD l0 g 0 mX9_below (mp mo h0 I F, nx) [.ref mo, .int (iI r), .int (iI p)] 0 0 (some (.int (iI (if I 21 < r ∨ I 1 ≤ p then 0 else F 23 (40 * (I 21 - r) + p))))) (mp mo h0 I F, nx) := by
  refine MD.of (by decide +kernel) (by simp [Value.category]) (tle rfl) (fun X b => ?_)
  change WW X g _ _ 0 0 0 [some (.ref mo), some (.int (iI r)), some (.int (iI p))] [] _
  refine w_iload_n b dX9_below_0 rfl ?_
  refine w_aload_n b dX9_below_1 rfl rfl ?_
  refine m_get b dX9_below_2 lfX9_71 rfl ?_
  refine z_icmp_gt (tgt := 16) b dX9_below_5 (by decide) (by omega) (fun h5 => ?_) (fun h5 => ?_)
  · refine z_iconst b dX9_below_16 ?_
    refine w_goto (tgt := 36) b dX9_below_17 (by decide) ?_
    exact w_iret b dX9_below_36 rfl (by omega) (by omega) ⟨iv_eq (by first | rfl | omega | (simp only [b2]; split <;> omega)), rfl⟩
  · refine w_iload_n b dX9_below_8 rfl ?_
    refine w_aload_n b dX9_below_9 rfl rfl ?_
    refine m_get b dX9_below_10 lfX9_134 rfl ?_
    refine z_icmp_lt (tgt := 20) b dX9_below_13 (by decide) (by omega) (fun h13 => ?_) (fun h13 => ?_)
    · refine w_aload_n b dX9_below_20 rfl rfl ?_
      refine m_get b dX9_below_21 lfX9_77 rfl ?_
      refine z_bipush b dX9_below_24 (by decide) ?_
      refine w_aload_n b dX9_below_26 rfl rfl ?_
      refine m_get b dX9_below_27 lfX9_71 rfl ?_
      refine w_iload_n b dX9_below_30 rfl ?_
      refine z_isub b dX9_below_31 ?_
      refine z_imul b dX9_below_32 ?_
      refine w_iload_n b dX9_below_33 rfl ?_
      refine z_iadd b dX9_below_34 ?_
      refine m_ald b dX9_below_35 rfl (by omega) ?_
      exact w_iret b dX9_below_36 rfl (by omega) (by omega) ⟨iv_eq (by first | rfl | omega | (simp only [b2]; split <;> omega)), rfl⟩
    · refine z_iconst b dX9_below_16 ?_
      refine w_goto (tgt := 36) b dX9_below_17 (by decide) ?_
      exact w_iret b dX9_below_36 rfl (by omega) (by omega) ⟨iv_eq (by first | rfl | omega | (simp only [b2]; split <;> omega)), rfl⟩
set_option maxRecDepth 20000 in
theorem k_X9_add {l0 : Launch} {g : Gw} {mo nx : Nat} {h0 : Nat → va_E} {I : Nat → Int} {F : Nat → Int → Int} {c : Int} (h13 : 0 ≤ I 13 ∧ I 13 ≤ 1000) : MD l0 g 0 mX9_add (mp mo h0 I F, nx) [.ref mo, .int (iI c)] 0 0 (some (.int (iI (b2 (¬ I 13 = 1000))))) (if I 13 = 1000 then (mp mo h0 I F, nx) else (mp mo h0 (va_up I 13 (I 13 + 1)) (va_up F 7 (fu (F 7) (I 13) c)), nx)) := by
  refine MD.of (by decide +kernel) (by simp [Value.category]) (tle rfl) (fun X b => ?_)
  change WW X g _ _ 0 0 0 [some (.ref mo), some (.int (iI c))] [] _
  refine w_aload_n b dX9_add_0 rfl rfl ?_
  refine m_get b dX9_add_1 lfX9_47 rfl ?_
  refine z_sipush b dX9_add_4 (by decide) ?_
  refine z_icmp_ne (tgt := 12) b dX9_add_7 (by decide) (by omega) (fun h7 => ?_) (fun h7 => ?_)
  · refine w_aload_n b dX9_add_12 rfl rfl ?_
    refine m_get b dX9_add_13 lfX9_29 rfl ?_
    refine w_aload_n b dX9_add_16 rfl rfl ?_
    refine m_get b dX9_add_17 lfX9_47 rfl ?_
    refine w_iload_n b dX9_add_20 rfl ?_
    refine m_ast b dX9_add_21 rfl (by omega) ?_
    refine w_aload_n b dX9_add_22 rfl rfl ?_
    refine w_dup b dX9_add_23 rfl ?_
    refine m_get b dX9_add_24 lfX9_47 rfl ?_
    refine z_iconst b dX9_add_27 ?_
    refine z_iadd b dX9_add_28 ?_
    refine m_put b dX9_add_29 lfX9_47 gtX9_13 (tlt rfl) rfl ?_
    refine z_iconst b dX9_add_32 ?_
    exact z_zret b dX9_add_33 rfl (by omega) (by omega) (by omega) ⟨iv_eq (by first | rfl | omega | (simp only [b2]; split <;> omega)), rfl⟩
  · refine z_iconst b dX9_add_10 ?_
    exact z_zret b dX9_add_11 rfl (by omega) (by omega) (by omega) ⟨iv_eq (by first | rfl | omega | (simp only [b2]; split <;> omega)), rfl⟩
end
