/-- a private method of a class that the tables say can be made, by its rows of tables_1 -/
def lw_okq (q : MethodName × Nat) : Prop := (q.1.cls ≠ "java/lang/invoke/MethodHandle" ∧ q.1.cls ≠ "java/lang/invoke/VarHandle") ∧ Cond.instantiable q.1.cls q.2 ∈ tables_1 ∧ Cond.privateMethod q.1 ∈ tables_1 ∧ Cond.instanceMethod q.1 ∈ tables_1
theorem lw_p0 : lw_okq (⟨"NineDays$Land", "shorten", "(IIIII)V"⟩, 2) := ⟨⟨by decide +kernel, by decide +kernel⟩, List.mem_of_getElem? (i := 28) (by decide +kernel), List.mem_of_getElem? (i := 409) (by decide +kernel), List.mem_of_getElem? (i := 410) (by decide +kernel)⟩
theorem lw_p1 : lw_okq (⟨"NineDays$Orders", "overtaken", "(II)Z"⟩, 8) := ⟨⟨by decide +kernel, by decide +kernel⟩, List.mem_of_getElem? (i := 79) (by decide +kernel), List.mem_of_getElem? (i := 493) (by decide +kernel), List.mem_of_getElem? (i := 494) (by decide +kernel)⟩
theorem lw_p2 : lw_okq (⟨"NineDays$Orders", "firstCallHour", "()I"⟩, 8) := ⟨⟨by decide +kernel, by decide +kernel⟩, List.mem_of_getElem? (i := 79) (by decide +kernel), List.mem_of_getElem? (i := 506) (by decide +kernel), List.mem_of_getElem? (i := 507) (by decide +kernel)⟩
theorem lw_p3 : lw_okq (⟨"NineDays$Orders", "spread", "(III)V"⟩, 8) := ⟨⟨by decide +kernel, by decide +kernel⟩, List.mem_of_getElem? (i := 79) (by decide +kernel), List.mem_of_getElem? (i := 511) (by decide +kernel), List.mem_of_getElem? (i := 512) (by decide +kernel)⟩
theorem lw_p4 : lw_okq (⟨"NineDays$Reader", "more", "()Z"⟩, 9) := ⟨⟨by decide +kernel, by decide +kernel⟩, List.mem_of_getElem? (i := 139) (by decide +kernel), List.mem_of_getElem? (i := 540) (by decide +kernel), List.mem_of_getElem? (i := 541) (by decide +kernel)⟩
theorem lw_p5 : lw_okq (⟨"NineDays$Reader", "skipBlanks", "()V"⟩, 9) := ⟨⟨by decide +kernel, by decide +kernel⟩, List.mem_of_getElem? (i := 139) (by decide +kernel), List.mem_of_getElem? (i := 544) (by decide +kernel), List.mem_of_getElem? (i := 545) (by decide +kernel)⟩
theorem lw_p6 : lw_okq (⟨"NineDays$Reader", "readClause", "(I)V"⟩, 9) := ⟨⟨by decide +kernel, by decide +kernel⟩, List.mem_of_getElem? (i := 139) (by decide +kernel), List.mem_of_getElem? (i := 548) (by decide +kernel), List.mem_of_getElem? (i := 549) (by decide +kernel)⟩
theorem lw_p7 : lw_okq (⟨"NineDays$Reader", "takeWord", "()V"⟩, 9) := ⟨⟨by decide +kernel, by decide +kernel⟩, List.mem_of_getElem? (i := 139) (by decide +kernel), List.mem_of_getElem? (i := 552) (by decide +kernel), List.mem_of_getElem? (i := 553) (by decide +kernel)⟩
theorem lw_p8 : lw_okq (⟨"NineDays$Reader", "spells", "(Ljava/lang/String;)Z"⟩, 9) := ⟨⟨by decide +kernel, by decide +kernel⟩, List.mem_of_getElem? (i := 139) (by decide +kernel), List.mem_of_getElem? (i := 557) (by decide +kernel), List.mem_of_getElem? (i := 558) (by decide +kernel)⟩
theorem lw_p9 : lw_okq (⟨"NineDays$Reader", "readNeed", "()V"⟩, 9) := ⟨⟨by decide +kernel, by decide +kernel⟩, List.mem_of_getElem? (i := 139) (by decide +kernel), List.mem_of_getElem? (i := 609) (by decide +kernel), List.mem_of_getElem? (i := 610) (by decide +kernel)⟩
theorem lw_p10 : lw_okq (⟨"NineDays$Reader", "refuseNinth", "()V"⟩, 9) := ⟨⟨by decide +kernel, by decide +kernel⟩, List.mem_of_getElem? (i := 139) (by decide +kernel), List.mem_of_getElem? (i := 613) (by decide +kernel), List.mem_of_getElem? (i := 614) (by decide +kernel)⟩
theorem lw_p11 : lw_okq (⟨"NineDays$Reader", "blame", "(II)V"⟩, 9) := ⟨⟨by decide +kernel, by decide +kernel⟩, List.mem_of_getElem? (i := 139) (by decide +kernel), List.mem_of_getElem? (i := 617) (by decide +kernel), List.mem_of_getElem? (i := 618) (by decide +kernel)⟩
theorem lw_p12 : lw_okq (⟨"NineDays$Reader", "good", "()I"⟩, 9) := ⟨⟨by decide +kernel, by decide +kernel⟩, List.mem_of_getElem? (i := 139) (by decide +kernel), List.mem_of_getElem? (i := 621) (by decide +kernel), List.mem_of_getElem? (i := 622) (by decide +kernel)⟩
theorem lw_p13 : lw_okq (⟨"NineDays$Reader", "readStamp", "(I)I"⟩, 9) := ⟨⟨by decide +kernel, by decide +kernel⟩, List.mem_of_getElem? (i := 139) (by decide +kernel), List.mem_of_getElem? (i := 628) (by decide +kernel), List.mem_of_getElem? (i := 629) (by decide +kernel)⟩
theorem lw_p14 : lw_okq (⟨"NineDays$Reader", "committee", "()I"⟩, 9) := ⟨⟨by decide +kernel, by decide +kernel⟩, List.mem_of_getElem? (i := 139) (by decide +kernel), List.mem_of_getElem? (i := 632) (by decide +kernel), List.mem_of_getElem? (i := 633) (by decide +kernel)⟩
theorem lw_p15 : lw_okq (⟨"NineDays$Reader", "takes", "(C)Z"⟩, 9) := ⟨⟨by decide +kernel, by decide +kernel⟩, List.mem_of_getElem? (i := 139) (by decide +kernel), List.mem_of_getElem? (i := 643) (by decide +kernel), List.mem_of_getElem? (i := 644) (by decide +kernel)⟩
def lw_privs_1 : List (MethodName × Nat) := [(⟨"NineDays$Land", "shorten", "(IIIII)V"⟩, 2), (⟨"NineDays$Orders", "overtaken", "(II)Z"⟩, 8), (⟨"NineDays$Orders", "firstCallHour", "()I"⟩, 8), (⟨"NineDays$Orders", "spread", "(III)V"⟩, 8), (⟨"NineDays$Reader", "more", "()Z"⟩, 9), (⟨"NineDays$Reader", "skipBlanks", "()V"⟩, 9), (⟨"NineDays$Reader", "readClause", "(I)V"⟩, 9), (⟨"NineDays$Reader", "takeWord", "()V"⟩, 9), (⟨"NineDays$Reader", "spells", "(Ljava/lang/String;)Z"⟩, 9), (⟨"NineDays$Reader", "readNeed", "()V"⟩, 9), (⟨"NineDays$Reader", "refuseNinth", "()V"⟩, 9), (⟨"NineDays$Reader", "blame", "(II)V"⟩, 9), (⟨"NineDays$Reader", "good", "()I"⟩, 9), (⟨"NineDays$Reader", "readStamp", "(I)I"⟩, 9), (⟨"NineDays$Reader", "committee", "()I"⟩, 9), (⟨"NineDays$Reader", "takes", "(C)Z"⟩, 9)]
theorem lw_r1 : ∀ q ∈ lw_privs_1, lw_okq q := List.forall_mem_cons.mpr ⟨lw_p0, List.forall_mem_cons.mpr ⟨lw_p1, List.forall_mem_cons.mpr ⟨lw_p2, List.forall_mem_cons.mpr ⟨lw_p3, List.forall_mem_cons.mpr ⟨lw_p4, List.forall_mem_cons.mpr ⟨lw_p5, List.forall_mem_cons.mpr ⟨lw_p6, List.forall_mem_cons.mpr ⟨lw_p7, List.forall_mem_cons.mpr ⟨lw_p8, List.forall_mem_cons.mpr ⟨lw_p9, List.forall_mem_cons.mpr ⟨lw_p10, List.forall_mem_cons.mpr ⟨lw_p11, List.forall_mem_cons.mpr ⟨lw_p12, List.forall_mem_cons.mpr ⟨lw_p13, List.forall_mem_cons.mpr ⟨lw_p14, List.forall_mem_cons.mpr ⟨lw_p15, fun _ h => absurd h List.not_mem_nil⟩⟩⟩⟩⟩⟩⟩⟩⟩⟩⟩⟩⟩⟩⟩⟩
theorem lw_p16 : lw_okq (⟨"NineDays$Reader", "close", "(II)V"⟩, 9) := ⟨⟨by decide +kernel, by decide +kernel⟩, List.mem_of_getElem? (i := 139) (by decide +kernel), List.mem_of_getElem? (i := 647) (by decide +kernel), List.mem_of_getElem? (i := 648) (by decide +kernel)⟩
theorem lw_p17 : lw_okq (⟨"NineDays$Reader", "readNumber", "(II)V"⟩, 9) := ⟨⟨by decide +kernel, by decide +kernel⟩, List.mem_of_getElem? (i := 139) (by decide +kernel), List.mem_of_getElem? (i := 652) (by decide +kernel), List.mem_of_getElem? (i := 653) (by decide +kernel)⟩
theorem lw_p18 : lw_okq (⟨"NineDays$Rules", "countingIn", "(I)I"⟩, 6) := ⟨⟨by decide +kernel, by decide +kernel⟩, List.mem_of_getElem? (i := 113) (by decide +kernel), List.mem_of_getElem? (i := 685) (by decide +kernel), List.mem_of_getElem? (i := 686) (by decide +kernel)⟩
theorem lw_p19 : lw_okq (⟨"NineDays$Rules", "struckBy", "(I)I"⟩, 6) := ⟨⟨by decide +kernel, by decide +kernel⟩, List.mem_of_getElem? (i := 113) (by decide +kernel), List.mem_of_getElem? (i := 690) (by decide +kernel), List.mem_of_getElem? (i := 691) (by decide +kernel)⟩
theorem lw_p20 : lw_okq (⟨"NineDays$Rules", "apply", "(I[I)V"⟩, 6) := ⟨⟨by decide +kernel, by decide +kernel⟩, List.mem_of_getElem? (i := 113) (by decide +kernel), List.mem_of_getElem? (i := 694) (by decide +kernel), List.mem_of_getElem? (i := 695) (by decide +kernel)⟩
theorem lw_p21 : lw_okq (⟨"NineDays$Days", "listenAhead", "(IZ)V"⟩, 17) := ⟨⟨by decide +kernel, by decide +kernel⟩, List.mem_of_getElem? (i := 220) (by decide +kernel), List.mem_of_getElem? (i := 739) (by decide +kernel), List.mem_of_getElem? (i := 740) (by decide +kernel)⟩
theorem lw_p22 : lw_okq (⟨"NineDays$Days", "step", "(IZ)I"⟩, 17) := ⟨⟨by decide +kernel, by decide +kernel⟩, List.mem_of_getElem? (i := 220) (by decide +kernel), List.mem_of_getElem? (i := 745) (by decide +kernel), List.mem_of_getElem? (i := 746) (by decide +kernel)⟩
theorem lw_p23 : lw_okq (⟨"NineDays$Days", "arrive", "(I)V"⟩, 17) := ⟨⟨by decide +kernel, by decide +kernel⟩, List.mem_of_getElem? (i := 220) (by decide +kernel), List.mem_of_getElem? (i := 750) (by decide +kernel), List.mem_of_getElem? (i := 751) (by decide +kernel)⟩
theorem lw_p24 : lw_okq (⟨"NineDays$Days", "callOut", "()V"⟩, 17) := ⟨⟨by decide +kernel, by decide +kernel⟩, List.mem_of_getElem? (i := 220) (by decide +kernel), List.mem_of_getElem? (i := 755) (by decide +kernel), List.mem_of_getElem? (i := 756) (by decide +kernel)⟩
theorem lw_p25 : lw_okq (⟨"NineDays$Days", "payAll", "()V"⟩, 17) := ⟨⟨by decide +kernel, by decide +kernel⟩, List.mem_of_getElem? (i := 220) (by decide +kernel), List.mem_of_getElem? (i := 759) (by decide +kernel), List.mem_of_getElem? (i := 760) (by decide +kernel)⟩
theorem lw_p26 : lw_okq (⟨"NineDays$Days", "payDay", "(I)V"⟩, 17) := ⟨⟨by decide +kernel, by decide +kernel⟩, List.mem_of_getElem? (i := 220) (by decide +kernel), List.mem_of_getElem? (i := 763) (by decide +kernel), List.mem_of_getElem? (i := 764) (by decide +kernel)⟩
theorem lw_p27 : lw_okq (⟨"NineDays$Days", "send", "(II)V"⟩, 17) := ⟨⟨by decide +kernel, by decide +kernel⟩, List.mem_of_getElem? (i := 220) (by decide +kernel), List.mem_of_getElem? (i := 770) (by decide +kernel), List.mem_of_getElem? (i := 771) (by decide +kernel)⟩
theorem lw_p28 : lw_okq (⟨"NineDays$Days", "use", "(I)I"⟩, 17) := ⟨⟨by decide +kernel, by decide +kernel⟩, List.mem_of_getElem? (i := 220) (by decide +kernel), List.mem_of_getElem? (i := 776) (by decide +kernel), List.mem_of_getElem? (i := 777) (by decide +kernel)⟩
theorem lw_p29 : lw_okq (⟨"NineDays$Leaves", "inForce", "(II)Z"⟩, 6) := ⟨⟨by decide +kernel, by decide +kernel⟩, List.mem_of_getElem? (i := 297) (by decide +kernel), List.mem_of_getElem? (i := 796) (by decide +kernel), List.mem_of_getElem? (i := 797) (by decide +kernel)⟩
theorem lw_p30 : lw_okq (⟨"NineDays", "daysPaid", "(I)I"⟩, 12) := ⟨⟨by decide +kernel, by decide +kernel⟩, List.mem_of_getElem? (i := 20) (by decide +kernel), List.mem_of_getElem? (i := 806) (by decide +kernel), List.mem_of_getElem? (i := 807) (by decide +kernel)⟩
theorem lw_p31 : lw_okq (⟨"NineDays$Game", "solveDay", "(IIIZ)V"⟩, 6) := ⟨⟨by decide +kernel, by decide +kernel⟩, List.mem_of_getElem? (i := 323) (by decide +kernel), List.mem_of_getElem? (i := 828) (by decide +kernel), List.mem_of_getElem? (i := 829) (by decide +kernel)⟩
def lw_privs_2 : List (MethodName × Nat) := [(⟨"NineDays$Reader", "close", "(II)V"⟩, 9), (⟨"NineDays$Reader", "readNumber", "(II)V"⟩, 9), (⟨"NineDays$Rules", "countingIn", "(I)I"⟩, 6), (⟨"NineDays$Rules", "struckBy", "(I)I"⟩, 6), (⟨"NineDays$Rules", "apply", "(I[I)V"⟩, 6), (⟨"NineDays$Days", "listenAhead", "(IZ)V"⟩, 17), (⟨"NineDays$Days", "step", "(IZ)I"⟩, 17), (⟨"NineDays$Days", "arrive", "(I)V"⟩, 17), (⟨"NineDays$Days", "callOut", "()V"⟩, 17), (⟨"NineDays$Days", "payAll", "()V"⟩, 17), (⟨"NineDays$Days", "payDay", "(I)V"⟩, 17), (⟨"NineDays$Days", "send", "(II)V"⟩, 17), (⟨"NineDays$Days", "use", "(I)I"⟩, 17), (⟨"NineDays$Leaves", "inForce", "(II)Z"⟩, 6), (⟨"NineDays", "daysPaid", "(I)I"⟩, 12), (⟨"NineDays$Game", "solveDay", "(IIIZ)V"⟩, 6)]
theorem lw_r2 : ∀ q ∈ lw_privs_2, lw_okq q := List.forall_mem_cons.mpr ⟨lw_p16, List.forall_mem_cons.mpr ⟨lw_p17, List.forall_mem_cons.mpr ⟨lw_p18, List.forall_mem_cons.mpr ⟨lw_p19, List.forall_mem_cons.mpr ⟨lw_p20, List.forall_mem_cons.mpr ⟨lw_p21, List.forall_mem_cons.mpr ⟨lw_p22, List.forall_mem_cons.mpr ⟨lw_p23, List.forall_mem_cons.mpr ⟨lw_p24, List.forall_mem_cons.mpr ⟨lw_p25, List.forall_mem_cons.mpr ⟨lw_p26, List.forall_mem_cons.mpr ⟨lw_p27, List.forall_mem_cons.mpr ⟨lw_p28, List.forall_mem_cons.mpr ⟨lw_p29, List.forall_mem_cons.mpr ⟨lw_p30, List.forall_mem_cons.mpr ⟨lw_p31, fun _ h => absurd h List.not_mem_nil⟩⟩⟩⟩⟩⟩⟩⟩⟩⟩⟩⟩⟩⟩⟩⟩
theorem lw_p32 : lw_okq (⟨"NineDays$Game", "answer", "(IIZ)I"⟩, 6) := ⟨⟨by decide +kernel, by decide +kernel⟩, List.mem_of_getElem? (i := 323) (by decide +kernel), List.mem_of_getElem? (i := 832) (by decide +kernel), List.mem_of_getElem? (i := 833) (by decide +kernel)⟩
theorem lw_p33 : lw_okq (⟨"NineDays$Game", "outcome", "(IZ)I"⟩, 6) := ⟨⟨by decide +kernel, by decide +kernel⟩, List.mem_of_getElem? (i := 323) (by decide +kernel), List.mem_of_getElem? (i := 836) (by decide +kernel), List.mem_of_getElem? (i := 837) (by decide +kernel)⟩
theorem lw_p34 : lw_okq (⟨"NineDaysModel", "awayOf", "(II)I"⟩, 60) := ⟨⟨by decide +kernel, by decide +kernel⟩, List.mem_of_getElem? (i := 859) (by decide +kernel), List.mem_of_getElem? (i := 1066) (by decide +kernel), List.mem_of_getElem? (i := 1067) (by decide +kernel)⟩
theorem lw_p35 : lw_okq (⟨"NineDaysModel", "noOrder", "(I)Z"⟩, 60) := ⟨⟨by decide +kernel, by decide +kernel⟩, List.mem_of_getElem? (i := 859) (by decide +kernel), List.mem_of_getElem? (i := 1121) (by decide +kernel), List.mem_of_getElem? (i := 1122) (by decide +kernel)⟩
theorem lw_p36 : lw_okq (⟨"NineDaysModel", "reachOf", "(II)I"⟩, 60) := ⟨⟨by decide +kernel, by decide +kernel⟩, List.mem_of_getElem? (i := 859) (by decide +kernel), List.mem_of_getElem? (i := 1125) (by decide +kernel), List.mem_of_getElem? (i := 1126) (by decide +kernel)⟩
theorem lw_p37 : lw_okq (⟨"NineDaysModel", "hourOf", "(I)I"⟩, 60) := ⟨⟨by decide +kernel, by decide +kernel⟩, List.mem_of_getElem? (i := 859) (by decide +kernel), List.mem_of_getElem? (i := 1129) (by decide +kernel), List.mem_of_getElem? (i := 1130) (by decide +kernel)⟩
theorem lw_p38 : lw_okq (⟨"NineDaysModel", "isCalled", "(III)Z"⟩, 60) := ⟨⟨by decide +kernel, by decide +kernel⟩, List.mem_of_getElem? (i := 859) (by decide +kernel), List.mem_of_getElem? (i := 1147) (by decide +kernel), List.mem_of_getElem? (i := 1148) (by decide +kernel)⟩
theorem lw_p39 : lw_okq (⟨"NineDaysModel", "holdsOf", "(IIII)I"⟩, 60) := ⟨⟨by decide +kernel, by decide +kernel⟩, List.mem_of_getElem? (i := 859) (by decide +kernel), List.mem_of_getElem? (i := 1151) (by decide +kernel), List.mem_of_getElem? (i := 1152) (by decide +kernel)⟩
theorem lw_p40 : lw_okq (⟨"NineDaysModel", "here", "()I"⟩, 60) := ⟨⟨by decide +kernel, by decide +kernel⟩, List.mem_of_getElem? (i := 859) (by decide +kernel), List.mem_of_getElem? (i := 1168) (by decide +kernel), List.mem_of_getElem? (i := 1169) (by decide +kernel)⟩
theorem lw_p41 : lw_okq (⟨"NineDaysModel", "takeWord", "()V"⟩, 60) := ⟨⟨by decide +kernel, by decide +kernel⟩, List.mem_of_getElem? (i := 859) (by decide +kernel), List.mem_of_getElem? (i := 1172) (by decide +kernel), List.mem_of_getElem? (i := 1173) (by decide +kernel)⟩
theorem lw_p42 : lw_okq (⟨"NineDaysModel", "clauseOf", "()I"⟩, 60) := ⟨⟨by decide +kernel, by decide +kernel⟩, List.mem_of_getElem? (i := 859) (by decide +kernel), List.mem_of_getElem? (i := 1178) (by decide +kernel), List.mem_of_getElem? (i := 1179) (by decide +kernel)⟩
theorem lw_p43 : lw_okq (⟨"NineDaysModel", "isWord", "(IIIIIII)Z"⟩, 60) := ⟨⟨by decide +kernel, by decide +kernel⟩, List.mem_of_getElem? (i := 859) (by decide +kernel), List.mem_of_getElem? (i := 1182) (by decide +kernel), List.mem_of_getElem? (i := 1183) (by decide +kernel)⟩
theorem lw_p44 : lw_okq (⟨"NineDaysModel", "want", "(ZII)Z"⟩, 60) := ⟨⟨by decide +kernel, by decide +kernel⟩, List.mem_of_getElem? (i := 859) (by decide +kernel), List.mem_of_getElem? (i := 1186) (by decide +kernel), List.mem_of_getElem? (i := 1187) (by decide +kernel)⟩
theorem lw_p45 : lw_okq (⟨"NineDaysModel", "readClause", "(II)V"⟩, 60) := ⟨⟨by decide +kernel, by decide +kernel⟩, List.mem_of_getElem? (i := 859) (by decide +kernel), List.mem_of_getElem? (i := 1190) (by decide +kernel), List.mem_of_getElem? (i := 1191) (by decide +kernel)⟩
theorem lw_p46 : lw_okq (⟨"NineDaysModel", "readNeed", "(I)V"⟩, 60) := ⟨⟨by decide +kernel, by decide +kernel⟩, List.mem_of_getElem? (i := 859) (by decide +kernel), List.mem_of_getElem? (i := 1194) (by decide +kernel), List.mem_of_getElem? (i := 1195) (by decide +kernel)⟩
theorem lw_p47 : lw_okq (⟨"NineDaysModel", "goodOf", "()I"⟩, 60) := ⟨⟨by decide +kernel, by decide +kernel⟩, List.mem_of_getElem? (i := 859) (by decide +kernel), List.mem_of_getElem? (i := 1198) (by decide +kernel), List.mem_of_getElem? (i := 1199) (by decide +kernel)⟩
def lw_privs_3 : List (MethodName × Nat) := [(⟨"NineDays$Game", "answer", "(IIZ)I"⟩, 6), (⟨"NineDays$Game", "outcome", "(IZ)I"⟩, 6), (⟨"NineDaysModel", "awayOf", "(II)I"⟩, 60), (⟨"NineDaysModel", "noOrder", "(I)Z"⟩, 60), (⟨"NineDaysModel", "reachOf", "(II)I"⟩, 60), (⟨"NineDaysModel", "hourOf", "(I)I"⟩, 60), (⟨"NineDaysModel", "isCalled", "(III)Z"⟩, 60), (⟨"NineDaysModel", "holdsOf", "(IIII)I"⟩, 60), (⟨"NineDaysModel", "here", "()I"⟩, 60), (⟨"NineDaysModel", "takeWord", "()V"⟩, 60), (⟨"NineDaysModel", "clauseOf", "()I"⟩, 60), (⟨"NineDaysModel", "isWord", "(IIIIIII)Z"⟩, 60), (⟨"NineDaysModel", "want", "(ZII)Z"⟩, 60), (⟨"NineDaysModel", "readClause", "(II)V"⟩, 60), (⟨"NineDaysModel", "readNeed", "(I)V"⟩, 60), (⟨"NineDaysModel", "goodOf", "()I"⟩, 60)]
theorem lw_r3 : ∀ q ∈ lw_privs_3, lw_okq q := List.forall_mem_cons.mpr ⟨lw_p32, List.forall_mem_cons.mpr ⟨lw_p33, List.forall_mem_cons.mpr ⟨lw_p34, List.forall_mem_cons.mpr ⟨lw_p35, List.forall_mem_cons.mpr ⟨lw_p36, List.forall_mem_cons.mpr ⟨lw_p37, List.forall_mem_cons.mpr ⟨lw_p38, List.forall_mem_cons.mpr ⟨lw_p39, List.forall_mem_cons.mpr ⟨lw_p40, List.forall_mem_cons.mpr ⟨lw_p41, List.forall_mem_cons.mpr ⟨lw_p42, List.forall_mem_cons.mpr ⟨lw_p43, List.forall_mem_cons.mpr ⟨lw_p44, List.forall_mem_cons.mpr ⟨lw_p45, List.forall_mem_cons.mpr ⟨lw_p46, List.forall_mem_cons.mpr ⟨lw_p47, fun _ h => absurd h List.not_mem_nil⟩⟩⟩⟩⟩⟩⟩⟩⟩⟩⟩⟩⟩⟩⟩⟩
theorem lw_p48 : lw_okq (⟨"NineDaysModel", "stampOf", "()I"⟩, 60) := ⟨⟨by decide +kernel, by decide +kernel⟩, List.mem_of_getElem? (i := 859) (by decide +kernel), List.mem_of_getElem? (i := 1202) (by decide +kernel), List.mem_of_getElem? (i := 1203) (by decide +kernel)⟩
theorem lw_p49 : lw_okq (⟨"NineDaysModel", "takeNumber", "(II)I"⟩, 60) := ⟨⟨by decide +kernel, by decide +kernel⟩, List.mem_of_getElem? (i := 859) (by decide +kernel), List.mem_of_getElem? (i := 1206) (by decide +kernel), List.mem_of_getElem? (i := 1207) (by decide +kernel)⟩
theorem lw_p50 : lw_okq (⟨"NineDaysModel", "findRules", "(I)V"⟩, 60) := ⟨⟨by decide +kernel, by decide +kernel⟩, List.mem_of_getElem? (i := 859) (by decide +kernel), List.mem_of_getElem? (i := 1221) (by decide +kernel), List.mem_of_getElem? (i := 1222) (by decide +kernel)⟩
theorem lw_p51 : lw_okq (⟨"NineDaysModel", "take", "(I)V"⟩, 60) := ⟨⟨by decide +kernel, by decide +kernel⟩, List.mem_of_getElem? (i := 859) (by decide +kernel), List.mem_of_getElem? (i := 1225) (by decide +kernel), List.mem_of_getElem? (i := 1226) (by decide +kernel)⟩
theorem lw_p52 : lw_okq (⟨"NineDaysModel", "begin", "(I)V"⟩, 60) := ⟨⟨by decide +kernel, by decide +kernel⟩, List.mem_of_getElem? (i := 859) (by decide +kernel), List.mem_of_getElem? (i := 1233) (by decide +kernel), List.mem_of_getElem? (i := 1234) (by decide +kernel)⟩
theorem lw_p53 : lw_okq (⟨"NineDaysModel", "noLoad", "(I)Z"⟩, 60) := ⟨⟨by decide +kernel, by decide +kernel⟩, List.mem_of_getElem? (i := 859) (by decide +kernel), List.mem_of_getElem? (i := 1241) (by decide +kernel), List.mem_of_getElem? (i := 1242) (by decide +kernel)⟩
theorem lw_p54 : lw_okq (⟨"NineDaysModel", "doHour", "(I)I"⟩, 60) := ⟨⟨by decide +kernel, by decide +kernel⟩, List.mem_of_getElem? (i := 859) (by decide +kernel), List.mem_of_getElem? (i := 1262) (by decide +kernel), List.mem_of_getElem? (i := 1263) (by decide +kernel)⟩
theorem lw_p55 : lw_okq (⟨"NineDaysModel", "arrive", "(I)V"⟩, 60) := ⟨⟨by decide +kernel, by decide +kernel⟩, List.mem_of_getElem? (i := 859) (by decide +kernel), List.mem_of_getElem? (i := 1266) (by decide +kernel), List.mem_of_getElem? (i := 1267) (by decide +kernel)⟩
theorem lw_p56 : lw_okq (⟨"NineDaysModel", "callOut", "(I)V"⟩, 60) := ⟨⟨by decide +kernel, by decide +kernel⟩, List.mem_of_getElem? (i := 859) (by decide +kernel), List.mem_of_getElem? (i := 1270) (by decide +kernel), List.mem_of_getElem? (i := 1271) (by decide +kernel)⟩
theorem lw_p57 : lw_okq (⟨"NineDaysModel", "payOut", "(II)V"⟩, 60) := ⟨⟨by decide +kernel, by decide +kernel⟩, List.mem_of_getElem? (i := 859) (by decide +kernel), List.mem_of_getElem? (i := 1274) (by decide +kernel), List.mem_of_getElem? (i := 1275) (by decide +kernel)⟩
theorem lw_p58 : lw_okq (⟨"NineDaysModel", "sendOff", "(I)V"⟩, 60) := ⟨⟨by decide +kernel, by decide +kernel⟩, List.mem_of_getElem? (i := 859) (by decide +kernel), List.mem_of_getElem? (i := 1278) (by decide +kernel), List.mem_of_getElem? (i := 1279) (by decide +kernel)⟩
theorem lw_p59 : lw_okq (⟨"NineDaysModel", "useUp", "(I)I"⟩, 60) := ⟨⟨by decide +kernel, by decide +kernel⟩, List.mem_of_getElem? (i := 859) (by decide +kernel), List.mem_of_getElem? (i := 1282) (by decide +kernel), List.mem_of_getElem? (i := 1283) (by decide +kernel)⟩
theorem lw_p60 : lw_okq (⟨"NineDaysModel", "loadsIn", "(I)I"⟩, 60) := ⟨⟨by decide +kernel, by decide +kernel⟩, List.mem_of_getElem? (i := 859) (by decide +kernel), List.mem_of_getElem? (i := 1290) (by decide +kernel), List.mem_of_getElem? (i := 1291) (by decide +kernel)⟩
theorem lw_p61 : lw_okq (⟨"NineDaysModel", "outAll", "(Z)I"⟩, 60) := ⟨⟨by decide +kernel, by decide +kernel⟩, List.mem_of_getElem? (i := 859) (by decide +kernel), List.mem_of_getElem? (i := 1294) (by decide +kernel), List.mem_of_getElem? (i := 1295) (by decide +kernel)⟩
theorem lw_p62 : lw_okq (⟨"NineDaysModel", "hungerAll", "()I"⟩, 60) := ⟨⟨by decide +kernel, by decide +kernel⟩, List.mem_of_getElem? (i := 859) (by decide +kernel), List.mem_of_getElem? (i := 1298) (by decide +kernel), List.mem_of_getElem? (i := 1299) (by decide +kernel)⟩
theorem lw_p63 : lw_okq (⟨"NineDaysModel", "ledTo", "(IIZ)I"⟩, 60) := ⟨⟨by decide +kernel, by decide +kernel⟩, List.mem_of_getElem? (i := 859) (by decide +kernel), List.mem_of_getElem? (i := 1310) (by decide +kernel), List.mem_of_getElem? (i := 1311) (by decide +kernel)⟩
def lw_privs_4 : List (MethodName × Nat) := [(⟨"NineDaysModel", "stampOf", "()I"⟩, 60), (⟨"NineDaysModel", "takeNumber", "(II)I"⟩, 60), (⟨"NineDaysModel", "findRules", "(I)V"⟩, 60), (⟨"NineDaysModel", "take", "(I)V"⟩, 60), (⟨"NineDaysModel", "begin", "(I)V"⟩, 60), (⟨"NineDaysModel", "noLoad", "(I)Z"⟩, 60), (⟨"NineDaysModel", "doHour", "(I)I"⟩, 60), (⟨"NineDaysModel", "arrive", "(I)V"⟩, 60), (⟨"NineDaysModel", "callOut", "(I)V"⟩, 60), (⟨"NineDaysModel", "payOut", "(II)V"⟩, 60), (⟨"NineDaysModel", "sendOff", "(I)V"⟩, 60), (⟨"NineDaysModel", "useUp", "(I)I"⟩, 60), (⟨"NineDaysModel", "loadsIn", "(I)I"⟩, 60), (⟨"NineDaysModel", "outAll", "(Z)I"⟩, 60), (⟨"NineDaysModel", "hungerAll", "()I"⟩, 60), (⟨"NineDaysModel", "ledTo", "(IIZ)I"⟩, 60)]
theorem lw_r4 : ∀ q ∈ lw_privs_4, lw_okq q := List.forall_mem_cons.mpr ⟨lw_p48, List.forall_mem_cons.mpr ⟨lw_p49, List.forall_mem_cons.mpr ⟨lw_p50, List.forall_mem_cons.mpr ⟨lw_p51, List.forall_mem_cons.mpr ⟨lw_p52, List.forall_mem_cons.mpr ⟨lw_p53, List.forall_mem_cons.mpr ⟨lw_p54, List.forall_mem_cons.mpr ⟨lw_p55, List.forall_mem_cons.mpr ⟨lw_p56, List.forall_mem_cons.mpr ⟨lw_p57, List.forall_mem_cons.mpr ⟨lw_p58, List.forall_mem_cons.mpr ⟨lw_p59, List.forall_mem_cons.mpr ⟨lw_p60, List.forall_mem_cons.mpr ⟨lw_p61, List.forall_mem_cons.mpr ⟨lw_p62, List.forall_mem_cons.mpr ⟨lw_p63, fun _ h => absurd h List.not_mem_nil⟩⟩⟩⟩⟩⟩⟩⟩⟩⟩⟩⟩⟩⟩⟩⟩
theorem lw_p64 : lw_okq (⟨"NineDaysModel", "lastOf", "(I)I"⟩, 60) := ⟨⟨by decide +kernel, by decide +kernel⟩, List.mem_of_getElem? (i := 859) (by decide +kernel), List.mem_of_getElem? (i := 1318) (by decide +kernel), List.mem_of_getElem? (i := 1319) (by decide +kernel)⟩
theorem lw_p65 : lw_okq (⟨"NineDaysModel", "findWorths", "(II)V"⟩, 60) := ⟨⟨by decide +kernel, by decide +kernel⟩, List.mem_of_getElem? (i := 859) (by decide +kernel), List.mem_of_getElem? (i := 1339) (by decide +kernel), List.mem_of_getElem? (i := 1340) (by decide +kernel)⟩
theorem lw_p66 : lw_okq (⟨"NineDaysModel", "worthOf", "(III)I"⟩, 60) := ⟨⟨by decide +kernel, by decide +kernel⟩, List.mem_of_getElem? (i := 859) (by decide +kernel), List.mem_of_getElem? (i := 1346) (by decide +kernel), List.mem_of_getElem? (i := 1347) (by decide +kernel)⟩
theorem lw_p67 : lw_okq (⟨"NineDaysModel", "keepAll", "(Z)V"⟩, 60) := ⟨⟨by decide +kernel, by decide +kernel⟩, List.mem_of_getElem? (i := 859) (by decide +kernel), List.mem_of_getElem? (i := 1358) (by decide +kernel), List.mem_of_getElem? (i := 1359) (by decide +kernel)⟩
theorem lw_p68 : lw_okq (⟨"NineDaysModel", "keep", "(IIZ)I"⟩, 60) := ⟨⟨by decide +kernel, by decide +kernel⟩, List.mem_of_getElem? (i := 859) (by decide +kernel), List.mem_of_getElem? (i := 1362) (by decide +kernel), List.mem_of_getElem? (i := 1363) (by decide +kernel)⟩
def lw_privs_5 : List (MethodName × Nat) := [(⟨"NineDaysModel", "lastOf", "(I)I"⟩, 60), (⟨"NineDaysModel", "findWorths", "(II)V"⟩, 60), (⟨"NineDaysModel", "worthOf", "(III)I"⟩, 60), (⟨"NineDaysModel", "keepAll", "(Z)V"⟩, 60), (⟨"NineDaysModel", "keep", "(IIZ)I"⟩, 60)]
theorem lw_r5 : ∀ q ∈ lw_privs_5, lw_okq q := List.forall_mem_cons.mpr ⟨lw_p64, List.forall_mem_cons.mpr ⟨lw_p65, List.forall_mem_cons.mpr ⟨lw_p66, List.forall_mem_cons.mpr ⟨lw_p67, List.forall_mem_cons.mpr ⟨lw_p68, fun _ h => absurd h List.not_mem_nil⟩⟩⟩⟩⟩
def lw_privs : List (MethodName × Nat) := lw_privs_1 ++ (lw_privs_2 ++ (lw_privs_3 ++ (lw_privs_4 ++ (lw_privs_5))))
def lw_tbl : List Cond := k2_sels lw_privs ++ tables_1
theorem lw_privs_ok : ∀ q ∈ lw_privs, lw_okq q := by
  show ∀ q ∈ lw_privs_1 ++ (lw_privs_2 ++ (lw_privs_3 ++ (lw_privs_4 ++ (lw_privs_5)))), lw_okq q
  exact List.forall_mem_append.mpr ⟨lw_r1, List.forall_mem_append.mpr ⟨lw_r2, List.forall_mem_append.mpr ⟨lw_r3, List.forall_mem_append.mpr ⟨lw_r4, lw_r5⟩⟩⟩⟩
def RX0 : String := "NineDays$Days"
def TX0 : u_T := fun k => match k with
  | 0 => ("NineDays$Days", "land", "LNineDays$Land;", true)
  | 1 => ("NineDays$Days", "hand", "LNineDays$Hand;", true)
  | 2 => ("NineDays$Days", "orders", "LNineDays$Orders;", true)
  | 3 => ("NineDays$Days", "rules", "LNineDays$Rules;", true)
  | 4 => ("NineDays$Days", "loads", "LNineDays$Loads;", true)
  | 5 => ("NineDays$Days", "stores", "[I", true)
  | 6 => ("NineDays$Days", "hunger", "[I", true)
  | 7 => ("NineDays$Days", "lacked", "[I", true)
  | 8 => ("NineDays$Days", "outs", "[I", true)
  | 9 => ("NineDays$Days", "purses", "[I", true)
  | 10 => ("NineDays$Days", "back", "[I", true)
  | 11 => ("NineDays$Days", "funds", "[I", true)
  | 12 => ("NineDays$Days", "states", "[I", true)
  | 13 => ("NineDays$Days", "left", "[I", true)
  | 14 => ("NineDays$Days", "arrival", "[I", true)
  | 15 => ("NineDays$Days", "calledAhead", "[Z", true)
  | _ => ("NineDays$Days", "forces", "[I", true)
def tyX0 : Nat → FieldType := fun k => match k with
  | 0 => .object "NineDays$Land"
  | 1 => .object "NineDays$Hand"
  | 2 => .object "NineDays$Orders"
  | 3 => .object "NineDays$Rules"
  | 4 => .object "NineDays$Loads"
  | 5 => .array .int
  | 6 => .array .int
  | 7 => .array .int
  | 8 => .array .int
  | 9 => .array .int
  | 10 => .array .int
  | 11 => .array .int
  | 12 => .array .int
  | 13 => .array .int
  | 14 => .array .int
  | 15 => .array .boolean
  | _ => .array .int
abbrev wsX00 : List Cond := u_ws RX0 TX0 17
theorem nmX0 : ∀ a, a < 17 → ∀ b, b < 17 → a ≠ b → (TX0 a).2.1 ≠ (TX0 b).2.1 := by decide +kernel
theorem tyX0_ok : ∀ k, k < 17 → parseFieldDescriptor (TX0 k).2.2.1 = some (tyX0 k) := by decide +kernel
abbrev cX0_init : ByteArray := prog_2_method_1_code
def yX0_init : MethodName := ⟨RX0, "<init>", "(LNineDays$Land;LNineDays$Hand;LNineDays$Orders;LNineDays$Rules;LNineDays$Loads;)V"⟩
abbrev cX0_beginAnew : ByteArray := prog_2_method_2_code
def yX0_beginAnew : MethodName := ⟨RX0, "beginAnew", "()V"⟩
abbrev cX0_loadsThatAre : ByteArray := prog_2_method_3_code
def yX0_loadsThatAre : MethodName := ⟨RX0, "loadsThatAre", "(I)I"⟩
abbrev cX0_run : ByteArray := prog_2_method_4_code
def yX0_run : MethodName := ⟨RX0, "run", "(IIZ)I"⟩
abbrev cX0_listenAhead : ByteArray := prog_2_method_5_code
def yX0_listenAhead : MethodName := ⟨RX0, "listenAhead", "(IZ)V"⟩
abbrev cX0_step : ByteArray := prog_2_method_6_code
def yX0_step : MethodName := ⟨RX0, "step", "(IZ)I"⟩
abbrev cX0_arrive : ByteArray := prog_2_method_7_code
def yX0_arrive : MethodName := ⟨RX0, "arrive", "(I)V"⟩
abbrev cX0_callOut : ByteArray := prog_2_method_8_code
def yX0_callOut : MethodName := ⟨RX0, "callOut", "()V"⟩
abbrev cX0_payAll : ByteArray := prog_2_method_9_code
def yX0_payAll : MethodName := ⟨RX0, "payAll", "()V"⟩
abbrev cX0_payDay : ByteArray := prog_2_method_10_code
def yX0_payDay : MethodName := ⟨RX0, "payDay", "(I)V"⟩
abbrev cX0_send : ByteArray := prog_2_method_11_code
def yX0_send : MethodName := ⟨RX0, "send", "(II)V"⟩
abbrev cX0_use : ByteArray := prog_2_method_12_code
def yX0_use : MethodName := ⟨RX0, "use", "(I)I"⟩
def RX1 : String := "NineDays$Game"
def TX1 : u_T := fun k => match k with
  | 0 => ("NineDays$Game", "added", "[I", true)
  | 1 => ("NineDays$Game", "worth", "I", false)
  | 2 => ("NineDays$Game", "best", "I", false)
  | 3 => ("NineDays$Game", "worths", "[I", false)
  | 4 => ("NineDays$Game", "later", "[I", false)
  | _ => ("NineDays$Game", "end", "I", false)
def tyX1 : Nat → FieldType := fun k => match k with
  | 0 => .array .int
  | 1 => .int
  | 2 => .int
  | 3 => .array .int
  | 4 => .array .int
  | _ => .int
abbrev wsX10 : List Cond := u_ws RX1 TX1 6
theorem nmX1 : ∀ a, a < 6 → ∀ b, b < 6 → a ≠ b → (TX1 a).2.1 ≠ (TX1 b).2.1 := by decide +kernel
theorem tyX1_ok : ∀ k, k < 6 → parseFieldDescriptor (TX1 k).2.2.1 = some (tyX1 k) := by decide +kernel
abbrev cX1_init : ByteArray := prog_3_method_1_code
def yX1_init : MethodName := ⟨RX1, "<init>", "()V"⟩
abbrev cX1_rows : ByteArray := prog_3_method_2_code
def yX1_rows : MethodName := ⟨RX1, "rows", "(I)I"⟩
abbrev cX1_score : ByteArray := prog_3_method_3_code
def yX1_score : MethodName := ⟨RX1, "score", "(III)I"⟩
abbrev cX1_solve : ByteArray := prog_3_method_4_code
def yX1_solve : MethodName := ⟨RX1, "solve", "(II)V"⟩
abbrev cX1_solveDay : ByteArray := prog_3_method_5_code
def yX1_solveDay : MethodName := ⟨RX1, "solveDay", "(IIIZ)V"⟩
abbrev cX1_answer : ByteArray := prog_3_method_6_code
def yX1_answer : MethodName := ⟨RX1, "answer", "(IIZ)I"⟩
abbrev cX1_outcome : ByteArray := prog_3_method_7_code
def yX1_outcome : MethodName := ⟨RX1, "outcome", "(IZ)I"⟩
def RX2 : String := "NineDays$Hand"
def TX2 : u_T := fun k => match k with
  | 0 => ("NineDays$Hand", "stores", "[I", true)
  | 1 => ("NineDays$Hand", "needs", "[I", true)
  | 2 => ("NineDays$Hand", "members", "[I", true)
  | 3 => ("NineDays$Hand", "purses", "[I", true)
  | _ => ("NineDays$Hand", "funds", "[I", true)
def tyX2 : Nat → FieldType := fun k => match k with
  | 0 => .array .int
  | 1 => .array .int
  | 2 => .array .int
  | 3 => .array .int
  | _ => .array .int
abbrev wsX20 : List Cond := u_ws RX2 TX2 5
theorem nmX2 : ∀ a, a < 5 → ∀ b, b < 5 → a ≠ b → (TX2 a).2.1 ≠ (TX2 b).2.1 := by decide +kernel
theorem tyX2_ok : ∀ k, k < 5 → parseFieldDescriptor (TX2 k).2.2.1 = some (tyX2 k) := by decide +kernel
abbrev cX2_init : ByteArray := prog_4_method_1_code
def yX2_init : MethodName := ⟨RX2, "<init>", "()V"⟩
def RX3 : String := "NineDays$Land"
def TX3 : u_T := fun k => match k with
  | 0 => ("NineDays$Land", "ways", "[I", true)
  | _ => ("NineDays$Land", "roads", "I", false)
def tyX3 : Nat → FieldType := fun k => match k with
  | 0 => .array .int
  | _ => .int
abbrev wsX30 : List Cond := u_ws RX3 TX3 2
theorem nmX3 : ∀ a, a < 2 → ∀ b, b < 2 → a ≠ b → (TX3 a).2.1 ≠ (TX3 b).2.1 := by decide +kernel
theorem tyX3_ok : ∀ k, k < 2 → parseFieldDescriptor (TX3 k).2.2.1 = some (tyX3 k) := by decide +kernel
abbrev cX3_init : ByteArray := prog_5_method_1_code
def yX3_init : MethodName := ⟨RX3, "<init>", "()V"⟩
abbrev cX3_way : ByteArray := prog_5_method_2_code
def yX3_way : MethodName := ⟨RX3, "way", "(II)I"⟩
abbrev cX3_join : ByteArray := prog_5_method_3_code
def yX3_join : MethodName := ⟨RX3, "join", "(III)V"⟩
abbrev cX3_shorten : ByteArray := prog_5_method_4_code
def yX3_shorten : MethodName := ⟨RX3, "shorten", "(IIIII)V"⟩
def RX4 : String := "NineDays$Leaves"
def TX4 : u_T := fun k => match k with
  | 0 => ("NineDays$Leaves", "speakers", "[I", true)
  | 1 => ("NineDays$Leaves", "others", "[I", true)
  | 2 => ("NineDays$Leaves", "froms", "[I", true)
  | 3 => ("NineDays$Leaves", "tos", "[I", true)
  | 4 => ("NineDays$Leaves", "sures", "[Z", true)
  | _ => ("NineDays$Leaves", "count", "I", false)
def tyX4 : Nat → FieldType := fun k => match k with
  | 0 => .array .int
  | 1 => .array .int
  | 2 => .array .int
  | 3 => .array .int
  | 4 => .array .boolean
  | _ => .int
abbrev wsX40 : List Cond := u_ws RX4 TX4 6
theorem nmX4 : ∀ a, a < 6 → ∀ b, b < 6 → a ≠ b → (TX4 a).2.1 ≠ (TX4 b).2.1 := by decide +kernel
theorem tyX4_ok : ∀ k, k < 6 → parseFieldDescriptor (TX4 k).2.2.1 = some (tyX4 k) := by decide +kernel
abbrev cX4_init : ByteArray := prog_6_method_1_code
def yX4_init : MethodName := ⟨RX4, "<init>", "()V"⟩
abbrev cX4_give : ByteArray := prog_6_method_2_code
def yX4_give : MethodName := ⟨RX4, "give", "(IIIIZ)I"⟩
abbrev cX4_bound : ByteArray := prog_6_method_3_code
def yX4_bound : MethodName := ⟨RX4, "bound", "(IIZ)I"⟩
abbrev cX4_inForce : ByteArray := prog_6_method_4_code
def yX4_inForce : MethodName := ⟨RX4, "inForce", "(II)Z"⟩
def RX5 : String := "NineDays$Loads"
def TX5 : u_T := fun k => match k with
  | 0 => ("NineDays$Loads", "goods", "[I", true)
  | 1 => ("NineDays$Loads", "amounts", "[I", true)
  | 2 => ("NineDays$Loads", "froms", "[I", true)
  | 3 => ("NineDays$Loads", "tos", "[I", true)
  | 4 => ("NineDays$Loads", "hours", "[I", true)
  | 5 => ("NineDays$Loads", "stamps", "[I", true)
  | _ => ("NineDays$Loads", "count", "I", false)
def tyX5 : Nat → FieldType := fun k => match k with
  | 0 => .array .int
  | 1 => .array .int
  | 2 => .array .int
  | 3 => .array .int
  | 4 => .array .int
  | 5 => .array .int
  | _ => .int
abbrev wsX50 : List Cond := u_ws RX5 TX5 7
theorem nmX5 : ∀ a, a < 7 → ∀ b, b < 7 → a ≠ b → (TX5 a).2.1 ≠ (TX5 b).2.1 := by decide +kernel
theorem tyX5_ok : ∀ k, k < 7 → parseFieldDescriptor (TX5 k).2.2.1 = some (tyX5 k) := by decide +kernel
abbrev cX5_init : ByteArray := prog_7_method_1_code
def yX5_init : MethodName := ⟨RX5, "<init>", "()V"⟩
abbrev cX5_add : ByteArray := prog_7_method_2_code
def yX5_add : MethodName := ⟨RX5, "add", "(IIIII)I"⟩
abbrev cX5_missing : ByteArray := prog_7_method_3_code
def yX5_missing : MethodName := ⟨RX5, "missing", "(I[I)I"⟩
abbrev cX5_clashes : ByteArray := prog_7_method_4_code
def yX5_clashes : MethodName := ⟨RX5, "clashes", "(I[I)Z"⟩
def RX6 : String := "NineDays$Orders"
def TX6 : u_T := fun k => match k with
  | 0 => ("NineDays$Orders", "land", "LNineDays$Land;", true)
  | 1 => ("NineDays$Orders", "kinds", "[I", true)
  | 2 => ("NineDays$Orders", "unions", "[I", true)
  | 3 => ("NineDays$Orders", "towns", "[I", true)
  | 4 => ("NineDays$Orders", "hours", "[I", true)
  | 5 => ("NineDays$Orders", "standing", "[I", true)
  | 6 => ("NineDays$Orders", "heard", "[I", true)
  | _ => ("NineDays$Orders", "count", "I", false)
def tyX6 : Nat → FieldType := fun k => match k with
  | 0 => .object "NineDays$Land"
  | 1 => .array .int
  | 2 => .array .int
  | 3 => .array .int
  | 4 => .array .int
  | 5 => .array .int
  | 6 => .array .int
  | _ => .int
abbrev wsX60 : List Cond := u_ws RX6 TX6 8
theorem nmX6 : ∀ a, a < 8 → ∀ b, b < 8 → a ≠ b → (TX6 a).2.1 ≠ (TX6 b).2.1 := by decide +kernel
theorem tyX6_ok : ∀ k, k < 8 → parseFieldDescriptor (TX6 k).2.2.1 = some (tyX6 k) := by decide +kernel
abbrev cX6_init : ByteArray := prog_8_method_1_code
def yX6_init : MethodName := ⟨RX6, "<init>", "(LNineDays$Land;)V"⟩
abbrev cX6_give : ByteArray := prog_8_method_2_code
def yX6_give : MethodName := ⟨RX6, "give", "(IIII)I"⟩
abbrev cX6_comes : ByteArray := prog_8_method_3_code
def yX6_comes : MethodName := ⟨RX6, "comes", "(III)I"⟩
abbrev cX6_lateTowns : ByteArray := prog_8_method_4_code
def yX6_lateTowns : MethodName := ⟨RX6, "lateTowns", "(I)I"⟩
abbrev cX6_overtaken : ByteArray := prog_8_method_5_code
def yX6_overtaken : MethodName := ⟨RX6, "overtaken", "(II)Z"⟩
abbrev cX6_listen : ByteArray := prog_8_method_6_code
def yX6_listen : MethodName := ⟨RX6, "listen", "(IZ)V"⟩
abbrev cX6_spread : ByteArray := prog_8_method_7_code
def yX6_spread : MethodName := ⟨RX6, "spread", "(III)V"⟩
abbrev cX6_firstCallHour : ByteArray := prog_8_method_8_code
def yX6_firstCallHour : MethodName := ⟨RX6, "firstCallHour", "()I"⟩
abbrev cX6_calls : ByteArray := prog_8_method_9_code
def yX6_calls : MethodName := ⟨RX6, "calls", "(I)Z"⟩
def RX7 : String := "NineDays$Reader"
def TX7 : u_T := fun k => match k with
  | 0 => ("NineDays$Reader", "bytes", "[I", true)
  | 1 => ("NineDays$Reader", "kinds", "[I", true)
  | 2 => ("NineDays$Reader", "values", "[I", true)
  | 3 => ("NineDays$Reader", "length", "I", false)
  | 4 => ("NineDays$Reader", "clauses", "I", false)
  | 5 => ("NineDays$Reader", "fault", "I", false)
  | 6 => ("NineDays$Reader", "faultAt", "I", false)
  | 7 => ("NineDays$Reader", "at", "I", false)
  | _ => ("NineDays$Reader", "wordAt", "I", false)
def tyX7 : Nat → FieldType := fun k => match k with
  | 0 => .array .int
  | 1 => .array .int
  | 2 => .array .int
  | 3 => .int
  | 4 => .int
  | 5 => .int
  | 6 => .int
  | 7 => .int
  | _ => .int
abbrev wsX70 : List Cond := u_ws RX7 TX7 9
theorem nmX7 : ∀ a, a < 9 → ∀ b, b < 9 → a ≠ b → (TX7 a).2.1 ≠ (TX7 b).2.1 := by decide +kernel
theorem tyX7_ok : ∀ k, k < 9 → parseFieldDescriptor (TX7 k).2.2.1 = some (tyX7 k) := by decide +kernel
abbrev cX7_init : ByteArray := prog_9_method_1_code
def yX7_init : MethodName := ⟨RX7, "<init>", "()V"⟩
abbrev cX7_append : ByteArray := prog_9_method_2_code
def yX7_append : MethodName := ⟨RX7, "append", "(IJ)V"⟩
abbrev cX7_read : ByteArray := prog_9_method_3_code
def yX7_read : MethodName := ⟨RX7, "read", "(I)V"⟩
abbrev cX7_more : ByteArray := prog_9_method_4_code
def yX7_more : MethodName := ⟨RX7, "more", "()Z"⟩
abbrev cX7_readClause : ByteArray := prog_9_method_5_code
def yX7_readClause : MethodName := ⟨RX7, "readClause", "(I)V"⟩
abbrev cX7_readNeed : ByteArray := prog_9_method_6_code
def yX7_readNeed : MethodName := ⟨RX7, "readNeed", "()V"⟩
abbrev cX7_readStamp : ByteArray := prog_9_method_7_code
def yX7_readStamp : MethodName := ⟨RX7, "readStamp", "(I)I"⟩
abbrev cX7_readNumber : ByteArray := prog_9_method_8_code
def yX7_readNumber : MethodName := ⟨RX7, "readNumber", "(II)V"⟩
abbrev cX7_refuseNinth : ByteArray := prog_9_method_9_code
def yX7_refuseNinth : MethodName := ⟨RX7, "refuseNinth", "()V"⟩
abbrev cX7_close : ByteArray := prog_9_method_10_code
def yX7_close : MethodName := ⟨RX7, "close", "(II)V"⟩
abbrev cX7_blame : ByteArray := prog_9_method_11_code
def yX7_blame : MethodName := ⟨RX7, "blame", "(II)V"⟩
abbrev cX7_skipBlanks : ByteArray := prog_9_method_12_code
def yX7_skipBlanks : MethodName := ⟨RX7, "skipBlanks", "()V"⟩
abbrev cX7_takes : ByteArray := prog_9_method_13_code
def yX7_takes : MethodName := ⟨RX7, "takes", "(C)Z"⟩
abbrev cX7_takeWord : ByteArray := prog_9_method_14_code
def yX7_takeWord : MethodName := ⟨RX7, "takeWord", "()V"⟩
abbrev cX7_spells : ByteArray := prog_9_method_15_code
def yX7_spells : MethodName := ⟨RX7, "spells", "(Ljava/lang/String;)Z"⟩
abbrev cX7_good : ByteArray := prog_9_method_16_code
def yX7_good : MethodName := ⟨RX7, "good", "()I"⟩
abbrev cX7_committee : ByteArray := prog_9_method_17_code
def yX7_committee : MethodName := ⟨RX7, "committee", "()I"⟩
def RX8 : String := "NineDays$Rules"
def TX8 : u_T := fun k => match k with
  | 0 => ("NineDays$Rules", "hours", "[I", true)
  | 1 => ("NineDays$Rules", "sizes", "[I", true)
  | 2 => ("NineDays$Rules", "byHours", "[I", true)
  | 3 => ("NineDays$Rules", "kinds", "[I", true)
  | 4 => ("NineDays$Rules", "values", "[I", true)
  | _ => ("NineDays$Rules", "count", "I", false)
def tyX8 : Nat → FieldType := fun k => match k with
  | 0 => .array .int
  | 1 => .array .int
  | 2 => .array .int
  | 3 => .array .int
  | 4 => .array .int
  | _ => .int
abbrev wsX80 : List Cond := u_ws RX8 TX8 6
theorem nmX8 : ∀ a, a < 6 → ∀ b, b < 6 → a ≠ b → (TX8 a).2.1 ≠ (TX8 b).2.1 := by decide +kernel
theorem tyX8_ok : ∀ k, k < 6 → parseFieldDescriptor (TX8 k).2.2.1 = some (tyX8 k) := by decide +kernel
abbrev cX8_init : ByteArray := prog_10_method_1_code
def yX8_init : MethodName := ⟨RX8, "<init>", "()V"⟩
abbrev cX8_enact : ByteArray := prog_10_method_2_code
def yX8_enact : MethodName := ⟨RX8, "enact", "(ILNineDays$Reader;)I"⟩
abbrev cX8_holdIn : ByteArray := prog_10_method_3_code
def yX8_holdIn : MethodName := ⟨RX8, "holdIn", "(I[I)V"⟩
abbrev cX8_countingIn : ByteArray := prog_10_method_4_code
def yX8_countingIn : MethodName := ⟨RX8, "countingIn", "(I)I"⟩
abbrev cX8_struckBy : ByteArray := prog_10_method_5_code
def yX8_struckBy : MethodName := ⟨RX8, "struckBy", "(I)I"⟩
abbrev cX8_apply : ByteArray := prog_10_method_6_code
def yX8_apply : MethodName := ⟨RX8, "apply", "(I[I)V"⟩
def RX9 : String := "NineDays"
def TX9 : u_T := fun k => match k with
  | 0 => ("NineDays", "land", "LNineDays$Land;", true)
  | 1 => ("NineDays", "hand", "LNineDays$Hand;", true)
  | 2 => ("NineDays", "orders", "LNineDays$Orders;", true)
  | 3 => ("NineDays", "rules", "LNineDays$Rules;", true)
  | 4 => ("NineDays", "reader", "LNineDays$Reader;", true)
  | 5 => ("NineDays", "loads", "LNineDays$Loads;", true)
  | 6 => ("NineDays", "days", "LNineDays$Days;", true)
  | 7 => ("NineDays", "again", "LNineDays$Days;", true)
  | 8 => ("NineDays", "leaves", "LNineDays$Leaves;", true)
  | 9 => ("NineDays", "play", "LNineDays$Game;", true)
  | 10 => ("NineDays", "forces", "[I", true)
  | _ => ("NineDays", "now", "I", false)
def tyX9 : Nat → FieldType := fun k => match k with
  | 0 => .object "NineDays$Land"
  | 1 => .object "NineDays$Hand"
  | 2 => .object "NineDays$Orders"
  | 3 => .object "NineDays$Rules"
  | 4 => .object "NineDays$Reader"
  | 5 => .object "NineDays$Loads"
  | 6 => .object "NineDays$Days"
  | 7 => .object "NineDays$Days"
  | 8 => .object "NineDays$Leaves"
  | 9 => .object "NineDays$Game"
  | 10 => .array .int
  | _ => .int
abbrev wsX90 : List Cond := u_ws RX9 TX9 12
theorem nmX9 : ∀ a, a < 12 → ∀ b, b < 12 → a ≠ b → (TX9 a).2.1 ≠ (TX9 b).2.1 := by decide +kernel
theorem tyX9_ok : ∀ k, k < 12 → parseFieldDescriptor (TX9 k).2.2.1 = some (tyX9 k) := by decide +kernel
abbrev cX9_init : ByteArray := prog_1_method_1_code
def yX9_init : MethodName := ⟨RX9, "<init>", "()V"⟩
abbrev cX9_road : ByteArray := prog_1_method_2_code
def yX9_road : MethodName := ⟨RX9, "road", "(III)I"⟩
abbrev cX9_away : ByteArray := prog_1_method_3_code
def yX9_away : MethodName := ⟨RX9, "away", "(II)I"⟩
abbrev cX9_store : ByteArray := prog_1_method_4_code
def yX9_store : MethodName := ⟨RX9, "store", "(III)I"⟩
abbrev cX9_need : ByteArray := prog_1_method_5_code
def yX9_need : MethodName := ⟨RX9, "need", "(III)I"⟩
abbrev cX9_members : ByteArray := prog_1_method_6_code
def yX9_members : MethodName := ⟨RX9, "members", "(III)I"⟩
abbrev cX9_purse : ByteArray := prog_1_method_7_code
def yX9_purse : MethodName := ⟨RX9, "purse", "(II)I"⟩
abbrev cX9_fund : ByteArray := prog_1_method_8_code
def yX9_fund : MethodName := ⟨RX9, "fund", "(II)I"⟩
abbrev cX9_out : ByteArray := prog_1_method_9_code
def yX9_out : MethodName := ⟨RX9, "out", "(III)I"⟩
abbrev cX9_town : ByteArray := prog_1_method_10_code
def yX9_town : MethodName := ⟨RX9, "town", "(II)I"⟩
abbrev cX9_count : ByteArray := prog_1_method_11_code
def yX9_count : MethodName := ⟨RX9, "count", "(I)I"⟩
abbrev cX9_order : ByteArray := prog_1_method_12_code
def yX9_order : MethodName := ⟨RX9, "order", "(IIII)I"⟩
abbrev cX9_reach : ByteArray := prog_1_method_13_code
def yX9_reach : MethodName := ⟨RX9, "reach", "(II)I"⟩
abbrev cX9_late : ByteArray := prog_1_method_14_code
def yX9_late : MethodName := ⟨RX9, "late", "(I)I"⟩
abbrev cX9_called : ByteArray := prog_1_method_15_code
def yX9_called : MethodName := ⟨RX9, "called", "(III)I"⟩
abbrev cX9_holds : ByteArray := prog_1_method_16_code
def yX9_holds : MethodName := ⟨RX9, "holds", "(IIII)I"⟩
abbrev cX9_feed : ByteArray := prog_1_method_17_code
def yX9_feed : MethodName := ⟨RX9, "feed", "(IJ)I"⟩
abbrev cX9_rule : ByteArray := prog_1_method_18_code
def yX9_rule : MethodName := ⟨RX9, "rule", "(I)I"⟩
abbrev cX9_fault : ByteArray := prog_1_method_19_code
def yX9_fault : MethodName := ⟨RX9, "fault", "()I"⟩
abbrev cX9_force : ByteArray := prog_1_method_20_code
def yX9_force : MethodName := ⟨RX9, "force", "(II)I"⟩
abbrev cX9_load : ByteArray := prog_1_method_21_code
def yX9_load : MethodName := ⟨RX9, "load", "(IIIII)I"⟩
abbrev cX9_stamp : ByteArray := prog_1_method_22_code
def yX9_stamp : MethodName := ⟨RX9, "stamp", "(II)I"⟩
abbrev cX9_told : ByteArray := prog_1_method_23_code
def yX9_told : MethodName := ⟨RX9, "told", "(II)I"⟩
abbrev cX9_clash : ByteArray := prog_1_method_24_code
def yX9_clash : MethodName := ⟨RX9, "clash", "(I)I"⟩
abbrev cX9_words : ByteArray := prog_1_method_25_code
def yX9_words : MethodName := ⟨RX9, "words", "()I"⟩
abbrev cX9_go : ByteArray := prog_1_method_26_code
def yX9_go : MethodName := ⟨RX9, "go", "(I)I"⟩
abbrev cX9_leave : ByteArray := prog_1_method_27_code
def yX9_leave : MethodName := ⟨RX9, "leave", "(IIIIZ)I"⟩
abbrev cX9_binds : ByteArray := prog_1_method_28_code
def yX9_binds : MethodName := ⟨RX9, "binds", "(III)I"⟩
abbrev cX9_last : ByteArray := prog_1_method_29_code
def yX9_last : MethodName := ⟨RX9, "last", "(I)I"⟩
abbrev cX9_lending : ByteArray := prog_1_method_30_code
def yX9_lending : MethodName := ⟨RX9, "lending", "(I)I"⟩
abbrev cX9_table : ByteArray := prog_1_method_31_code
def yX9_table : MethodName := ⟨RX9, "table", "(III)I"⟩
abbrev cX9_game : ByteArray := prog_1_method_32_code
def yX9_game : MethodName := ⟨RX9, "game", "(III)I"⟩
abbrev cX9_judge : ByteArray := prog_1_method_33_code
def yX9_judge : MethodName := ⟨RX9, "judge", "(III)I"⟩
abbrev cX9_beside : ByteArray := prog_1_method_34_code
def yX9_beside : MethodName := ⟨RX9, "beside", "(Z)I"⟩
abbrev cX9_daysPaid : ByteArray := prog_1_method_35_code
def yX9_daysPaid : MethodName := ⟨RX9, "daysPaid", "(I)I"⟩
abbrev cX9_beyond : ByteArray := prog_1_method_36_code
def yX9_beyond : MethodName := ⟨RX9, "beyond", "(III)Z"⟩
abbrev cX9_noNumber : ByteArray := prog_1_method_37_code
def yX9_noNumber : MethodName := ⟨RX9, "noNumber", "(II)Z"⟩
abbrev cX9_noTown : ByteArray := prog_1_method_38_code
def yX9_noTown : MethodName := ⟨RX9, "noTown", "(I)Z"⟩
abbrev cX9_noUnion : ByteArray := prog_1_method_39_code
def yX9_noUnion : MethodName := ⟨RX9, "noUnion", "(I)Z"⟩
abbrev cX9_noGood : ByteArray := prog_1_method_40_code
def yX9_noGood : MethodName := ⟨RX9, "noGood", "(I)Z"⟩
abbrev cX9_has : ByteArray := prog_1_method_41_code
def yX9_has : MethodName := ⟨RX9, "has", "(II)Z"⟩
abbrev cX9_sum : ByteArray := prog_1_method_42_code
def yX9_sum : MethodName := ⟨RX9, "sum", "([I)I"⟩
def RX10 : String := "NineDaysModel"
def TX10 : u_T := fun k => match k with
  | 0 => ("NineDaysModel", "now", "I", false)
  | 1 => ("NineDaysModel", "roads", "I", false)
  | 2 => ("NineDaysModel", "way", "[I", true)
  | 3 => ("NineDaysModel", "store", "[I", true)
  | 4 => ("NineDaysModel", "handStore", "[I", true)
  | 5 => ("NineDaysModel", "needOf", "[I", true)
  | 6 => ("NineDaysModel", "hunger", "[I", true)
  | 7 => ("NineDaysModel", "firstLack", "[I", true)
  | 8 => ("NineDaysModel", "members", "[I", true)
  | 9 => ("NineDaysModel", "out", "[I", true)
  | 10 => ("NineDaysModel", "purse", "[I", true)
  | 11 => ("NineDaysModel", "back", "[I", true)
  | 12 => ("NineDaysModel", "fund", "[I", true)
  | 13 => ("NineDaysModel", "handFund", "[I", true)
  | 14 => ("NineDaysModel", "handPurse", "[I", true)
  | 15 => ("NineDaysModel", "orders", "I", false)
  | 16 => ("NineDaysModel", "orderKind", "[I", true)
  | 17 => ("NineDaysModel", "orderUnion", "[I", true)
  | 18 => ("NineDaysModel", "orderTown", "[I", true)
  | 19 => ("NineDaysModel", "orderHour", "[I", true)
  | 20 => ("NineDaysModel", "callsAt", "I", false)
  | 21 => ("NineDaysModel", "rules", "I", false)
  | 22 => ("NineDaysModel", "inForce", "[I", true)
  | 23 => ("NineDaysModel", "clauses", "[I", true)
  | 24 => ("NineDaysModel", "clauseKind", "[I", true)
  | 25 => ("NineDaysModel", "first", "[I", true)
  | 26 => ("NineDaysModel", "second", "[I", true)
  | 27 => ("NineDaysModel", "text", "[I", true)
  | 28 => ("NineDaysModel", "textSize", "I", false)
  | 29 => ("NineDaysModel", "at", "I", false)
  | 30 => ("NineDaysModel", "faultOf", "I", false)
  | 31 => ("NineDaysModel", "place", "I", false)
  | 32 => ("NineDaysModel", "from", "I", false)
  | 33 => ("NineDaysModel", "letters", "I", false)
  | 34 => ("NineDaysModel", "isOn", "[Z", true)
  | 35 => ("NineDaysModel", "row", "[I", true)
  | 36 => ("NineDaysModel", "stampsFor", "[I", true)
  | 37 => ("NineDaysModel", "pay", "I", false)
  | 38 => ("NineDaysModel", "cost", "I", false)
  | 39 => ("NineDaysModel", "fear", "I", false)
  | 40 => ("NineDaysModel", "slow", "I", false)
  | 41 => ("NineDaysModel", "loads", "I", false)
  | 42 => ("NineDaysModel", "good", "[I", true)
  | 43 => ("NineDaysModel", "size", "[I", true)
  | 44 => ("NineDaysModel", "loadFrom", "[I", true)
  | 45 => ("NineDaysModel", "loadTo", "[I", true)
  | 46 => ("NineDaysModel", "loadHour", "[I", true)
  | 47 => ("NineDaysModel", "stamps", "[I", true)
  | 48 => ("NineDaysModel", "state", "[I", true)
  | 49 => ("NineDaysModel", "left", "[I", true)
  | 50 => ("NineDaysModel", "comes", "[I", true)
  | 51 => ("NineDaysModel", "leaves", "I", false)
  | 52 => ("NineDaysModel", "leaveA", "[I", true)
  | 53 => ("NineDaysModel", "leaveB", "[I", true)
  | 54 => ("NineDaysModel", "leaveFrom", "[I", true)
  | 55 => ("NineDaysModel", "leaveTo", "[I", true)
  | 56 => ("NineDaysModel", "isSure", "[Z", true)
  | 57 => ("NineDaysModel", "table", "[I", true)
  | 58 => ("NineDaysModel", "worth", "[I", true)
  | _ => ("NineDaysModel", "aside", "[I", true)
def tyX10 : Nat → FieldType := fun k => match k with
  | 0 => .int
  | 1 => .int
  | 2 => .array .int
  | 3 => .array .int
  | 4 => .array .int
  | 5 => .array .int
  | 6 => .array .int
  | 7 => .array .int
  | 8 => .array .int
  | 9 => .array .int
  | 10 => .array .int
  | 11 => .array .int
  | 12 => .array .int
  | 13 => .array .int
  | 14 => .array .int
  | 15 => .int
  | 16 => .array .int
  | 17 => .array .int
  | 18 => .array .int
  | 19 => .array .int
  | 20 => .int
  | 21 => .int
  | 22 => .array .int
  | 23 => .array .int
  | 24 => .array .int
  | 25 => .array .int
  | 26 => .array .int
  | 27 => .array .int
  | 28 => .int
  | 29 => .int
  | 30 => .int
  | 31 => .int
  | 32 => .int
  | 33 => .int
  | 34 => .array .boolean
  | 35 => .array .int
  | 36 => .array .int
  | 37 => .int
  | 38 => .int
  | 39 => .int
  | 40 => .int
  | 41 => .int
  | 42 => .array .int
  | 43 => .array .int
  | 44 => .array .int
  | 45 => .array .int
  | 46 => .array .int
  | 47 => .array .int
  | 48 => .array .int
  | 49 => .array .int
  | 50 => .array .int
  | 51 => .int
  | 52 => .array .int
  | 53 => .array .int
  | 54 => .array .int
  | 55 => .array .int
  | 56 => .array .boolean
  | 57 => .array .int
  | 58 => .array .int
  | _ => .array .int
abbrev wsX100 : List Cond := u_ws RX10 TX10 60
theorem nmX10 : ∀ a, a < 60 → ∀ b, b < 60 → a ≠ b → (TX10 a).2.1 ≠ (TX10 b).2.1 := by decide +kernel
theorem tyX10_ok : ∀ k, k < 60 → parseFieldDescriptor (TX10 k).2.2.1 = some (tyX10 k) := by decide +kernel
abbrev cX10_init : ByteArray := prog_12_method_1_code
def yX10_init : MethodName := ⟨RX10, "<init>", "()V"⟩
abbrev cX10_in : ByteArray := prog_12_method_3_code
def yX10_in : MethodName := ⟨RX10, "in", "(JJJ)Z"⟩
abbrev cX10_one : ByteArray := prog_12_method_4_code
def yX10_one : MethodName := ⟨RX10, "one", "(Z)I"⟩
abbrev cX10_isTown : ByteArray := prog_12_method_5_code
def yX10_isTown : MethodName := ⟨RX10, "isTown", "(I)Z"⟩
abbrev cX10_isUnion : ByteArray := prog_12_method_6_code
def yX10_isUnion : MethodName := ⟨RX10, "isUnion", "(I)Z"⟩
abbrev cX10_isHour : ByteArray := prog_12_method_7_code
def yX10_isHour : MethodName := ⟨RX10, "isHour", "(I)Z"⟩
abbrev cX10_least : ByteArray := prog_12_method_8_code
def yX10_least : MethodName := ⟨RX10, "least", "(II)I"⟩
abbrev cX10_road : ByteArray := prog_12_method_9_code
def yX10_road : MethodName := ⟨RX10, "road", "(III)I"⟩
abbrev cX10_awayOf : ByteArray := prog_12_method_10_code
def yX10_awayOf : MethodName := ⟨RX10, "awayOf", "(II)I"⟩
abbrev cX10_away : ByteArray := prog_12_method_11_code
def yX10_away : MethodName := ⟨RX10, "away", "(II)I"⟩
abbrev cX10_isGood : ByteArray := prog_12_method_12_code
def yX10_isGood : MethodName := ⟨RX10, "isGood", "(I)Z"⟩
abbrev cX10_store : ByteArray := prog_12_method_13_code
def yX10_store : MethodName := ⟨RX10, "store", "(III)I"⟩
abbrev cX10_need : ByteArray := prog_12_method_14_code
def yX10_need : MethodName := ⟨RX10, "need", "(III)I"⟩
abbrev cX10_members : ByteArray := prog_12_method_15_code
def yX10_members : MethodName := ⟨RX10, "members", "(III)I"⟩
abbrev cX10_purse : ByteArray := prog_12_method_16_code
def yX10_purse : MethodName := ⟨RX10, "purse", "(II)I"⟩
abbrev cX10_fund : ByteArray := prog_12_method_17_code
def yX10_fund : MethodName := ⟨RX10, "fund", "(II)I"⟩
abbrev cX10_out : ByteArray := prog_12_method_18_code
def yX10_out : MethodName := ⟨RX10, "out", "(III)I"⟩
abbrev cX10_town : ByteArray := prog_12_method_19_code
def yX10_town : MethodName := ⟨RX10, "town", "(II)I"⟩
abbrev cX10_noOrder : ByteArray := prog_12_method_20_code
def yX10_noOrder : MethodName := ⟨RX10, "noOrder", "(I)Z"⟩
abbrev cX10_order : ByteArray := prog_12_method_21_code
def yX10_order : MethodName := ⟨RX10, "order", "(IIII)I"⟩
abbrev cX10_hourOf : ByteArray := prog_12_method_22_code
def yX10_hourOf : MethodName := ⟨RX10, "hourOf", "(I)I"⟩
abbrev cX10_reachOf : ByteArray := prog_12_method_23_code
def yX10_reachOf : MethodName := ⟨RX10, "reachOf", "(II)I"⟩
abbrev cX10_reach : ByteArray := prog_12_method_24_code
def yX10_reach : MethodName := ⟨RX10, "reach", "(II)I"⟩
abbrev cX10_late : ByteArray := prog_12_method_25_code
def yX10_late : MethodName := ⟨RX10, "late", "(I)I"⟩
abbrev cX10_holdsOf : ByteArray := prog_12_method_26_code
def yX10_holdsOf : MethodName := ⟨RX10, "holdsOf", "(IIII)I"⟩
abbrev cX10_isCalled : ByteArray := prog_12_method_27_code
def yX10_isCalled : MethodName := ⟨RX10, "isCalled", "(III)Z"⟩
abbrev cX10_called : ByteArray := prog_12_method_28_code
def yX10_called : MethodName := ⟨RX10, "called", "(III)I"⟩
abbrev cX10_holds : ByteArray := prog_12_method_29_code
def yX10_holds : MethodName := ⟨RX10, "holds", "(IIII)I"⟩
abbrev cX10_feed : ByteArray := prog_12_method_30_code
def yX10_feed : MethodName := ⟨RX10, "feed", "(IJ)I"⟩
abbrev cX10_here : ByteArray := prog_12_method_31_code
def yX10_here : MethodName := ⟨RX10, "here", "()I"⟩
abbrev cX10_want : ByteArray := prog_12_method_32_code
def yX10_want : MethodName := ⟨RX10, "want", "(ZII)Z"⟩
abbrev cX10_takeWord : ByteArray := prog_12_method_33_code
def yX10_takeWord : MethodName := ⟨RX10, "takeWord", "()V"⟩
abbrev cX10_isWord : ByteArray := prog_12_method_34_code
def yX10_isWord : MethodName := ⟨RX10, "isWord", "(IIIIIII)Z"⟩
abbrev cX10_takeNumber : ByteArray := prog_12_method_35_code
def yX10_takeNumber : MethodName := ⟨RX10, "takeNumber", "(II)I"⟩
abbrev cX10_clauseOf : ByteArray := prog_12_method_36_code
def yX10_clauseOf : MethodName := ⟨RX10, "clauseOf", "()I"⟩
abbrev cX10_goodOf : ByteArray := prog_12_method_37_code
def yX10_goodOf : MethodName := ⟨RX10, "goodOf", "()I"⟩
abbrev cX10_stampOf : ByteArray := prog_12_method_38_code
def yX10_stampOf : MethodName := ⟨RX10, "stampOf", "()I"⟩
abbrev cX10_readNeed : ByteArray := prog_12_method_39_code
def yX10_readNeed : MethodName := ⟨RX10, "readNeed", "(I)V"⟩
abbrev cX10_readClause : ByteArray := prog_12_method_40_code
def yX10_readClause : MethodName := ⟨RX10, "readClause", "(II)V"⟩
abbrev cX10_rule : ByteArray := prog_12_method_41_code
def yX10_rule : MethodName := ⟨RX10, "rule", "(I)I"⟩
abbrev cX10_fault : ByteArray := prog_12_method_42_code
def yX10_fault : MethodName := ⟨RX10, "fault", "()I"⟩
abbrev cX10_findRules : ByteArray := prog_12_method_43_code
def yX10_findRules : MethodName := ⟨RX10, "findRules", "(I)V"⟩
abbrev cX10_take : ByteArray := prog_12_method_44_code
def yX10_take : MethodName := ⟨RX10, "take", "(I)V"⟩
abbrev cX10_force : ByteArray := prog_12_method_45_code
def yX10_force : MethodName := ⟨RX10, "force", "(II)I"⟩
abbrev cX10_noLoad : ByteArray := prog_12_method_46_code
def yX10_noLoad : MethodName := ⟨RX10, "noLoad", "(I)Z"⟩
abbrev cX10_begin : ByteArray := prog_12_method_47_code
def yX10_begin : MethodName := ⟨RX10, "begin", "(I)V"⟩
abbrev cX10_load : ByteArray := prog_12_method_48_code
def yX10_load : MethodName := ⟨RX10, "load", "(IIIII)I"⟩
abbrev cX10_stamp : ByteArray := prog_12_method_49_code
def yX10_stamp : MethodName := ⟨RX10, "stamp", "(II)I"⟩
abbrev cX10_told : ByteArray := prog_12_method_50_code
def yX10_told : MethodName := ⟨RX10, "told", "(II)I"⟩
abbrev cX10_clash : ByteArray := prog_12_method_51_code
def yX10_clash : MethodName := ⟨RX10, "clash", "(I)I"⟩
abbrev cX10_words : ByteArray := prog_12_method_52_code
def yX10_words : MethodName := ⟨RX10, "words", "()I"⟩
abbrev cX10_arrive : ByteArray := prog_12_method_53_code
def yX10_arrive : MethodName := ⟨RX10, "arrive", "(I)V"⟩
abbrev cX10_callOut : ByteArray := prog_12_method_54_code
def yX10_callOut : MethodName := ⟨RX10, "callOut", "(I)V"⟩
abbrev cX10_payOut : ByteArray := prog_12_method_55_code
def yX10_payOut : MethodName := ⟨RX10, "payOut", "(II)V"⟩
abbrev cX10_sendOff : ByteArray := prog_12_method_56_code
def yX10_sendOff : MethodName := ⟨RX10, "sendOff", "(I)V"⟩
abbrev cX10_useUp : ByteArray := prog_12_method_57_code
def yX10_useUp : MethodName := ⟨RX10, "useUp", "(I)I"⟩
abbrev cX10_doHour : ByteArray := prog_12_method_58_code
def yX10_doHour : MethodName := ⟨RX10, "doHour", "(I)I"⟩
abbrev cX10_go : ByteArray := prog_12_method_59_code
def yX10_go : MethodName := ⟨RX10, "go", "(I)I"⟩
abbrev cX10_loadsIn : ByteArray := prog_12_method_60_code
def yX10_loadsIn : MethodName := ⟨RX10, "loadsIn", "(I)I"⟩
abbrev cX10_outAll : ByteArray := prog_12_method_61_code
def yX10_outAll : MethodName := ⟨RX10, "outAll", "(Z)I"⟩
abbrev cX10_hungerAll : ByteArray := prog_12_method_62_code
def yX10_hungerAll : MethodName := ⟨RX10, "hungerAll", "()I"⟩
abbrev cX10_count : ByteArray := prog_12_method_63_code
def yX10_count : MethodName := ⟨RX10, "count", "(I)I"⟩
abbrev cX10_leave : ByteArray := prog_12_method_64_code
def yX10_leave : MethodName := ⟨RX10, "leave", "(IIIIZ)I"⟩
abbrev cX10_ledTo : ByteArray := prog_12_method_65_code
def yX10_ledTo : MethodName := ⟨RX10, "ledTo", "(IIZ)I"⟩
abbrev cX10_binds : ByteArray := prog_12_method_66_code
def yX10_binds : MethodName := ⟨RX10, "binds", "(III)I"⟩
abbrev cX10_lastOf : ByteArray := prog_12_method_67_code
def yX10_lastOf : MethodName := ⟨RX10, "lastOf", "(I)I"⟩
abbrev cX10_last : ByteArray := prog_12_method_68_code
def yX10_last : MethodName := ⟨RX10, "last", "(I)I"⟩
abbrev cX10_lending : ByteArray := prog_12_method_69_code
def yX10_lending : MethodName := ⟨RX10, "lending", "(I)I"⟩
abbrev cX10_table : ByteArray := prog_12_method_70_code
def yX10_table : MethodName := ⟨RX10, "table", "(III)I"⟩
abbrev cX10_isGame : ByteArray := prog_12_method_71_code
def yX10_isGame : MethodName := ⟨RX10, "isGame", "(II)Z"⟩
abbrev cX10_worthOf : ByteArray := prog_12_method_72_code
def yX10_worthOf : MethodName := ⟨RX10, "worthOf", "(III)I"⟩
abbrev cX10_findWorths : ByteArray := prog_12_method_73_code
def yX10_findWorths : MethodName := ⟨RX10, "findWorths", "(II)V"⟩
abbrev cX10_game : ByteArray := prog_12_method_74_code
def yX10_game : MethodName := ⟨RX10, "game", "(III)I"⟩
abbrev cX10_judge : ByteArray := prog_12_method_75_code
def yX10_judge : MethodName := ⟨RX10, "judge", "(III)I"⟩
abbrev cX10_keep : ByteArray := prog_12_method_76_code
def yX10_keep : MethodName := ⟨RX10, "keep", "(IIZ)I"⟩
abbrev cX10_keepAll : ByteArray := prog_12_method_77_code
def yX10_keepAll : MethodName := ⟨RX10, "keepAll", "(Z)V"⟩
abbrev cX10_beside : ByteArray := prog_12_method_78_code
def yX10_beside : MethodName := ⟨RX10, "beside", "(Z)I"⟩
def RJ9 : String := "java/lang/Math"
def TJ9 : u_T := fun k => match k with
  | _ => ("", "", "", false)
def tyJ9 : Nat → FieldType := fun k => match k with
  | _ => .int
abbrev wsJ90 : List Cond := u_ws RJ9 TJ9 0
theorem nmJ9 : ∀ a, a < 0 → ∀ b, b < 0 → a ≠ b → (TJ9 a).2.1 ≠ (TJ9 b).2.1 := by decide +kernel
theorem tyJ9_ok : ∀ k, k < 0 → parseFieldDescriptor (TJ9 k).2.2.1 = some (tyJ9 k) := by decide +kernel
abbrev cJ9_abs_0f7a4 : ByteArray := prog_13_method_59_code
def yJ9_abs_0f7a4 : MethodName := ⟨RJ9, "abs", "(I)I"⟩
abbrev cJ9_max_7cf53 : ByteArray := prog_13_method_65_code
def yJ9_max_7cf53 : MethodName := ⟨RJ9, "max", "(II)I"⟩
abbrev cJ9_min_7cf53 : ByteArray := prog_13_method_69_code
def yJ9_min_7cf53 : MethodName := ⟨RJ9, "min", "(II)I"⟩
def RJ0 : String := "java/lang/String"
def TJ0 : u_T := fun k => match k with
  | _ => ("", "", "", false)
def tyJ0 : Nat → FieldType := fun k => match k with
  | _ => .int
abbrev wsJ00 : List Cond := u_ws RJ0 TJ0 0
theorem nmJ0 : ∀ a, a < 0 → ∀ b, b < 0 → a ≠ b → (TJ0 a).2.1 ≠ (TJ0 b).2.1 := by decide +kernel
theorem tyJ0_ok : ∀ k, k < 0 → parseFieldDescriptor (TJ0 k).2.2.1 = some (tyJ0 k) := by decide +kernel
abbrev cJ0_length_8abf5 : ByteArray := prog_14_method_54_code
def yJ0_length_8abf5 : MethodName := ⟨RJ0, "length", "()I"⟩
abbrev cJ0_charAt_5068e : ByteArray := prog_14_method_56_code
def yJ0_charAt_5068e : MethodName := ⟨RJ0, "charAt", "(I)C"⟩
abbrev cJ0_coder_7d493 : ByteArray := prog_14_method_152_code
def yJ0_coder_7d493 : MethodName := ⟨RJ0, "coder", "()B"⟩
abbrev cJ0_isLatin1_aae02 : ByteArray := prog_14_method_154_code
def yJ0_isLatin1_aae02 : MethodName := ⟨RJ0, "isLatin1", "()Z"⟩
abbrev cJ0_checkIndex_df160 : ByteArray := prog_14_method_155_code
def yJ0_checkIndex_df160 : MethodName := ⟨RJ0, "checkIndex", "(II)V"⟩
def RJ1 : String := "java/lang/StringLatin1"
def TJ1 : u_T := fun k => match k with
  | _ => ("", "", "", false)
def tyJ1 : Nat → FieldType := fun k => match k with
  | _ => .int
abbrev wsJ10 : List Cond := u_ws RJ1 TJ1 0
theorem nmJ1 : ∀ a, a < 0 → ∀ b, b < 0 → a ≠ b → (TJ1 a).2.1 ≠ (TJ1 b).2.1 := by decide +kernel
theorem tyJ1_ok : ∀ k, k < 0 → parseFieldDescriptor (TJ1 k).2.2.1 = some (tyJ1 k) := by decide +kernel
abbrev cJ1_charAt_3b067 : ByteArray := prog_15_method_2_code
def yJ1_charAt_3b067 : MethodName := ⟨RJ1, "charAt", "([BI)C"⟩
def RJ2 : String := "java/lang/StringUTF16"
def TJ2 : u_T := fun k => match k with
  | _ => ("", "", "", false)
def tyJ2 : Nat → FieldType := fun k => match k with
  | _ => .int
abbrev wsJ20 : List Cond := u_ws RJ2 TJ2 0
theorem nmJ2 : ∀ a, a < 0 → ∀ b, b < 0 → a ≠ b → (TJ2 a).2.1 ≠ (TJ2 b).2.1 := by decide +kernel
theorem tyJ2_ok : ∀ k, k < 0 → parseFieldDescriptor (TJ2 k).2.2.1 = some (tyJ2 k) := by decide +kernel
abbrev cJ2_getChar_3b067 : ByteArray := prog_16_method_5_code
def yJ2_getChar_3b067 : MethodName := ⟨RJ2, "getChar", "([BI)C"⟩
abbrev cJ2_length_9d52b : ByteArray := prog_16_method_6_code
def yJ2_length_9d52b : MethodName := ⟨RJ2, "length", "([B)I"⟩
abbrev cJ2_charAt_3b067 : ByteArray := prog_16_method_83_code
def yJ2_charAt_3b067 : MethodName := ⟨RJ2, "charAt", "([BI)C"⟩
abbrev cJ2_checkIndex_2214a : ByteArray := prog_16_method_91_code
def yJ2_checkIndex_2214a : MethodName := ⟨RJ2, "checkIndex", "(I[B)V"⟩
def RJ10 : String := "java/lang/System"
def TJ10 : u_T := fun k => match k with
  | _ => ("", "", "", false)
def tyJ10 : Nat → FieldType := fun k => match k with
  | _ => .int
abbrev wsJ100 : List Cond := u_ws RJ10 TJ10 0
theorem nmJ10 : ∀ a, a < 0 → ∀ b, b < 0 → a ≠ b → (TJ10 a).2.1 ≠ (TJ10 b).2.1 := by decide +kernel
theorem tyJ10_ok : ∀ k, k < 0 → parseFieldDescriptor (TJ10 k).2.2.1 = some (tyJ10 k) := by decide +kernel
def RJ7 : String := "java/util/Arrays"
def TJ7 : u_T := fun k => match k with
  | _ => ("", "", "", false)
def tyJ7 : Nat → FieldType := fun k => match k with
  | _ => .int
abbrev wsJ70 : List Cond := u_ws RJ7 TJ7 0
theorem nmJ7 : ∀ a, a < 0 → ∀ b, b < 0 → a ≠ b → (TJ7 a).2.1 ≠ (TJ7 b).2.1 := by decide +kernel
theorem tyJ7_ok : ∀ k, k < 0 → parseFieldDescriptor (TJ7 k).2.2.1 = some (tyJ7 k) := by decide +kernel
abbrev cJ7_fill_53178 : ByteArray := prog_18_method_103_code
def yJ7_fill_53178 : MethodName := ⟨RJ7, "fill", "([II)V"⟩
def RJ3 : String := "jdk/internal/util/Preconditions"
def TJ3 : u_T := fun k => match k with
  | _ => ("", "", "", false)
def tyJ3 : Nat → FieldType := fun k => match k with
  | _ => .int
abbrev wsJ30 : List Cond := u_ws RJ3 TJ3 0
theorem nmJ3 : ∀ a, a < 0 → ∀ b, b < 0 → a ≠ b → (TJ3 a).2.1 ≠ (TJ3 b).2.1 := by decide +kernel
theorem tyJ3_ok : ∀ k, k < 0 → parseFieldDescriptor (TJ3 k).2.2.1 = some (tyJ3 k) := by decide +kernel
abbrev cJ3_checkIndex_8e157 : ByteArray := prog_19_method_11_code
def yJ3_checkIndex_8e157 : MethodName := ⟨RJ3, "checkIndex", "(IILjava/util/function/BiFunction;)I"⟩
def RL : String := "NineDaysLaw"
abbrev cL_law : ByteArray := code
abbrev vwCl : List vw_C := [(RX0, TX0, 17), (RX1, TX1, 6), (RX2, TX2, 5), (RX3, TX3, 2), (RX4, TX4, 6), (RX5, TX5, 7), (RX6, TX6, 8), (RX7, TX7, 9), (RX8, TX8, 6), (RX9, TX9, 12), (RX10, TX10, 60)]
