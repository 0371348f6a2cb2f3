/-- a private method of a class that the tables say can be made, by its rows of tables_1 -/
def lw_okq (q : MethodName × Nat) : Prop := (q.1.cls ≠ "java/lang/invoke/MethodHandle" ∧ q.1.cls ≠ "java/lang/invoke/VarHandle") ∧ Cond.instantiable q.1.cls q.2 ∈ tables_1 ∧ Cond.privateMethod q.1 ∈ tables_1 ∧ Cond.instanceMethod q.1 ∈ tables_1
theorem lw_p0 : lw_okq (⟨"HermitDues$Text", "next", "()V"⟩, 6) := ⟨⟨by decide +kernel, by decide +kernel⟩, List.mem_of_getElem? (i := 22) (by decide +kernel), List.mem_of_getElem? (i := 280) (by decide +kernel), List.mem_of_getElem? (i := 281) (by decide +kernel)⟩
theorem lw_p1 : lw_okq (⟨"HermitDues$Text", "nextNumber", "()V"⟩, 6) := ⟨⟨by decide +kernel, by decide +kernel⟩, List.mem_of_getElem? (i := 22) (by decide +kernel), List.mem_of_getElem? (i := 287) (by decide +kernel), List.mem_of_getElem? (i := 288) (by decide +kernel)⟩
theorem lw_p2 : lw_okq (⟨"HermitDues$Text", "readItem", "(LHermitDues$Told;I)Z"⟩, 6) := ⟨⟨by decide +kernel, by decide +kernel⟩, List.mem_of_getElem? (i := 22) (by decide +kernel), List.mem_of_getElem? (i := 294) (by decide +kernel), List.mem_of_getElem? (i := 295) (by decide +kernel)⟩
theorem lw_p3 : lw_okq (⟨"HermitDues$Text", "readYear", "(LHermitDues$Told;)Z"⟩, 6) := ⟨⟨by decide +kernel, by decide +kernel⟩, List.mem_of_getElem? (i := 22) (by decide +kernel), List.mem_of_getElem? (i := 298) (by decide +kernel), List.mem_of_getElem? (i := 299) (by decide +kernel)⟩
theorem lw_p4 : lw_okq (⟨"HermitDues$Text", "readStop", "()Z"⟩, 6) := ⟨⟨by decide +kernel, by decide +kernel⟩, List.mem_of_getElem? (i := 22) (by decide +kernel), List.mem_of_getElem? (i := 305) (by decide +kernel), List.mem_of_getElem? (i := 306) (by decide +kernel)⟩
theorem lw_p5 : lw_okq (⟨"HermitDues$Text", "readFamily", "(LHermitDues$Told;)Z"⟩, 6) := ⟨⟨by decide +kernel, by decide +kernel⟩, List.mem_of_getElem? (i := 22) (by decide +kernel), List.mem_of_getElem? (i := 309) (by decide +kernel), List.mem_of_getElem? (i := 310) (by decide +kernel)⟩
theorem lw_p6 : lw_okq (⟨"HermitDues$Text", "readWalks", "(LHermitDues$Told;)Z"⟩, 6) := ⟨⟨by decide +kernel, by decide +kernel⟩, List.mem_of_getElem? (i := 22) (by decide +kernel), List.mem_of_getElem? (i := 315) (by decide +kernel), List.mem_of_getElem? (i := 316) (by decide +kernel)⟩
theorem lw_p7 : lw_okq (⟨"HermitDues", "beginAnew", "()V"⟩, 11) := ⟨⟨by decide +kernel, by decide +kernel⟩, List.mem_of_getElem? (i := 14) (by decide +kernel), List.mem_of_getElem? (i := 319) (by decide +kernel), List.mem_of_getElem? (i := 320) (by decide +kernel)⟩
theorem lw_p8 : lw_okq (⟨"HermitDues", "familiesWithoutTurn", "()I"⟩, 11) := ⟨⟨by decide +kernel, by decide +kernel⟩, List.mem_of_getElem? (i := 14) (by decide +kernel), List.mem_of_getElem? (i := 440) (by decide +kernel), List.mem_of_getElem? (i := 441) (by decide +kernel)⟩
theorem lw_p9 : lw_okq (⟨"HermitDues", "turnsOfNobody", "()I"⟩, 11) := ⟨⟨by decide +kernel, by decide +kernel⟩, List.mem_of_getElem? (i := 14) (by decide +kernel), List.mem_of_getElem? (i := 444) (by decide +kernel), List.mem_of_getElem? (i := 445) (by decide +kernel)⟩
theorem lw_p10 : lw_okq (⟨"HermitDues$Plans", "firstBest", "(LHermitDues$Told;II)I"⟩, 11) := ⟨⟨by decide +kernel, by decide +kernel⟩, List.mem_of_getElem? (i := 157) (by decide +kernel), List.mem_of_getElem? (i := 457) (by decide +kernel), List.mem_of_getElem? (i := 458) (by decide +kernel)⟩
theorem lw_p11 : lw_okq (⟨"HermitDues$Plans", "joyFrom", "(LHermitDues$Told;III)I"⟩, 11) := ⟨⟨by decide +kernel, by decide +kernel⟩, List.mem_of_getElem? (i := 157) (by decide +kernel), List.mem_of_getElem? (i := 461) (by decide +kernel), List.mem_of_getElem? (i := 462) (by decide +kernel)⟩
theorem lw_p12 : lw_okq (⟨"HermitDues$Plans", "lookAhead", "(LHermitDues$Told;)V"⟩, 11) := ⟨⟨by decide +kernel, by decide +kernel⟩, List.mem_of_getElem? (i := 157) (by decide +kernel), List.mem_of_getElem? (i := 483) (by decide +kernel), List.mem_of_getElem? (i := 484) (by decide +kernel)⟩
theorem lw_p13 : lw_okq (⟨"HermitDues$Plans", "tryFrom", "(LHermitDues$Told;III)V"⟩, 11) := ⟨⟨by decide +kernel, by decide +kernel⟩, List.mem_of_getElem? (i := 157) (by decide +kernel), List.mem_of_getElem? (i := 489) (by decide +kernel), List.mem_of_getElem? (i := 490) (by decide +kernel)⟩
theorem lw_p14 : lw_okq (⟨"HermitDues$Plans", "mayBeFairer", "(LHermitDues$Told;II)Z"⟩, 11) := ⟨⟨by decide +kernel, by decide +kernel⟩, List.mem_of_getElem? (i := 157) (by decide +kernel), List.mem_of_getElem? (i := 493) (by decide +kernel), List.mem_of_getElem? (i := 494) (by decide +kernel)⟩
theorem lw_p15 : lw_okq (⟨"HermitDues$Plans", "mayAllHave", "(LHermitDues$Told;II)Z"⟩, 11) := ⟨⟨by decide +kernel, by decide +kernel⟩, List.mem_of_getElem? (i := 157) (by decide +kernel), List.mem_of_getElem? (i := 497) (by decide +kernel), List.mem_of_getElem? (i := 498) (by decide +kernel)⟩
def lw_privs_1 : List (MethodName × Nat) := [(⟨"HermitDues$Text", "next", "()V"⟩, 6), (⟨"HermitDues$Text", "nextNumber", "()V"⟩, 6), (⟨"HermitDues$Text", "readItem", "(LHermitDues$Told;I)Z"⟩, 6), (⟨"HermitDues$Text", "readYear", "(LHermitDues$Told;)Z"⟩, 6), (⟨"HermitDues$Text", "readStop", "()Z"⟩, 6), (⟨"HermitDues$Text", "readFamily", "(LHermitDues$Told;)Z"⟩, 6), (⟨"HermitDues$Text", "readWalks", "(LHermitDues$Told;)Z"⟩, 6), (⟨"HermitDues", "beginAnew", "()V"⟩, 11), (⟨"HermitDues", "familiesWithoutTurn", "()I"⟩, 11), (⟨"HermitDues", "turnsOfNobody", "()I"⟩, 11), (⟨"HermitDues$Plans", "firstBest", "(LHermitDues$Told;II)I"⟩, 11), (⟨"HermitDues$Plans", "joyFrom", "(LHermitDues$Told;III)I"⟩, 11), (⟨"HermitDues$Plans", "lookAhead", "(LHermitDues$Told;)V"⟩, 11), (⟨"HermitDues$Plans", "tryFrom", "(LHermitDues$Told;III)V"⟩, 11), (⟨"HermitDues$Plans", "mayBeFairer", "(LHermitDues$Told;II)Z"⟩, 11), (⟨"HermitDues$Plans", "mayAllHave", "(LHermitDues$Told;II)Z"⟩, 11)]
theorem lw_r1 : ∀ q ∈ lw_privs_1, lw_okq q := List.forall_mem_cons.mpr ⟨lw_p0, List.forall_mem_cons.mpr ⟨lw_p1, List.forall_mem_cons.mpr ⟨lw_p2, List.forall_mem_cons.mpr ⟨lw_p3, List.forall_mem_cons.mpr ⟨lw_p4, List.forall_mem_cons.mpr ⟨lw_p5, List.forall_mem_cons.mpr ⟨lw_p6, List.forall_mem_cons.mpr ⟨lw_p7, List.forall_mem_cons.mpr ⟨lw_p8, List.forall_mem_cons.mpr ⟨lw_p9, List.forall_mem_cons.mpr ⟨lw_p10, List.forall_mem_cons.mpr ⟨lw_p11, List.forall_mem_cons.mpr ⟨lw_p12, List.forall_mem_cons.mpr ⟨lw_p13, List.forall_mem_cons.mpr ⟨lw_p14, List.forall_mem_cons.mpr ⟨lw_p15, fun _ h => absurd h List.not_mem_nil⟩⟩⟩⟩⟩⟩⟩⟩⟩⟩⟩⟩⟩⟩⟩⟩
theorem lw_p16 : lw_okq (⟨"HermitDues$Plans", "leastOfLefts", "(LHermitDues$Told;)I"⟩, 11) := ⟨⟨by decide +kernel, by decide +kernel⟩, List.mem_of_getElem? (i := 157) (by decide +kernel), List.mem_of_getElem? (i := 502) (by decide +kernel), List.mem_of_getElem? (i := 503) (by decide +kernel)⟩
theorem lw_p17 : lw_okq (⟨"HermitDues", "bothWouldRather", "(II)Z"⟩, 11) := ⟨⟨by decide +kernel, by decide +kernel⟩, List.mem_of_getElem? (i := 14) (by decide +kernel), List.mem_of_getElem? (i := 511) (by decide +kernel), List.mem_of_getElem? (i := 512) (by decide +kernel)⟩
theorem lw_p18 : lw_okq (⟨"HermitDues", "joyOfAllBut", "(I)I"⟩, 11) := ⟨⟨by decide +kernel, by decide +kernel⟩, List.mem_of_getElem? (i := 14) (by decide +kernel), List.mem_of_getElem? (i := 520) (by decide +kernel), List.mem_of_getElem? (i := 521) (by decide +kernel)⟩
theorem lw_p19 : lw_okq (⟨"HermitDues", "hundredthsOfTurn", "(II)I"⟩, 11) := ⟨⟨by decide +kernel, by decide +kernel⟩, List.mem_of_getElem? (i := 14) (by decide +kernel), List.mem_of_getElem? (i := 529) (by decide +kernel), List.mem_of_getElem? (i := 530) (by decide +kernel)⟩
theorem lw_p20 : lw_okq (⟨"HermitDues$Ribbons", "waysWith", "(LHermitDues$Told;II)I"⟩, 5) := ⟨⟨by decide +kernel, by decide +kernel⟩, List.mem_of_getElem? (i := 133) (by decide +kernel), List.mem_of_getElem? (i := 558) (by decide +kernel), List.mem_of_getElem? (i := 559) (by decide +kernel)⟩
theorem lw_p21 : lw_okq (⟨"HermitDues$Ribbons", "agrees", "(LHermitDues$Told;II)Z"⟩, 5) := ⟨⟨by decide +kernel, by decide +kernel⟩, List.mem_of_getElem? (i := 133) (by decide +kernel), List.mem_of_getElem? (i := 567) (by decide +kernel), List.mem_of_getElem? (i := 568) (by decide +kernel)⟩
theorem lw_p22 : lw_okq (⟨"HermitDues$Visits", "tryFrom", "(LHermitDues$Told;III)V"⟩, 4) := ⟨⟨by decide +kernel, by decide +kernel⟩, List.mem_of_getElem? (i := 201) (by decide +kernel), List.mem_of_getElem? (i := 586) (by decide +kernel), List.mem_of_getElem? (i := 587) (by decide +kernel)⟩
theorem lw_p23 : lw_okq (⟨"HermitDues", "asFamily", "(I)I"⟩, 11) := ⟨⟨by decide +kernel, by decide +kernel⟩, List.mem_of_getElem? (i := 14) (by decide +kernel), List.mem_of_getElem? (i := 599) (by decide +kernel), List.mem_of_getElem? (i := 600) (by decide +kernel)⟩
theorem lw_p24 : lw_okq (⟨"HermitDues", "asButcher", "(I)I"⟩, 11) := ⟨⟨by decide +kernel, by decide +kernel⟩, List.mem_of_getElem? (i := 14) (by decide +kernel), List.mem_of_getElem? (i := 603) (by decide +kernel), List.mem_of_getElem? (i := 604) (by decide +kernel)⟩
theorem lw_p25 : lw_okq (⟨"HermitDues", "asAunt", "(I)I"⟩, 11) := ⟨⟨by decide +kernel, by decide +kernel⟩, List.mem_of_getElem? (i := 14) (by decide +kernel), List.mem_of_getElem? (i := 614) (by decide +kernel), List.mem_of_getElem? (i := 615) (by decide +kernel)⟩
theorem lw_p26 : lw_okq (⟨"HermitDues", "asWife", "(I)I"⟩, 11) := ⟨⟨by decide +kernel, by decide +kernel⟩, List.mem_of_getElem? (i := 14) (by decide +kernel), List.mem_of_getElem? (i := 619) (by decide +kernel), List.mem_of_getElem? (i := 620) (by decide +kernel)⟩
theorem lw_p27 : lw_okq (⟨"HermitDues", "asTwelfth", "(I)I"⟩, 11) := ⟨⟨by decide +kernel, by decide +kernel⟩, List.mem_of_getElem? (i := 14) (by decide +kernel), List.mem_of_getElem? (i := 624) (by decide +kernel), List.mem_of_getElem? (i := 625) (by decide +kernel)⟩
theorem lw_p28 : lw_okq (⟨"HermitDues", "asChild", "(I)I"⟩, 11) := ⟨⟨by decide +kernel, by decide +kernel⟩, List.mem_of_getElem? (i := 14) (by decide +kernel), List.mem_of_getElem? (i := 629) (by decide +kernel), List.mem_of_getElem? (i := 630) (by decide +kernel)⟩
theorem lw_p29 : lw_okq (⟨"HermitDuesModel", "reads", "()Z"⟩, 15) := ⟨⟨by decide +kernel, by decide +kernel⟩, List.mem_of_getElem? (i := 654) (by decide +kernel), List.mem_of_getElem? (i := 660) (by decide +kernel), List.mem_of_getElem? (i := 661) (by decide +kernel)⟩
theorem lw_p30 : lw_okq (⟨"HermitDuesModel", "token", "()V"⟩, 15) := ⟨⟨by decide +kernel, by decide +kernel⟩, List.mem_of_getElem? (i := 654) (by decide +kernel), List.mem_of_getElem? (i := 664) (by decide +kernel), List.mem_of_getElem? (i := 665) (by decide +kernel)⟩
theorem lw_p31 : lw_okq (⟨"HermitDuesModel", "letterAt", "(I)I"⟩, 15) := ⟨⟨by decide +kernel, by decide +kernel⟩, List.mem_of_getElem? (i := 654) (by decide +kernel), List.mem_of_getElem? (i := 668) (by decide +kernel), List.mem_of_getElem? (i := 669) (by decide +kernel)⟩
def lw_privs_2 : List (MethodName × Nat) := [(⟨"HermitDues$Plans", "leastOfLefts", "(LHermitDues$Told;)I"⟩, 11), (⟨"HermitDues", "bothWouldRather", "(II)Z"⟩, 11), (⟨"HermitDues", "joyOfAllBut", "(I)I"⟩, 11), (⟨"HermitDues", "hundredthsOfTurn", "(II)I"⟩, 11), (⟨"HermitDues$Ribbons", "waysWith", "(LHermitDues$Told;II)I"⟩, 5), (⟨"HermitDues$Ribbons", "agrees", "(LHermitDues$Told;II)Z"⟩, 5), (⟨"HermitDues$Visits", "tryFrom", "(LHermitDues$Told;III)V"⟩, 4), (⟨"HermitDues", "asFamily", "(I)I"⟩, 11), (⟨"HermitDues", "asButcher", "(I)I"⟩, 11), (⟨"HermitDues", "asAunt", "(I)I"⟩, 11), (⟨"HermitDues", "asWife", "(I)I"⟩, 11), (⟨"HermitDues", "asTwelfth", "(I)I"⟩, 11), (⟨"HermitDues", "asChild", "(I)I"⟩, 11), (⟨"HermitDuesModel", "reads", "()Z"⟩, 15), (⟨"HermitDuesModel", "token", "()V"⟩, 15), (⟨"HermitDuesModel", "letterAt", "(I)I"⟩, 15)]
theorem lw_r2 : ∀ q ∈ lw_privs_2, lw_okq q := List.forall_mem_cons.mpr ⟨lw_p16, List.forall_mem_cons.mpr ⟨lw_p17, List.forall_mem_cons.mpr ⟨lw_p18, List.forall_mem_cons.mpr ⟨lw_p19, List.forall_mem_cons.mpr ⟨lw_p20, List.forall_mem_cons.mpr ⟨lw_p21, List.forall_mem_cons.mpr ⟨lw_p22, List.forall_mem_cons.mpr ⟨lw_p23, List.forall_mem_cons.mpr ⟨lw_p24, List.forall_mem_cons.mpr ⟨lw_p25, List.forall_mem_cons.mpr ⟨lw_p26, List.forall_mem_cons.mpr ⟨lw_p27, List.forall_mem_cons.mpr ⟨lw_p28, List.forall_mem_cons.mpr ⟨lw_p29, List.forall_mem_cons.mpr ⟨lw_p30, List.forall_mem_cons.mpr ⟨lw_p31, fun _ h => absurd h List.not_mem_nil⟩⟩⟩⟩⟩⟩⟩⟩⟩⟩⟩⟩⟩⟩⟩⟩
theorem lw_p32 : lw_okq (⟨"HermitDuesModel", "readsItem", "()Z"⟩, 15) := ⟨⟨by decide +kernel, by decide +kernel⟩, List.mem_of_getElem? (i := 654) (by decide +kernel), List.mem_of_getElem? (i := 678) (by decide +kernel), List.mem_of_getElem? (i := 679) (by decide +kernel)⟩
theorem lw_p33 : lw_okq (⟨"HermitDuesModel", "readsYear", "()Z"⟩, 15) := ⟨⟨by decide +kernel, by decide +kernel⟩, List.mem_of_getElem? (i := 654) (by decide +kernel), List.mem_of_getElem? (i := 682) (by decide +kernel), List.mem_of_getElem? (i := 683) (by decide +kernel)⟩
theorem lw_p34 : lw_okq (⟨"HermitDuesModel", "readsFamily", "()Z"⟩, 15) := ⟨⟨by decide +kernel, by decide +kernel⟩, List.mem_of_getElem? (i := 654) (by decide +kernel), List.mem_of_getElem? (i := 686) (by decide +kernel), List.mem_of_getElem? (i := 687) (by decide +kernel)⟩
theorem lw_p35 : lw_okq (⟨"HermitDuesModel", "number", "(III)Z"⟩, 15) := ⟨⟨by decide +kernel, by decide +kernel⟩, List.mem_of_getElem? (i := 654) (by decide +kernel), List.mem_of_getElem? (i := 690) (by decide +kernel), List.mem_of_getElem? (i := 691) (by decide +kernel)⟩
theorem lw_p36 : lw_okq (⟨"HermitDuesModel", "tells", "()V"⟩, 15) := ⟨⟨by decide +kernel, by decide +kernel⟩, List.mem_of_getElem? (i := 654) (by decide +kernel), List.mem_of_getElem? (i := 694) (by decide +kernel), List.mem_of_getElem? (i := 695) (by decide +kernel)⟩
theorem lw_p37 : lw_okq (⟨"HermitDuesModel", "isTurn", "(I)Z"⟩, 15) := ⟨⟨by decide +kernel, by decide +kernel⟩, List.mem_of_getElem? (i := 654) (by decide +kernel), List.mem_of_getElem? (i := 760) (by decide +kernel), List.mem_of_getElem? (i := 761) (by decide +kernel)⟩
theorem lw_p38 : lw_okq (⟨"HermitDuesModel", "isNow", "()V"⟩, 15) := ⟨⟨by decide +kernel, by decide +kernel⟩, List.mem_of_getElem? (i := 654) (by decide +kernel), List.mem_of_getElem? (i := 764) (by decide +kernel), List.mem_of_getElem? (i := 765) (by decide +kernel)⟩
theorem lw_p39 : lw_okq (⟨"HermitDuesModel", "joyAt", "(I)I"⟩, 15) := ⟨⟨by decide +kernel, by decide +kernel⟩, List.mem_of_getElem? (i := 654) (by decide +kernel), List.mem_of_getElem? (i := 768) (by decide +kernel), List.mem_of_getElem? (i := 769) (by decide +kernel)⟩
theorem lw_p40 : lw_okq (⟨"HermitDuesModel", "isWinter", "(I)Z"⟩, 15) := ⟨⟨by decide +kernel, by decide +kernel⟩, List.mem_of_getElem? (i := 654) (by decide +kernel), List.mem_of_getElem? (i := 772) (by decide +kernel), List.mem_of_getElem? (i := 773) (by decide +kernel)⟩
theorem lw_p41 : lw_okq (⟨"HermitDuesModel", "isFamily", "(I)Z"⟩, 15) := ⟨⟨by decide +kernel, by decide +kernel⟩, List.mem_of_getElem? (i := 654) (by decide +kernel), List.mem_of_getElem? (i := 780) (by decide +kernel), List.mem_of_getElem? (i := 781) (by decide +kernel)⟩
theorem lw_p42 : lw_okq (⟨"HermitDuesModel", "turnsOf", "(I)I"⟩, 15) := ⟨⟨by decide +kernel, by decide +kernel⟩, List.mem_of_getElem? (i := 654) (by decide +kernel), List.mem_of_getElem? (i := 785) (by decide +kernel), List.mem_of_getElem? (i := 786) (by decide +kernel)⟩
theorem lw_p43 : lw_okq (⟨"HermitDuesModel", "joyOf", "(I)I"⟩, 15) := ⟨⟨by decide +kernel, by decide +kernel⟩, List.mem_of_getElem? (i := 654) (by decide +kernel), List.mem_of_getElem? (i := 789) (by decide +kernel), List.mem_of_getElem? (i := 790) (by decide +kernel)⟩
theorem lw_p44 : lw_okq (⟨"HermitDuesModel", "keeps", "()V"⟩, 15) := ⟨⟨by decide +kernel, by decide +kernel⟩, List.mem_of_getElem? (i := 654) (by decide +kernel), List.mem_of_getElem? (i := 797) (by decide +kernel), List.mem_of_getElem? (i := 798) (by decide +kernel)⟩
theorem lw_p45 : lw_okq (⟨"HermitDuesModel", "allJoy", "()I"⟩, 15) := ⟨⟨by decide +kernel, by decide +kernel⟩, List.mem_of_getElem? (i := 654) (by decide +kernel), List.mem_of_getElem? (i := 805) (by decide +kernel), List.mem_of_getElem? (i := 806) (by decide +kernel)⟩
theorem lw_p46 : lw_okq (⟨"HermitDuesModel", "leastLeft", "()I"⟩, 15) := ⟨⟨by decide +kernel, by decide +kernel⟩, List.mem_of_getElem? (i := 654) (by decide +kernel), List.mem_of_getElem? (i := 821) (by decide +kernel), List.mem_of_getElem? (i := 822) (by decide +kernel)⟩
theorem lw_p47 : lw_okq (⟨"HermitDuesModel", "codes", "()I"⟩, 15) := ⟨⟨by decide +kernel, by decide +kernel⟩, List.mem_of_getElem? (i := 654) (by decide +kernel), List.mem_of_getElem? (i := 830) (by decide +kernel), List.mem_of_getElem? (i := 831) (by decide +kernel)⟩
def lw_privs_3 : List (MethodName × Nat) := [(⟨"HermitDuesModel", "readsItem", "()Z"⟩, 15), (⟨"HermitDuesModel", "readsYear", "()Z"⟩, 15), (⟨"HermitDuesModel", "readsFamily", "()Z"⟩, 15), (⟨"HermitDuesModel", "number", "(III)Z"⟩, 15), (⟨"HermitDuesModel", "tells", "()V"⟩, 15), (⟨"HermitDuesModel", "isTurn", "(I)Z"⟩, 15), (⟨"HermitDuesModel", "isNow", "()V"⟩, 15), (⟨"HermitDuesModel", "joyAt", "(I)I"⟩, 15), (⟨"HermitDuesModel", "isWinter", "(I)Z"⟩, 15), (⟨"HermitDuesModel", "isFamily", "(I)Z"⟩, 15), (⟨"HermitDuesModel", "turnsOf", "(I)I"⟩, 15), (⟨"HermitDuesModel", "joyOf", "(I)I"⟩, 15), (⟨"HermitDuesModel", "keeps", "()V"⟩, 15), (⟨"HermitDuesModel", "allJoy", "()I"⟩, 15), (⟨"HermitDuesModel", "leastLeft", "()I"⟩, 15), (⟨"HermitDuesModel", "codes", "()I"⟩, 15)]
theorem lw_r3 : ∀ q ∈ lw_privs_3, lw_okq q := List.forall_mem_cons.mpr ⟨lw_p32, List.forall_mem_cons.mpr ⟨lw_p33, List.forall_mem_cons.mpr ⟨lw_p34, List.forall_mem_cons.mpr ⟨lw_p35, List.forall_mem_cons.mpr ⟨lw_p36, List.forall_mem_cons.mpr ⟨lw_p37, List.forall_mem_cons.mpr ⟨lw_p38, List.forall_mem_cons.mpr ⟨lw_p39, List.forall_mem_cons.mpr ⟨lw_p40, List.forall_mem_cons.mpr ⟨lw_p41, List.forall_mem_cons.mpr ⟨lw_p42, List.forall_mem_cons.mpr ⟨lw_p43, List.forall_mem_cons.mpr ⟨lw_p44, List.forall_mem_cons.mpr ⟨lw_p45, List.forall_mem_cons.mpr ⟨lw_p46, List.forall_mem_cons.mpr ⟨lw_p47, fun _ h => absurd h List.not_mem_nil⟩⟩⟩⟩⟩⟩⟩⟩⟩⟩⟩⟩⟩⟩⟩⟩
theorem lw_p48 : lw_okq (⟨"HermitDuesModel", "isWay", "(I)Z"⟩, 15) := ⟨⟨by decide +kernel, by decide +kernel⟩, List.mem_of_getElem? (i := 654) (by decide +kernel), List.mem_of_getElem? (i := 834) (by decide +kernel), List.mem_of_getElem? (i := 835) (by decide +kernel)⟩
theorem lw_p49 : lw_okq (⟨"HermitDuesModel", "wouldRather", "(II)Z"⟩, 15) := ⟨⟨by decide +kernel, by decide +kernel⟩, List.mem_of_getElem? (i := 654) (by decide +kernel), List.mem_of_getElem? (i := 846) (by decide +kernel), List.mem_of_getElem? (i := 847) (by decide +kernel)⟩
theorem lw_p50 : lw_okq (⟨"HermitDuesModel", "isSo", "()Z"⟩, 15) := ⟨⟨by decide +kernel, by decide +kernel⟩, List.mem_of_getElem? (i := 654) (by decide +kernel), List.mem_of_getElem? (i := 872) (by decide +kernel), List.mem_of_getElem? (i := 873) (by decide +kernel)⟩
def lw_privs_4 : List (MethodName × Nat) := [(⟨"HermitDuesModel", "isWay", "(I)Z"⟩, 15), (⟨"HermitDuesModel", "wouldRather", "(II)Z"⟩, 15), (⟨"HermitDuesModel", "isSo", "()Z"⟩, 15)]
theorem lw_r4 : ∀ q ∈ lw_privs_4, lw_okq q := List.forall_mem_cons.mpr ⟨lw_p48, List.forall_mem_cons.mpr ⟨lw_p49, List.forall_mem_cons.mpr ⟨lw_p50, fun _ h => absurd h List.not_mem_nil⟩⟩⟩
def lw_privs : List (MethodName × Nat) := lw_privs_1 ++ (lw_privs_2 ++ (lw_privs_3 ++ (lw_privs_4)))
def lw_tbl : List Cond := k2_sels lw_privs ++ tables_1
theorem lw_privs_ok : ∀ q ∈ lw_privs, lw_okq q := by
  show ∀ q ∈ lw_privs_1 ++ (lw_privs_2 ++ (lw_privs_3 ++ (lw_privs_4))), lw_okq q
  exact List.forall_mem_append.mpr ⟨lw_r1, List.forall_mem_append.mpr ⟨lw_r2, List.forall_mem_append.mpr ⟨lw_r3, lw_r4⟩⟩⟩
/-! THE CLAIM OUT OF ONE WALK OF THE LAW'S BODY. Your part is whole_start (and what it stands on); all else here is the same for every law, but numbers. -/
def R_law : String := "HermitDuesLaw"
def lw_P (b : Addr) (xs : List Int32) (args : Array Value) (s : State) : Prop := args = #[.ref b] ∧ s.IntsAt b xs ∧ xs.length ≤ 2048 ∧ (Jvm.Cond.and given_1 narrow_1).before args s = true
def lw_Q (_ : Array Value) (s : State) (o : Outcome) (t : State) : Prop := o = .returned (some (.int 1)) ∧ Framed s o t [] 600000 7302250
def lw_Z (below : List Frame) (a : Array Value) (s : State) : State → Prop := fun t => ∃ o, t.status = .running ∧ Ended t below o ∧ lw_Q a s o t
/-- the law's own end, with 1 on the stack, nothing written that was there before, its room as the claim has it -/
theorem lw_ret {p : Program} {l : Launch} {e : Env} {s : State} {m : MethodId} {below : List Frame} {meth : Method} {c : Code} {b : Nat} (hx : p.tables.exec = Jvm.exec) (hb : c.code = code) (hr : meth.sig.returnType = ret) (hlocks : meth.locks = false) {pc : Nat} {H : Heap} {ls : Array Slot} (hdg : decode code pc = .ok (.ireturn, 1)) : W p l e room_1 s m #[Value.ref b] below meth c H [] 600000 7302250 (lw_Z below #[Value.ref b] s) (F0 m pc ls [.int 1]) := by
  intro T hT X
  obtain ⟨fs, hret, hrun, hended, hW, hframe⟩ := X.leave (v := some (.int 1)) (hlocks := hlocks) (fun h => by rw [hr] at h; cases h)
  have hmeth' : T.vm.method? m = some meth := X.method'
  refine ⟨T.setFrames fs, ?_, .returned (some (.int 1)), hrun, hended, rfl, ⟨_, rfl⟩, hW, hframe⟩
  jvm_step X.here [X.here.top, hx, hb, hdg, hmeth', hr, ret, narrow_b1]
  (try refine ⟨rfl, ?_⟩); (try refine ⟨rfl, ?_⟩)
  first | (intro acts; rw [hret _ acts rfl rfl rfl]) | rw [hret _ _ rfl rfl rfl]
  exact Steps.refl _
/-- what holds at the law's entry: the machine, the code, the tables' words (any of lw_tbl by 'hts w (by decide +kernel)'), the script of L ints xs at the cell b, what the Statement gives of the start (any of its parts by flat_of_before) -/
def lw_At (p : Program) (s : State) (m : MethodId) (meth : Method) (c : Code) (b L : Nat) (xs : Nat → Int32) : Prop :=
  p.tables.exec = Jvm.exec ∧ c.code = code ∧ meth.sig.returnType = ret ∧ c.maxLocals = 4 ∧ s.vm.findClass R_law = some m.cls ∧ (∀ w ∈ lw_tbl, w.before #[Value.ref b] s = true) ∧ va_X b L xs s s.heap ∧ b < s.heap.size ∧ meth.locks = false ∧ (Jvm.Cond.and given_1 narrow_1).before #[Value.ref b] s = true
def RX0 : String := "HermitDues$Now"
def TX0 : u_T := fun k => match k with
  | 0 => ("HermitDues$Now", "who", "[I", true)
  | 1 => ("HermitDues$Now", "stores", "[I", true)
  | 2 => ("HermitDues$Now", "forgotten", "[I", true)
  | 3 => ("HermitDues$Now", "chest", "I", false)
  | 4 => ("HermitDues$Now", "years", "I", false)
  | 5 => ("HermitDues$Now", "past", "[I", true)
  | _ => ("HermitDues$Now", "undoable", "I", false)
def tyX0 : Nat → FieldType := fun k => match k with
  | 0 => .array .int
  | 1 => .array .int
  | 2 => .array .int
  | 3 => .int
  | 4 => .int
  | 5 => .array .int
  | _ => .int
theorem nmX0 : ∀ a, a < 7 → ∀ b, b < 7 → a ≠ b → (TX0 a).2.1 ≠ (TX0 b).2.1 := by decide +kernel
theorem tyX0_ok : ∀ k, k < 7 → parseFieldDescriptor (TX0 k).2.2.1 = some (tyX0 k) := by decide +kernel
abbrev cX0_init : ByteArray := prog_2_method_1_code
def yX0_init : MethodName := ⟨RX0, "<init>", "()V"⟩
abbrev cX0_begin : ByteArray := prog_2_method_2_code
def yX0_begin : MethodName := ⟨RX0, "begin", "()V"⟩
abbrev cX0_become : ByteArray := prog_2_method_3_code
def yX0_become : MethodName := ⟨RX0, "become", "(LHermitDues$Now;)V"⟩
abbrev cX0_remember : ByteArray := prog_2_method_4_code
def yX0_remember : MethodName := ⟨RX0, "remember", "()V"⟩
abbrev cX0_recall : ByteArray := prog_2_method_5_code
def yX0_recall : MethodName := ⟨RX0, "recall", "()V"⟩
abbrev cX0_turnsOf : ByteArray := prog_2_method_6_code
def yX0_turnsOf : MethodName := ⟨RX0, "turnsOf", "(I)I"⟩
abbrev cX0_passYear : ByteArray := prog_2_method_7_code
def yX0_passYear : MethodName := ⟨RX0, "passYear", "(LHermitDues$Told;)I"⟩
def RX1 : String := "HermitDues$Plans"
def TX1 : u_T := fun k => match k with
  | 0 => ("HermitDues$Plans", "mostFrom", "[[I", true)
  | 1 => ("HermitDues$Plans", "mostWay", "[I", true)
  | 2 => ("HermitDues$Plans", "mostFound", "Z", false)
  | 3 => ("HermitDues$Plans", "fairWay", "[I", true)
  | 4 => ("HermitDues$Plans", "fairLeast", "I", false)
  | 5 => ("HermitDues$Plans", "fairJoy", "I", false)
  | 6 => ("HermitDues$Plans", "fairFound", "Z", false)
  | 7 => ("HermitDues$Plans", "way", "[I", true)
  | 8 => ("HermitDues$Plans", "lefts", "[I", true)
  | 9 => ("HermitDues$Plans", "openFrom", "[I", true)
  | _ => ("HermitDues$Plans", "wholeFrom", "[[I", true)
def tyX1 : Nat → FieldType := fun k => match k with
  | 0 => .array (.array .int)
  | 1 => .array .int
  | 2 => .boolean
  | 3 => .array .int
  | 4 => .int
  | 5 => .int
  | 6 => .boolean
  | 7 => .array .int
  | 8 => .array .int
  | 9 => .array .int
  | _ => .array (.array .int)
theorem nmX1 : ∀ a, a < 11 → ∀ b, b < 11 → a ≠ b → (TX1 a).2.1 ≠ (TX1 b).2.1 := by decide +kernel
theorem tyX1_ok : ∀ k, k < 11 → parseFieldDescriptor (TX1 k).2.2.1 = some (tyX1 k) := by decide +kernel
abbrev cX1_init : ByteArray := prog_3_method_1_code
def yX1_init : MethodName := ⟨RX1, "<init>", "()V"⟩
abbrev cX1_begin : ByteArray := prog_3_method_2_code
def yX1_begin : MethodName := ⟨RX1, "begin", "()V"⟩
abbrev cX1_mostJoy : ByteArray := prog_3_method_3_code
def yX1_mostJoy : MethodName := ⟨RX1, "mostJoy", "()I"⟩
abbrev cX1_findMost : ByteArray := prog_3_method_4_code
def yX1_findMost : MethodName := ⟨RX1, "findMost", "(LHermitDues$Told;)V"⟩
abbrev cX1_firstBest : ByteArray := prog_3_method_5_code
def yX1_firstBest : MethodName := ⟨RX1, "firstBest", "(LHermitDues$Told;II)I"⟩
abbrev cX1_joyFrom : ByteArray := prog_3_method_6_code
def yX1_joyFrom : MethodName := ⟨RX1, "joyFrom", "(LHermitDues$Told;III)I"⟩
abbrev cX1_findFair : ByteArray := prog_3_method_7_code
def yX1_findFair : MethodName := ⟨RX1, "findFair", "(LHermitDues$Told;)V"⟩
abbrev cX1_lookAhead : ByteArray := prog_3_method_8_code
def yX1_lookAhead : MethodName := ⟨RX1, "lookAhead", "(LHermitDues$Told;)V"⟩
abbrev cX1_tryFrom : ByteArray := prog_3_method_9_code
def yX1_tryFrom : MethodName := ⟨RX1, "tryFrom", "(LHermitDues$Told;III)V"⟩
abbrev cX1_mayBeFairer : ByteArray := prog_3_method_10_code
def yX1_mayBeFairer : MethodName := ⟨RX1, "mayBeFairer", "(LHermitDues$Told;II)Z"⟩
abbrev cX1_mayAllHave : ByteArray := prog_3_method_11_code
def yX1_mayAllHave : MethodName := ⟨RX1, "mayAllHave", "(LHermitDues$Told;II)Z"⟩
abbrev cX1_leastOfLefts : ByteArray := prog_3_method_12_code
def yX1_leastOfLefts : MethodName := ⟨RX1, "leastOfLefts", "(LHermitDues$Told;)I"⟩
def RX2 : String := "HermitDues$Ribbons"
def TX2 : u_T := fun k => match k with
  | 0 => ("HermitDues$Ribbons", "turnSeen", "[I", true)
  | 1 => ("HermitDues$Ribbons", "ribbonSeen", "[I", true)
  | 2 => ("HermitDues$Ribbons", "seen", "I", false)
  | 3 => ("HermitDues$Ribbons", "ending", "[I", true)
  | _ => ("HermitDues$Ribbons", "endingNext", "[I", true)
def tyX2 : Nat → FieldType := fun k => match k with
  | 0 => .array .int
  | 1 => .array .int
  | 2 => .int
  | 3 => .array .int
  | _ => .array .int
theorem nmX2 : ∀ a, a < 5 → ∀ b, b < 5 → a ≠ b → (TX2 a).2.1 ≠ (TX2 b).2.1 := by decide +kernel
theorem tyX2_ok : ∀ k, k < 5 → parseFieldDescriptor (TX2 k).2.2.1 = some (tyX2 k) := by decide +kernel
abbrev cX2_init : ByteArray := prog_4_method_1_code
def yX2_init : MethodName := ⟨RX2, "<init>", "()V"⟩
abbrev cX2_add : ByteArray := prog_4_method_2_code
def yX2_add : MethodName := ⟨RX2, "add", "(II)V"⟩
abbrev cX2_waysInAll : ByteArray := prog_4_method_3_code
def yX2_waysInAll : MethodName := ⟨RX2, "waysInAll", "(LHermitDues$Told;)I"⟩
abbrev cX2_sureOf : ByteArray := prog_4_method_4_code
def yX2_sureOf : MethodName := ⟨RX2, "sureOf", "(LHermitDues$Told;I)I"⟩
abbrev cX2_waysWith : ByteArray := prog_4_method_5_code
def yX2_waysWith : MethodName := ⟨RX2, "waysWith", "(LHermitDues$Told;II)I"⟩
abbrev cX2_agrees : ByteArray := prog_4_method_6_code
def yX2_agrees : MethodName := ⟨RX2, "agrees", "(LHermitDues$Told;II)Z"⟩
abbrev cX2_sumOf : ByteArray := prog_4_method_7_code
def yX2_sumOf : MethodName := ⟨RX2, "sumOf", "([I)I"⟩
def RX3 : String := "HermitDues$Text"
def TX3 : u_T := fun k => match k with
  | 0 => ("HermitDues$Text", "bytes", "[I", true)
  | 1 => ("HermitDues$Text", "length", "I", false)
  | 2 => ("HermitDues$Text", "place", "I", false)
  | 3 => ("HermitDues$Text", "start", "I", false)
  | 4 => ("HermitDues$Text", "token", "I", false)
  | _ => ("HermitDues$Text", "value", "I", false)
def tyX3 : Nat → FieldType := fun k => match k with
  | 0 => .array .int
  | 1 => .int
  | 2 => .int
  | 3 => .int
  | 4 => .int
  | _ => .int
theorem nmX3 : ∀ a, a < 6 → ∀ b, b < 6 → a ≠ b → (TX3 a).2.1 ≠ (TX3 b).2.1 := by decide +kernel
theorem tyX3_ok : ∀ k, k < 6 → parseFieldDescriptor (TX3 k).2.2.1 = some (tyX3 k) := by decide +kernel
abbrev cX3_init : ByteArray := prog_5_method_1_code
def yX3_init : MethodName := ⟨RX3, "<init>", "()V"⟩
abbrev cX3_add : ByteArray := prog_5_method_2_code
def yX3_add : MethodName := ⟨RX3, "add", "(I)V"⟩
abbrev cX3_readInto : ByteArray := prog_5_method_3_code
def yX3_readInto : MethodName := ⟨RX3, "readInto", "(LHermitDues$Told;)I"⟩
abbrev cX3_readItem : ByteArray := prog_5_method_4_code
def yX3_readItem : MethodName := ⟨RX3, "readItem", "(LHermitDues$Told;I)Z"⟩
abbrev cX3_readYear : ByteArray := prog_5_method_5_code
def yX3_readYear : MethodName := ⟨RX3, "readYear", "(LHermitDues$Told;)Z"⟩
abbrev cX3_readFamily : ByteArray := prog_5_method_6_code
def yX3_readFamily : MethodName := ⟨RX3, "readFamily", "(LHermitDues$Told;)Z"⟩
abbrev cX3_readWalks : ByteArray := prog_5_method_7_code
def yX3_readWalks : MethodName := ⟨RX3, "readWalks", "(LHermitDues$Told;)Z"⟩
abbrev cX3_readStop : ByteArray := prog_5_method_8_code
def yX3_readStop : MethodName := ⟨RX3, "readStop", "()Z"⟩
abbrev cX3_seasonOf : ByteArray := prog_5_method_9_code
def yX3_seasonOf : MethodName := ⟨RX3, "seasonOf", "(I)I"⟩
abbrev cX3_next : ByteArray := prog_5_method_10_code
def yX3_next : MethodName := ⟨RX3, "next", "()V"⟩
abbrev cX3_nextNumber : ByteArray := prog_5_method_11_code
def yX3_nextNumber : MethodName := ⟨RX3, "nextNumber", "()V"⟩
abbrev cX3_isDigit : ByteArray := prog_5_method_12_code
def yX3_isDigit : MethodName := ⟨RX3, "isDigit", "(I)Z"⟩
def RX4 : String := "HermitDues$Told"
def TX4 : u_T := fun k => match k with
  | 0 => ("HermitDues$Told", "seasons", "[I", true)
  | 1 => ("HermitDues$Told", "turns", "I", false)
  | 2 => ("HermitDues$Told", "numbers", "[[I", true)
  | 3 => ("HermitDues$Told", "families", "I", false)
  | 4 => ("HermitDues$Told", "walks", "I", false)
  | _ => ("HermitDues$Told", "walksTold", "Z", false)
def tyX4 : Nat → FieldType := fun k => match k with
  | 0 => .array .int
  | 1 => .int
  | 2 => .array (.array .int)
  | 3 => .int
  | 4 => .int
  | _ => .boolean
theorem nmX4 : ∀ a, a < 6 → ∀ b, b < 6 → a ≠ b → (TX4 a).2.1 ≠ (TX4 b).2.1 := by decide +kernel
theorem tyX4_ok : ∀ k, k < 6 → parseFieldDescriptor (TX4 k).2.2.1 = some (tyX4 k) := by decide +kernel
abbrev cX4_init : ByteArray := prog_6_method_1_code
def yX4_init : MethodName := ⟨RX4, "<init>", "()V"⟩
abbrev cX4_begin : ByteArray := prog_6_method_2_code
def yX4_begin : MethodName := ⟨RX4, "begin", "()V"⟩
abbrev cX4_hasTurn : ByteArray := prog_6_method_3_code
def yX4_hasTurn : MethodName := ⟨RX4, "hasTurn", "(I)Z"⟩
abbrev cX4_hasFamily : ByteArray := prog_6_method_4_code
def yX4_hasFamily : MethodName := ⟨RX4, "hasFamily", "(I)Z"⟩
abbrev cX4_isWinter : ByteArray := prog_6_method_5_code
def yX4_isWinter : MethodName := ⟨RX4, "isWinter", "(I)Z"⟩
abbrev cX4_lastWhoMayBe : ByteArray := prog_6_method_6_code
def yX4_lastWhoMayBe : MethodName := ⟨RX4, "lastWhoMayBe", "(I)I"⟩
abbrev cX4_joy : ByteArray := prog_6_method_7_code
def yX4_joy : MethodName := ⟨RX4, "joy", "(III)I"⟩
abbrev cX4_aheadOf : ByteArray := prog_6_method_8_code
def yX4_aheadOf : MethodName := ⟨RX4, "aheadOf", "([II)I"⟩
abbrev cX4_joyOfTurn : ByteArray := prog_6_method_9_code
def yX4_joyOfTurn : MethodName := ⟨RX4, "joyOfTurn", "([II)I"⟩
abbrev cX4_joyOfAll : ByteArray := prog_6_method_10_code
def yX4_joyOfAll : MethodName := ⟨RX4, "joyOfAll", "([I)I"⟩
abbrev cX4_joyOfFamily : ByteArray := prog_6_method_11_code
def yX4_joyOfFamily : MethodName := ⟨RX4, "joyOfFamily", "([II)I"⟩
abbrev cX4_leftOfFamily : ByteArray := prog_6_method_12_code
def yX4_leftOfFamily : MethodName := ⟨RX4, "leftOfFamily", "([II)I"⟩
abbrev cX4_leastLeft : ByteArray := prog_6_method_13_code
def yX4_leastLeft : MethodName := ⟨RX4, "leastLeft", "([I)I"⟩
def RX5 : String := "HermitDues$Visits"
def TX5 : u_T := fun k => match k with
  | 0 => ("HermitDues$Visits", "bestHours", "[I", true)
  | 1 => ("HermitDues$Visits", "bestComing", "I", false)
  | 2 => ("HermitDues$Visits", "found", "Z", false)
  | _ => ("HermitDues$Visits", "hours", "[I", true)
def tyX5 : Nat → FieldType := fun k => match k with
  | 0 => .array .int
  | 1 => .int
  | 2 => .boolean
  | _ => .array .int
theorem nmX5 : ∀ a, a < 4 → ∀ b, b < 4 → a ≠ b → (TX5 a).2.1 ≠ (TX5 b).2.1 := by decide +kernel
theorem tyX5_ok : ∀ k, k < 4 → parseFieldDescriptor (TX5 k).2.2.1 = some (tyX5 k) := by decide +kernel
abbrev cX5_init : ByteArray := prog_7_method_1_code
def yX5_init : MethodName := ⟨RX5, "<init>", "()V"⟩
abbrev cX5_begin : ByteArray := prog_7_method_2_code
def yX5_begin : MethodName := ⟨RX5, "begin", "()V"⟩
abbrev cX5_find : ByteArray := prog_7_method_3_code
def yX5_find : MethodName := ⟨RX5, "find", "(LHermitDues$Told;)V"⟩
abbrev cX5_tryFrom : ByteArray := prog_7_method_4_code
def yX5_tryFrom : MethodName := ⟨RX5, "tryFrom", "(LHermitDues$Told;III)V"⟩
def RX6 : String := "HermitDues"
def TX6 : u_T := fun k => match k with
  | 0 => ("HermitDues", "text", "LHermitDues$Text;", true)
  | 1 => ("HermitDues", "told", "LHermitDues$Told;", false)
  | 2 => ("HermitDues", "spare", "LHermitDues$Told;", false)
  | 3 => ("HermitDues", "present", "LHermitDues$Now;", true)
  | 4 => ("HermitDues", "images", "[LHermitDues$Now;", true)
  | 5 => ("HermitDues", "kept", "[Z", true)
  | 6 => ("HermitDues", "ribbons", "LHermitDues$Ribbons;", true)
  | 7 => ("HermitDues", "plans", "LHermitDues$Plans;", true)
  | 8 => ("HermitDues", "visits", "LHermitDues$Visits;", true)
  | 9 => ("HermitDues", "trial", "[I", true)
  | _ => ("HermitDues", "traced", "J", false)
def tyX6 : Nat → FieldType := fun k => match k with
  | 0 => .object "HermitDues$Text"
  | 1 => .object "HermitDues$Told"
  | 2 => .object "HermitDues$Told"
  | 3 => .object "HermitDues$Now"
  | 4 => .array (.object "HermitDues$Now")
  | 5 => .array .boolean
  | 6 => .object "HermitDues$Ribbons"
  | 7 => .object "HermitDues$Plans"
  | 8 => .object "HermitDues$Visits"
  | 9 => .array .int
  | _ => .long
theorem nmX6 : ∀ a, a < 11 → ∀ b, b < 11 → a ≠ b → (TX6 a).2.1 ≠ (TX6 b).2.1 := by decide +kernel
theorem tyX6_ok : ∀ k, k < 11 → parseFieldDescriptor (TX6 k).2.2.1 = some (tyX6 k) := by decide +kernel
abbrev cX6_init : ByteArray := prog_1_method_1_code
def yX6_init : MethodName := ⟨RX6, "<init>", "()V"⟩
abbrev cX6_type : ByteArray := prog_1_method_2_code
def yX6_type : MethodName := ⟨RX6, "type", "(I)I"⟩
abbrev cX6_clear : ByteArray := prog_1_method_3_code
def yX6_clear : MethodName := ⟨RX6, "clear", "()I"⟩
abbrev cX6_grotto : ByteArray := prog_1_method_4_code
def yX6_grotto : MethodName := ⟨RX6, "grotto", "()I"⟩
abbrev cX6_turn : ByteArray := prog_1_method_5_code
def yX6_turn : MethodName := ⟨RX6, "turn", "(II)I"⟩
abbrev cX6_family : ByteArray := prog_1_method_6_code
def yX6_family : MethodName := ⟨RX6, "family", "(II)I"⟩
abbrev cX6_gives : ByteArray := prog_1_method_7_code
def yX6_gives : MethodName := ⟨RX6, "gives", "(II)I"⟩
abbrev cX6_swaps : ByteArray := prog_1_method_8_code
def yX6_swaps : MethodName := ⟨RX6, "swaps", "(II)I"⟩
abbrev cX6_year : ByteArray := prog_1_method_9_code
def yX6_year : MethodName := ⟨RX6, "year", "()I"⟩
abbrev cX6_undo : ByteArray := prog_1_method_10_code
def yX6_undo : MethodName := ⟨RX6, "undo", "()I"⟩
abbrev cX6_now : ByteArray := prog_1_method_11_code
def yX6_now : MethodName := ⟨RX6, "now", "(I)I"⟩
abbrev cX6_most : ByteArray := prog_1_method_12_code
def yX6_most : MethodName := ⟨RX6, "most", "(I)I"⟩
abbrev cX6_fair : ByteArray := prog_1_method_13_code
def yX6_fair : MethodName := ⟨RX6, "fair", "(I)I"⟩
abbrev cX6_rather : ByteArray := prog_1_method_14_code
def yX6_rather : MethodName := ⟨RX6, "rather", "(I)I"⟩
abbrev cX6_entry : ByteArray := prog_1_method_15_code
def yX6_entry : MethodName := ⟨RX6, "entry", "(III)I"⟩
abbrev cX6_odds : ByteArray := prog_1_method_16_code
def yX6_odds : MethodName := ⟨RX6, "odds", "(II)J"⟩
abbrev cX6_saw : ByteArray := prog_1_method_17_code
def yX6_saw : MethodName := ⟨RX6, "saw", "(II)I"⟩
abbrev cX6_forget : ByteArray := prog_1_method_18_code
def yX6_forget : MethodName := ⟨RX6, "forget", "()I"⟩
abbrev cX6_ways : ByteArray := prog_1_method_19_code
def yX6_ways : MethodName := ⟨RX6, "ways", "(I)I"⟩
abbrev cX6_cheese : ByteArray := prog_1_method_20_code
def yX6_cheese : MethodName := ⟨RX6, "cheese", "(I)I"⟩
abbrev cX6_free : ByteArray := prog_1_method_21_code
def yX6_free : MethodName := ⟨RX6, "free", "(I)I"⟩
abbrev cX6_mark : ByteArray := prog_1_method_22_code
def yX6_mark : MethodName := ⟨RX6, "mark", "(II)I"⟩
abbrev cX6_keep : ByteArray := prog_1_method_23_code
def yX6_keep : MethodName := ⟨RX6, "keep", "(I)I"⟩
abbrev cX6_back : ByteArray := prog_1_method_24_code
def yX6_back : MethodName := ⟨RX6, "back", "(I)I"⟩
abbrev cX6_count : ByteArray := prog_1_method_25_code
def yX6_count : MethodName := ⟨RX6, "count", "(I)I"⟩
abbrev cX6_trace : ByteArray := prog_1_method_26_code
def yX6_trace : MethodName := ⟨RX6, "trace", "()J"⟩
abbrev cX6_beginAnew : ByteArray := prog_1_method_27_code
def yX6_beginAnew : MethodName := ⟨RX6, "beginAnew", "()V"⟩
abbrev cX6_orNone : ByteArray := prog_1_method_28_code
def yX6_orNone : MethodName := ⟨RX6, "orNone", "(I)I"⟩
abbrev cX6_exchange : ByteArray := prog_1_method_29_code
def yX6_exchange : MethodName := ⟨RX6, "exchange", "([III)V"⟩
abbrev cX6_familiesWithoutTurn : ByteArray := prog_1_method_30_code
def yX6_familiesWithoutTurn : MethodName := ⟨RX6, "familiesWithoutTurn", "()I"⟩
abbrev cX6_turnsOfNobody : ByteArray := prog_1_method_31_code
def yX6_turnsOfNobody : MethodName := ⟨RX6, "turnsOfNobody", "()I"⟩
abbrev cX6_bothWouldRather : ByteArray := prog_1_method_32_code
def yX6_bothWouldRather : MethodName := ⟨RX6, "bothWouldRather", "(II)Z"⟩
abbrev cX6_joyOfAllBut : ByteArray := prog_1_method_33_code
def yX6_joyOfAllBut : MethodName := ⟨RX6, "joyOfAllBut", "(I)I"⟩
abbrev cX6_hundredthsOfTurn : ByteArray := prog_1_method_34_code
def yX6_hundredthsOfTurn : MethodName := ⟨RX6, "hundredthsOfTurn", "(II)I"⟩
abbrev cX6_commonWithHundred : ByteArray := prog_1_method_35_code
def yX6_commonWithHundred : MethodName := ⟨RX6, "commonWithHundred", "(I)I"⟩
abbrev cX6_asFamily : ByteArray := prog_1_method_36_code
def yX6_asFamily : MethodName := ⟨RX6, "asFamily", "(I)I"⟩
abbrev cX6_asButcher : ByteArray := prog_1_method_37_code
def yX6_asButcher : MethodName := ⟨RX6, "asButcher", "(I)I"⟩
abbrev cX6_asAunt : ByteArray := prog_1_method_38_code
def yX6_asAunt : MethodName := ⟨RX6, "asAunt", "(I)I"⟩
abbrev cX6_asWife : ByteArray := prog_1_method_39_code
def yX6_asWife : MethodName := ⟨RX6, "asWife", "(I)I"⟩
abbrev cX6_asTwelfth : ByteArray := prog_1_method_40_code
def yX6_asTwelfth : MethodName := ⟨RX6, "asTwelfth", "(I)I"⟩
abbrev cX6_asChild : ByteArray := prog_1_method_41_code
def yX6_asChild : MethodName := ⟨RX6, "asChild", "(I)I"⟩
def RX7 : String := "HermitDuesModel"
def TX7 : u_T := fun k => match k with
  | 0 => ("HermitDuesModel", "trace", "J", false)
  | 1 => ("HermitDuesModel", "text", "[I", true)
  | 2 => ("HermitDuesModel", "typed", "I", false)
  | 3 => ("HermitDuesModel", "told", "[I", true)
  | 4 => ("HermitDuesModel", "draft", "[I", true)
  | 5 => ("HermitDuesModel", "s", "[I", true)
  | 6 => ("HermitDuesModel", "images", "[I", true)
  | 7 => ("HermitDuesModel", "kept", "[Z", true)
  | 8 => ("HermitDuesModel", "notes", "[I", true)
  | 9 => ("HermitDuesModel", "noted", "I", false)
  | 10 => ("HermitDuesModel", "at", "I", false)
  | 11 => ("HermitDuesModel", "sort", "I", false)
  | 12 => ("HermitDuesModel", "start", "I", false)
  | 13 => ("HermitDuesModel", "value", "I", false)
  | _ => ("HermitDuesModel", "it", "[I", true)
def tyX7 : Nat → FieldType := fun k => match k with
  | 0 => .long
  | 1 => .array .int
  | 2 => .int
  | 3 => .array .int
  | 4 => .array .int
  | 5 => .array .int
  | 6 => .array .int
  | 7 => .array .boolean
  | 8 => .array .int
  | 9 => .int
  | 10 => .int
  | 11 => .int
  | 12 => .int
  | 13 => .int
  | _ => .array .int
theorem nmX7 : ∀ a, a < 15 → ∀ b, b < 15 → a ≠ b → (TX7 a).2.1 ≠ (TX7 b).2.1 := by decide +kernel
theorem tyX7_ok : ∀ k, k < 15 → parseFieldDescriptor (TX7 k).2.2.1 = some (tyX7 k) := by decide +kernel
abbrev cX7_init : ByteArray := prog_9_method_1_code
def yX7_init : MethodName := ⟨RX7, "<init>", "()V"⟩
abbrev cX7_in : ByteArray := prog_9_method_3_code
def yX7_in : MethodName := ⟨RX7, "in", "(III)Z"⟩
abbrev cX7_isTurn : ByteArray := prog_9_method_4_code
def yX7_isTurn : MethodName := ⟨RX7, "isTurn", "(I)Z"⟩
abbrev cX7_isFamily : ByteArray := prog_9_method_5_code
def yX7_isFamily : MethodName := ⟨RX7, "isFamily", "(I)Z"⟩
abbrev cX7_isWinter : ByteArray := prog_9_method_6_code
def yX7_isWinter : MethodName := ⟨RX7, "isWinter", "(I)Z"⟩
abbrev cX7_type : ByteArray := prog_9_method_7_code
def yX7_type : MethodName := ⟨RX7, "type", "(I)I"⟩
abbrev cX7_clear : ByteArray := prog_9_method_8_code
def yX7_clear : MethodName := ⟨RX7, "clear", "()I"⟩
abbrev cX7_letterAt : ByteArray := prog_9_method_9_code
def yX7_letterAt : MethodName := ⟨RX7, "letterAt", "(I)I"⟩
abbrev cX7_isDigit : ByteArray := prog_9_method_10_code
def yX7_isDigit : MethodName := ⟨RX7, "isDigit", "(I)Z"⟩
abbrev cX7_token : ByteArray := prog_9_method_11_code
def yX7_token : MethodName := ⟨RX7, "token", "()V"⟩
abbrev cX7_number : ByteArray := prog_9_method_12_code
def yX7_number : MethodName := ⟨RX7, "number", "(III)Z"⟩
abbrev cX7_readsYear : ByteArray := prog_9_method_13_code
def yX7_readsYear : MethodName := ⟨RX7, "readsYear", "()Z"⟩
abbrev cX7_readsFamily : ByteArray := prog_9_method_14_code
def yX7_readsFamily : MethodName := ⟨RX7, "readsFamily", "()Z"⟩
abbrev cX7_readsItem : ByteArray := prog_9_method_15_code
def yX7_readsItem : MethodName := ⟨RX7, "readsItem", "()Z"⟩
abbrev cX7_reads : ByteArray := prog_9_method_16_code
def yX7_reads : MethodName := ⟨RX7, "reads", "()Z"⟩
abbrev cX7_tells : ByteArray := prog_9_method_17_code
def yX7_tells : MethodName := ⟨RX7, "tells", "()V"⟩
abbrev cX7_grotto : ByteArray := prog_9_method_18_code
def yX7_grotto : MethodName := ⟨RX7, "grotto", "()I"⟩
abbrev cX7_joyAt : ByteArray := prog_9_method_19_code
def yX7_joyAt : MethodName := ⟨RX7, "joyAt", "(I)I"⟩
abbrev cX7_joyOf : ByteArray := prog_9_method_20_code
def yX7_joyOf : MethodName := ⟨RX7, "joyOf", "(I)I"⟩
abbrev cX7_allJoy : ByteArray := prog_9_method_21_code
def yX7_allJoy : MethodName := ⟨RX7, "allJoy", "()I"⟩
abbrev cX7_leastLeft : ByteArray := prog_9_method_22_code
def yX7_leastLeft : MethodName := ⟨RX7, "leastLeft", "()I"⟩
abbrev cX7_isNow : ByteArray := prog_9_method_23_code
def yX7_isNow : MethodName := ⟨RX7, "isNow", "()V"⟩
abbrev cX7_turnsOf : ByteArray := prog_9_method_24_code
def yX7_turnsOf : MethodName := ⟨RX7, "turnsOf", "(I)I"⟩
abbrev cX7_ones : ByteArray := prog_9_method_25_code
def yX7_ones : MethodName := ⟨RX7, "ones", "(I)I"⟩
abbrev cX7_turn : ByteArray := prog_9_method_26_code
def yX7_turn : MethodName := ⟨RX7, "turn", "(II)I"⟩
abbrev cX7_family : ByteArray := prog_9_method_27_code
def yX7_family : MethodName := ⟨RX7, "family", "(II)I"⟩
abbrev cX7_keeps : ByteArray := prog_9_method_28_code
def yX7_keeps : MethodName := ⟨RX7, "keeps", "()V"⟩
abbrev cX7_gives : ByteArray := prog_9_method_29_code
def yX7_gives : MethodName := ⟨RX7, "gives", "(II)I"⟩
abbrev cX7_swaps : ByteArray := prog_9_method_30_code
def yX7_swaps : MethodName := ⟨RX7, "swaps", "(II)I"⟩
abbrev cX7_year : ByteArray := prog_9_method_31_code
def yX7_year : MethodName := ⟨RX7, "year", "()I"⟩
abbrev cX7_undo : ByteArray := prog_9_method_32_code
def yX7_undo : MethodName := ⟨RX7, "undo", "()I"⟩
abbrev cX7_now : ByteArray := prog_9_method_33_code
def yX7_now : MethodName := ⟨RX7, "now", "(I)I"⟩
abbrev cX7_codes : ByteArray := prog_9_method_34_code
def yX7_codes : MethodName := ⟨RX7, "codes", "()I"⟩
abbrev cX7_isWay : ByteArray := prog_9_method_35_code
def yX7_isWay : MethodName := ⟨RX7, "isWay", "(I)Z"⟩
abbrev cX7_most : ByteArray := prog_9_method_36_code
def yX7_most : MethodName := ⟨RX7, "most", "(I)I"⟩
abbrev cX7_fair : ByteArray := prog_9_method_37_code
def yX7_fair : MethodName := ⟨RX7, "fair", "(I)I"⟩
abbrev cX7_wouldRather : ByteArray := prog_9_method_38_code
def yX7_wouldRather : MethodName := ⟨RX7, "wouldRather", "(II)Z"⟩
abbrev cX7_rather : ByteArray := prog_9_method_39_code
def yX7_rather : MethodName := ⟨RX7, "rather", "(I)I"⟩
abbrev cX7_entry : ByteArray := prog_9_method_40_code
def yX7_entry : MethodName := ⟨RX7, "entry", "(III)I"⟩
abbrev cX7_odds : ByteArray := prog_9_method_41_code
def yX7_odds : MethodName := ⟨RX7, "odds", "(II)J"⟩
abbrev cX7_saw : ByteArray := prog_9_method_42_code
def yX7_saw : MethodName := ⟨RX7, "saw", "(II)I"⟩
abbrev cX7_forget : ByteArray := prog_9_method_43_code
def yX7_forget : MethodName := ⟨RX7, "forget", "()I"⟩
abbrev cX7_isSo : ByteArray := prog_9_method_44_code
def yX7_isSo : MethodName := ⟨RX7, "isSo", "()Z"⟩
abbrev cX7_ways : ByteArray := prog_9_method_45_code
def yX7_ways : MethodName := ⟨RX7, "ways", "(I)I"⟩
abbrev cX7_cheese : ByteArray := prog_9_method_46_code
def yX7_cheese : MethodName := ⟨RX7, "cheese", "(I)I"⟩
abbrev cX7_free : ByteArray := prog_9_method_47_code
def yX7_free : MethodName := ⟨RX7, "free", "(I)I"⟩
abbrev cX7_mark : ByteArray := prog_9_method_48_code
def yX7_mark : MethodName := ⟨RX7, "mark", "(II)I"⟩
abbrev cX7_keep : ByteArray := prog_9_method_49_code
def yX7_keep : MethodName := ⟨RX7, "keep", "(I)I"⟩
abbrev cX7_back : ByteArray := prog_9_method_50_code
def yX7_back : MethodName := ⟨RX7, "back", "(I)I"⟩
abbrev cX7_count : ByteArray := prog_9_method_51_code
def yX7_count : MethodName := ⟨RX7, "count", "(I)I"⟩
abbrev cX7_trace : ByteArray := prog_9_method_52_code
def yX7_trace : MethodName := ⟨RX7, "trace", "()J"⟩
def RJ6 : String := "java/lang/Integer"
abbrev cJ6_bitCount_0f7a4 : ByteArray := prog_10_method_49_code
def yJ6_bitCount_0f7a4 : MethodName := ⟨RJ6, "bitCount", "(I)I"⟩
def RJ9 : String := "java/lang/Math"
abbrev cJ9_min_7cf53 : ByteArray := prog_11_method_69_code
def yJ9_min_7cf53 : MethodName := ⟨RJ9, "min", "(II)I"⟩
def RJ10 : String := "java/lang/System"
def RJ7 : String := "java/util/Arrays"
abbrev cJ7_fill_53178 : ByteArray := prog_13_method_103_code
def yJ7_fill_53178 : MethodName := ⟨RJ7, "fill", "([II)V"⟩
def RL : String := "HermitDuesLaw"
abbrev cL_law : ByteArray := code
def yL_law : MethodName := ⟨RL, "law", "([I)Z"⟩
