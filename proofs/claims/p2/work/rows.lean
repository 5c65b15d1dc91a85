section
-- ===== PART A: goes FIRST, ahead of the names: the tables' words, and 'selects' of the private methods out of them =====
/-- a private method of a class that the tables say can be made, by its rows of tables_1 -/
def lw_okq (q : MethodName × Nat) : Prop := (q.1.cls ≠ "java/lang/invoke/MethodHandle" ∧ q.1.cls ≠ "java/lang/invoke/VarHandle") ∧ Cond.instantiable q.1.cls q.2 ∈ tables_1 ∧ Cond.privateMethod q.1 ∈ tables_1 ∧ Cond.instanceMethod q.1 ∈ tables_1
theorem lw_p0 : lw_okq (⟨"CalmLines$Board", "penaltyAt", "(II)I"⟩, 12) := ⟨⟨by decide +kernel, by decide +kernel⟩, List.mem_of_getElem? (i := 78) (by decide +kernel), List.mem_of_getElem? (i := 269) (by decide +kernel), List.mem_of_getElem? (i := 270) (by decide +kernel)⟩
theorem lw_p1 : lw_okq (⟨"CalmLines", "penaltyAfter", "(II)I"⟩, 7) := ⟨⟨by decide +kernel, by decide +kernel⟩, List.mem_of_getElem? (i := 12) (by decide +kernel), List.mem_of_getElem? (i := 302) (by decide +kernel), List.mem_of_getElem? (i := 303) (by decide +kernel)⟩
theorem lw_p2 : lw_okq (⟨"CalmLines", "happen", "(II)Z"⟩, 7) := ⟨⟨by decide +kernel, by decide +kernel⟩, List.mem_of_getElem? (i := 12) (by decide +kernel), List.mem_of_getElem? (i := 306) (by decide +kernel), List.mem_of_getElem? (i := 307) (by decide +kernel)⟩
theorem lw_p3 : lw_okq (⟨"CalmLines$Board", "settle", "(II)V"⟩, 12) := ⟨⟨by decide +kernel, by decide +kernel⟩, List.mem_of_getElem? (i := 78) (by decide +kernel), List.mem_of_getElem? (i := 322) (by decide +kernel), List.mem_of_getElem? (i := 323) (by decide +kernel)⟩
theorem lw_p4 : lw_okq (⟨"CalmLines$Board", "openingTick", "(II)I"⟩, 12) := ⟨⟨by decide +kernel, by decide +kernel⟩, List.mem_of_getElem? (i := 78) (by decide +kernel), List.mem_of_getElem? (i := 326) (by decide +kernel), List.mem_of_getElem? (i := 327) (by decide +kernel)⟩
theorem lw_p5 : lw_okq (⟨"CalmLines$Board", "firstOf", "(I)I"⟩, 12) := ⟨⟨by decide +kernel, by decide +kernel⟩, List.mem_of_getElem? (i := 78) (by decide +kernel), List.mem_of_getElem? (i := 340) (by decide +kernel), List.mem_of_getElem? (i := 341) (by decide +kernel)⟩
theorem lw_p6 : lw_okq (⟨"CalmLines$Board", "endOf", "(I)I"⟩, 12) := ⟨⟨by decide +kernel, by decide +kernel⟩, List.mem_of_getElem? (i := 78) (by decide +kernel), List.mem_of_getElem? (i := 344) (by decide +kernel), List.mem_of_getElem? (i := 345) (by decide +kernel)⟩
theorem lw_p7 : lw_okq (⟨"CalmLines$Board", "lookAt", "(I)V"⟩, 12) := ⟨⟨by decide +kernel, by decide +kernel⟩, List.mem_of_getElem? (i := 78) (by decide +kernel), List.mem_of_getElem? (i := 352) (by decide +kernel), List.mem_of_getElem? (i := 353) (by decide +kernel)⟩
theorem lw_p8 : lw_okq (⟨"CalmLines$Board", "weightOf", "(III)I"⟩, 12) := ⟨⟨by decide +kernel, by decide +kernel⟩, List.mem_of_getElem? (i := 78) (by decide +kernel), List.mem_of_getElem? (i := 356) (by decide +kernel), List.mem_of_getElem? (i := 357) (by decide +kernel)⟩
theorem lw_p9 : lw_okq (⟨"CalmLines$Replay", "metLines", "(I)I"⟩, 7) := ⟨⟨by decide +kernel, by decide +kernel⟩, List.mem_of_getElem? (i := 127) (by decide +kernel), List.mem_of_getElem? (i := 488) (by decide +kernel), List.mem_of_getElem? (i := 489) (by decide +kernel)⟩
theorem lw_p10 : lw_okq (⟨"CalmLines$Replay", "keep", "(I)V"⟩, 7) := ⟨⟨by decide +kernel, by decide +kernel⟩, List.mem_of_getElem? (i := 127) (by decide +kernel), List.mem_of_getElem? (i := 495) (by decide +kernel), List.mem_of_getElem? (i := 496) (by decide +kernel)⟩
theorem lw_p11 : lw_okq (⟨"CalmLines$Replay", "conflict", "()I"⟩, 7) := ⟨⟨by decide +kernel, by decide +kernel⟩, List.mem_of_getElem? (i := 127) (by decide +kernel), List.mem_of_getElem? (i := 503) (by decide +kernel), List.mem_of_getElem? (i := 504) (by decide +kernel)⟩
theorem lw_p12 : lw_okq (⟨"CalmLines$Replay", "canMeet", "(II)Z"⟩, 7) := ⟨⟨by decide +kernel, by decide +kernel⟩, List.mem_of_getElem? (i := 127) (by decide +kernel), List.mem_of_getElem? (i := 507) (by decide +kernel), List.mem_of_getElem? (i := 508) (by decide +kernel)⟩
theorem lw_p13 : lw_okq (⟨"CalmLines$Net", "findOwn", "(I)V"⟩, 11) := ⟨⟨by decide +kernel, by decide +kernel⟩, List.mem_of_getElem? (i := 159) (by decide +kernel), List.mem_of_getElem? (i := 548) (by decide +kernel), List.mem_of_getElem? (i := 549) (by decide +kernel)⟩
theorem lw_p14 : lw_okq (⟨"CalmLines$Net", "goalRow", "()I"⟩, 11) := ⟨⟨by decide +kernel, by decide +kernel⟩, List.mem_of_getElem? (i := 159) (by decide +kernel), List.mem_of_getElem? (i := 552) (by decide +kernel), List.mem_of_getElem? (i := 553) (by decide +kernel)⟩
theorem lw_p15 : lw_okq (⟨"CalmLines$Net", "shortestRow", "(I)I"⟩, 11) := ⟨⟨by decide +kernel, by decide +kernel⟩, List.mem_of_getElem? (i := 159) (by decide +kernel), List.mem_of_getElem? (i := 556) (by decide +kernel), List.mem_of_getElem? (i := 557) (by decide +kernel)⟩
def lw_privs_1 : List (MethodName × Nat) := [(⟨"CalmLines$Board", "penaltyAt", "(II)I"⟩, 12), (⟨"CalmLines", "penaltyAfter", "(II)I"⟩, 7), (⟨"CalmLines", "happen", "(II)Z"⟩, 7), (⟨"CalmLines$Board", "settle", "(II)V"⟩, 12), (⟨"CalmLines$Board", "openingTick", "(II)I"⟩, 12), (⟨"CalmLines$Board", "firstOf", "(I)I"⟩, 12), (⟨"CalmLines$Board", "endOf", "(I)I"⟩, 12), (⟨"CalmLines$Board", "lookAt", "(I)V"⟩, 12), (⟨"CalmLines$Board", "weightOf", "(III)I"⟩, 12), (⟨"CalmLines$Replay", "metLines", "(I)I"⟩, 7), (⟨"CalmLines$Replay", "keep", "(I)V"⟩, 7), (⟨"CalmLines$Replay", "conflict", "()I"⟩, 7), (⟨"CalmLines$Replay", "canMeet", "(II)Z"⟩, 7), (⟨"CalmLines$Net", "findOwn", "(I)V"⟩, 11), (⟨"CalmLines$Net", "goalRow", "()I"⟩, 11), (⟨"CalmLines$Net", "shortestRow", "(I)I"⟩, 11)]
theorem lw_r1 : ∀ q ∈ lw_privs_1, lw_okq q := List.forall_mem_cons.mpr ⟨lw_p0, List.forall_mem_cons.mpr ⟨lw_p1, List.forall_mem_cons.mpr ⟨lw_p2, List.forall_mem_cons.mpr ⟨lw_p3, List.forall_mem_cons.mpr ⟨lw_p4, List.forall_mem_cons.mpr ⟨lw_p5, List.forall_mem_cons.mpr ⟨lw_p6, List.forall_mem_cons.mpr ⟨lw_p7, List.forall_mem_cons.mpr ⟨lw_p8, List.forall_mem_cons.mpr ⟨lw_p9, List.forall_mem_cons.mpr ⟨lw_p10, List.forall_mem_cons.mpr ⟨lw_p11, List.forall_mem_cons.mpr ⟨lw_p12, List.forall_mem_cons.mpr ⟨lw_p13, List.forall_mem_cons.mpr ⟨lw_p14, List.forall_mem_cons.mpr ⟨lw_p15, fun _ h => absurd h List.not_mem_nil⟩⟩⟩⟩⟩⟩⟩⟩⟩⟩⟩⟩⟩⟩⟩⟩
theorem lw_p16 : lw_okq (⟨"CalmLines$Net", "send", "(II)V"⟩, 11) := ⟨⟨by decide +kernel, by decide +kernel⟩, List.mem_of_getElem? (i := 159) (by decide +kernel), List.mem_of_getElem? (i := 566) (by decide +kernel), List.mem_of_getElem? (i := 567) (by decide +kernel)⟩
theorem lw_p17 : lw_okq (⟨"CalmLinesModel", "takesMarks", "()V"⟩, 37) := ⟨⟨by decide +kernel, by decide +kernel⟩, List.mem_of_getElem? (i := 623) (by decide +kernel), List.mem_of_getElem? (i := 630) (by decide +kernel), List.mem_of_getElem? (i := 631) (by decide +kernel)⟩
theorem lw_p18 : lw_okq (⟨"CalmLinesModel", "begins", "(II)V"⟩, 37) := ⟨⟨by decide +kernel, by decide +kernel⟩, List.mem_of_getElem? (i := 623) (by decide +kernel), List.mem_of_getElem? (i := 753) (by decide +kernel), List.mem_of_getElem? (i := 754) (by decide +kernel)⟩
theorem lw_p19 : lw_okq (⟨"CalmLinesModel", "isSeen", "(II)Z"⟩, 37) := ⟨⟨by decide +kernel, by decide +kernel⟩, List.mem_of_getElem? (i := 623) (by decide +kernel), List.mem_of_getElem? (i := 758) (by decide +kernel), List.mem_of_getElem? (i := 759) (by decide +kernel)⟩
theorem lw_p20 : lw_okq (⟨"CalmLinesModel", "bearer", "(II)I"⟩, 37) := ⟨⟨by decide +kernel, by decide +kernel⟩, List.mem_of_getElem? (i := 623) (by decide +kernel), List.mem_of_getElem? (i := 762) (by decide +kernel), List.mem_of_getElem? (i := 763) (by decide +kernel)⟩
theorem lw_p21 : lw_okq (⟨"CalmLinesModel", "fades", "(II)I"⟩, 37) := ⟨⟨by decide +kernel, by decide +kernel⟩, List.mem_of_getElem? (i := 623) (by decide +kernel), List.mem_of_getElem? (i := 777) (by decide +kernel), List.mem_of_getElem? (i := 778) (by decide +kernel)⟩
theorem lw_p22 : lw_okq (⟨"CalmLinesModel", "isLine", "(I)Z"⟩, 37) := ⟨⟨by decide +kernel, by decide +kernel⟩, List.mem_of_getElem? (i := 623) (by decide +kernel), List.mem_of_getElem? (i := 789) (by decide +kernel), List.mem_of_getElem? (i := 790) (by decide +kernel)⟩
theorem lw_p23 : lw_okq (⟨"CalmLinesModel", "logs", "(II)V"⟩, 37) := ⟨⟨by decide +kernel, by decide +kernel⟩, List.mem_of_getElem? (i := 623) (by decide +kernel), List.mem_of_getElem? (i := 793) (by decide +kernel), List.mem_of_getElem? (i := 794) (by decide +kernel)⟩
theorem lw_p24 : lw_okq (⟨"CalmLinesModel", "happens", "(III)V"⟩, 37) := ⟨⟨by decide +kernel, by decide +kernel⟩, List.mem_of_getElem? (i := 623) (by decide +kernel), List.mem_of_getElem? (i := 797) (by decide +kernel), List.mem_of_getElem? (i := 798) (by decide +kernel)⟩
theorem lw_p25 : lw_okq (⟨"CalmLinesModel", "penaltyNow", "(II)I"⟩, 37) := ⟨⟨by decide +kernel, by decide +kernel⟩, List.mem_of_getElem? (i := 623) (by decide +kernel), List.mem_of_getElem? (i := 801) (by decide +kernel), List.mem_of_getElem? (i := 802) (by decide +kernel)⟩
theorem lw_p26 : lw_okq (⟨"CalmLinesModel", "looks", "(I)V"⟩, 37) := ⟨⟨by decide +kernel, by decide +kernel⟩, List.mem_of_getElem? (i := 623) (by decide +kernel), List.mem_of_getElem? (i := 805) (by decide +kernel), List.mem_of_getElem? (i := 806) (by decide +kernel)⟩
theorem lw_p27 : lw_okq (⟨"CalmLinesModel", "ticks", "(I)V"⟩, 37) := ⟨⟨by decide +kernel, by decide +kernel⟩, List.mem_of_getElem? (i := 623) (by decide +kernel), List.mem_of_getElem? (i := 817) (by decide +kernel), List.mem_of_getElem? (i := 818) (by decide +kernel)⟩
theorem lw_p28 : lw_okq (⟨"CalmLinesModel", "aboutOf", "(II)I"⟩, 37) := ⟨⟨by decide +kernel, by decide +kernel⟩, List.mem_of_getElem? (i := 623) (by decide +kernel), List.mem_of_getElem? (i := 825) (by decide +kernel), List.mem_of_getElem? (i := 826) (by decide +kernel)⟩
theorem lw_p29 : lw_okq (⟨"CalmLinesModel", "opensIn", "(I)I"⟩, 37) := ⟨⟨by decide +kernel, by decide +kernel⟩, List.mem_of_getElem? (i := 623) (by decide +kernel), List.mem_of_getElem? (i := 829) (by decide +kernel), List.mem_of_getElem? (i := 830) (by decide +kernel)⟩
theorem lw_p30 : lw_okq (⟨"CalmLinesModel", "goesOver", "(II)V"⟩, 37) := ⟨⟨by decide +kernel, by decide +kernel⟩, List.mem_of_getElem? (i := 623) (by decide +kernel), List.mem_of_getElem? (i := 845) (by decide +kernel), List.mem_of_getElem? (i := 846) (by decide +kernel)⟩
theorem lw_p31 : lw_okq (⟨"CalmLinesModel", "goesTo", "(I)V"⟩, 37) := ⟨⟨by decide +kernel, by decide +kernel⟩, List.mem_of_getElem? (i := 623) (by decide +kernel), List.mem_of_getElem? (i := 849) (by decide +kernel), List.mem_of_getElem? (i := 850) (by decide +kernel)⟩
def lw_privs_2 : List (MethodName × Nat) := [(⟨"CalmLines$Net", "send", "(II)V"⟩, 11), (⟨"CalmLinesModel", "takesMarks", "()V"⟩, 37), (⟨"CalmLinesModel", "begins", "(II)V"⟩, 37), (⟨"CalmLinesModel", "isSeen", "(II)Z"⟩, 37), (⟨"CalmLinesModel", "bearer", "(II)I"⟩, 37), (⟨"CalmLinesModel", "fades", "(II)I"⟩, 37), (⟨"CalmLinesModel", "isLine", "(I)Z"⟩, 37), (⟨"CalmLinesModel", "logs", "(II)V"⟩, 37), (⟨"CalmLinesModel", "happens", "(III)V"⟩, 37), (⟨"CalmLinesModel", "penaltyNow", "(II)I"⟩, 37), (⟨"CalmLinesModel", "looks", "(I)V"⟩, 37), (⟨"CalmLinesModel", "ticks", "(I)V"⟩, 37), (⟨"CalmLinesModel", "aboutOf", "(II)I"⟩, 37), (⟨"CalmLinesModel", "opensIn", "(I)I"⟩, 37), (⟨"CalmLinesModel", "goesOver", "(II)V"⟩, 37), (⟨"CalmLinesModel", "goesTo", "(I)V"⟩, 37)]
theorem lw_r2 : ∀ q ∈ lw_privs_2, lw_okq q := List.forall_mem_cons.mpr ⟨lw_p16, List.forall_mem_cons.mpr ⟨lw_p17, List.forall_mem_cons.mpr ⟨lw_p18, List.forall_mem_cons.mpr ⟨lw_p19, List.forall_mem_cons.mpr ⟨lw_p20, List.forall_mem_cons.mpr ⟨lw_p21, List.forall_mem_cons.mpr ⟨lw_p22, List.forall_mem_cons.mpr ⟨lw_p23, List.forall_mem_cons.mpr ⟨lw_p24, List.forall_mem_cons.mpr ⟨lw_p25, List.forall_mem_cons.mpr ⟨lw_p26, List.forall_mem_cons.mpr ⟨lw_p27, List.forall_mem_cons.mpr ⟨lw_p28, List.forall_mem_cons.mpr ⟨lw_p29, List.forall_mem_cons.mpr ⟨lw_p30, List.forall_mem_cons.mpr ⟨lw_p31, fun _ h => absurd h List.not_mem_nil⟩⟩⟩⟩⟩⟩⟩⟩⟩⟩⟩⟩⟩⟩⟩⟩
theorem lw_p32 : lw_okq (⟨"CalmLinesModel", "isSomeShut", "()Z"⟩, 37) := ⟨⟨by decide +kernel, by decide +kernel⟩, List.mem_of_getElem? (i := 623) (by decide +kernel), List.mem_of_getElem? (i := 853) (by decide +kernel), List.mem_of_getElem? (i := 854) (by decide +kernel)⟩
theorem lw_p33 : lw_okq (⟨"CalmLinesModel", "triesMarks", "(I)V"⟩, 37) := ⟨⟨by decide +kernel, by decide +kernel⟩, List.mem_of_getElem? (i := 623) (by decide +kernel), List.mem_of_getElem? (i := 865) (by decide +kernel), List.mem_of_getElem? (i := 866) (by decide +kernel)⟩
theorem lw_p34 : lw_okq (⟨"CalmLinesModel", "firstOfAll", "()I"⟩, 37) := ⟨⟨by decide +kernel, by decide +kernel⟩, List.mem_of_getElem? (i := 623) (by decide +kernel), List.mem_of_getElem? (i := 869) (by decide +kernel), List.mem_of_getElem? (i := 870) (by decide +kernel)⟩
theorem lw_p35 : lw_okq (⟨"CalmLinesModel", "isRightBy", "(II)Z"⟩, 37) := ⟨⟨by decide +kernel, by decide +kernel⟩, List.mem_of_getElem? (i := 623) (by decide +kernel), List.mem_of_getElem? (i := 873) (by decide +kernel), List.mem_of_getElem? (i := 874) (by decide +kernel)⟩
theorem lw_p36 : lw_okq (⟨"CalmLinesModel", "whoForbids", "()I"⟩, 37) := ⟨⟨by decide +kernel, by decide +kernel⟩, List.mem_of_getElem? (i := 623) (by decide +kernel), List.mem_of_getElem? (i := 877) (by decide +kernel), List.mem_of_getElem? (i := 878) (by decide +kernel)⟩
theorem lw_p37 : lw_okq (⟨"CalmLinesModel", "common", "(II)I"⟩, 37) := ⟨⟨by decide +kernel, by decide +kernel⟩, List.mem_of_getElem? (i := 623) (by decide +kernel), List.mem_of_getElem? (i := 881) (by decide +kernel), List.mem_of_getElem? (i := 882) (by decide +kernel)⟩
theorem lw_p38 : lw_okq (⟨"CalmLinesModel", "findsAnew", "(IZ)V"⟩, 37) := ⟨⟨by decide +kernel, by decide +kernel⟩, List.mem_of_getElem? (i := 623) (by decide +kernel), List.mem_of_getElem? (i := 900) (by decide +kernel), List.mem_of_getElem? (i := 901) (by decide +kernel)⟩
theorem lw_p39 : lw_okq (⟨"CalmLinesModel", "findOwn", "(IZ)V"⟩, 37) := ⟨⟨by decide +kernel, by decide +kernel⟩, List.mem_of_getElem? (i := 623) (by decide +kernel), List.mem_of_getElem? (i := 904) (by decide +kernel), List.mem_of_getElem? (i := 905) (by decide +kernel)⟩
theorem lw_p40 : lw_okq (⟨"CalmLinesModel", "holds", "(II)Z"⟩, 37) := ⟨⟨by decide +kernel, by decide +kernel⟩, List.mem_of_getElem? (i := 623) (by decide +kernel), List.mem_of_getElem? (i := 908) (by decide +kernel), List.mem_of_getElem? (i := 909) (by decide +kernel)⟩
theorem lw_p41 : lw_okq (⟨"CalmLinesModel", "comes", "(IZ)V"⟩, 37) := ⟨⟨by decide +kernel, by decide +kernel⟩, List.mem_of_getElem? (i := 623) (by decide +kernel), List.mem_of_getElem? (i := 912) (by decide +kernel), List.mem_of_getElem? (i := 913) (by decide +kernel)⟩
def lw_privs_3 : List (MethodName × Nat) := [(⟨"CalmLinesModel", "isSomeShut", "()Z"⟩, 37), (⟨"CalmLinesModel", "triesMarks", "(I)V"⟩, 37), (⟨"CalmLinesModel", "firstOfAll", "()I"⟩, 37), (⟨"CalmLinesModel", "isRightBy", "(II)Z"⟩, 37), (⟨"CalmLinesModel", "whoForbids", "()I"⟩, 37), (⟨"CalmLinesModel", "common", "(II)I"⟩, 37), (⟨"CalmLinesModel", "findsAnew", "(IZ)V"⟩, 37), (⟨"CalmLinesModel", "findOwn", "(IZ)V"⟩, 37), (⟨"CalmLinesModel", "holds", "(II)Z"⟩, 37), (⟨"CalmLinesModel", "comes", "(IZ)V"⟩, 37)]
theorem lw_r3 : ∀ q ∈ lw_privs_3, lw_okq q := List.forall_mem_cons.mpr ⟨lw_p32, List.forall_mem_cons.mpr ⟨lw_p33, List.forall_mem_cons.mpr ⟨lw_p34, List.forall_mem_cons.mpr ⟨lw_p35, List.forall_mem_cons.mpr ⟨lw_p36, List.forall_mem_cons.mpr ⟨lw_p37, List.forall_mem_cons.mpr ⟨lw_p38, List.forall_mem_cons.mpr ⟨lw_p39, List.forall_mem_cons.mpr ⟨lw_p40, List.forall_mem_cons.mpr ⟨lw_p41, fun _ h => absurd h List.not_mem_nil⟩⟩⟩⟩⟩⟩⟩⟩⟩⟩
def lw_privs : List (MethodName × Nat) := lw_privs_1 ++ (lw_privs_2 ++ (lw_privs_3))
def lw_tbl : List Cond := k2_sels lw_privs ++ tables_1
theorem lw_privs_ok : ∀ q ∈ lw_privs, lw_okq q := by
  show ∀ q ∈ lw_privs_1 ++ (lw_privs_2 ++ (lw_privs_3)), lw_okq q
  exact List.forall_mem_append.mpr ⟨lw_r1, List.forall_mem_append.mpr ⟨lw_r2, lw_r3⟩⟩
-- ===== end of PART A; then your names; then what follows =====
end
section
def RX0 : String := "CalmLines$Board"
def TX0 : u_T := fun k => match k with
  | 0 => ("CalmLines$Board", "rules", "LCalmLines$Rules;", true)
  | 1 => ("CalmLines$Board", "roster", "LCalmLines$Roster;", true)
  | 2 => ("CalmLines$Board", "penalty", "[I", true)
  | 3 => ("CalmLines$Board", "since", "[I", true)
  | 4 => ("CalmLines$Board", "settled", "[I", true)
  | 5 => ("CalmLines$Board", "shut", "[Z", true)
  | 6 => ("CalmLines$Board", "up", "[Z", true)
  | 7 => ("CalmLines$Board", "seen", "[Z", true)
  | 8 => ("CalmLines$Board", "flips", "[I", true)
  | 9 => ("CalmLines$Board", "lost", "[I", true)
  | 10 => ("CalmLines$Board", "lastEvent", "[I", true)
  | _ => ("CalmLines$Board", "everShut", "Z", false)
def tyX0 : Nat → FieldType := fun k => match k with
  | 0 => .object "CalmLines$Rules"
  | 1 => .object "CalmLines$Roster"
  | 2 => .array .int
  | 3 => .array .int
  | 4 => .array .int
  | 5 => .array .boolean
  | 6 => .array .boolean
  | 7 => .array .boolean
  | 8 => .array .int
  | 9 => .array .int
  | 10 => .array .int
  | _ => .boolean
abbrev wsX00 : List Cond := u_ws RX0 TX0 12
theorem nmX0 : ∀ a, a < 12 → ∀ b, b < 12 → a ≠ b → (TX0 a).2.1 ≠ (TX0 b).2.1 := by decide +kernel
theorem tyX0_ok : ∀ k, k < 12 → parseFieldDescriptor (TX0 k).2.2.1 = some (tyX0 k) := by decide +kernel
abbrev cX0_init : ByteArray := prog_2_method_1_code
def yX0_init : MethodName := ⟨RX0, "<init>", "(LCalmLines$Rules;LCalmLines$Roster;)V"⟩
abbrev cX0_restart : ByteArray := prog_2_method_2_code
def yX0_restart : MethodName := ⟨RX0, "restart", "()V"⟩
abbrev cX0_join : ByteArray := prog_2_method_3_code
def yX0_join : MethodName := ⟨RX0, "join", "(I)V"⟩
abbrev cX0_isUp : ByteArray := prog_2_method_4_code
def yX0_isUp : MethodName := ⟨RX0, "isUp", "(I)Z"⟩
abbrev cX0_isShut : ByteArray := prog_2_method_5_code
def yX0_isShut : MethodName := ⟨RX0, "isShut", "(I)Z"⟩
abbrev cX0_isSeen : ByteArray := prog_2_method_6_code
def yX0_isSeen : MethodName := ⟨RX0, "isSeen", "(I)Z"⟩
abbrev cX0_flipsOf : ByteArray := prog_2_method_7_code
def yX0_flipsOf : MethodName := ⟨RX0, "flipsOf", "(I)I"⟩
abbrev cX0_lostOf : ByteArray := prog_2_method_8_code
def yX0_lostOf : MethodName := ⟨RX0, "lostOf", "(I)I"⟩
abbrev cX0_wasEverShut : ByteArray := prog_2_method_9_code
def yX0_wasEverShut : MethodName := ⟨RX0, "wasEverShut", "()Z"⟩
abbrev cX0_shutLines : ByteArray := prog_2_method_10_code
def yX0_shutLines : MethodName := ⟨RX0, "shutLines", "()I"⟩
abbrev cX0_penaltyOf : ByteArray := prog_2_method_11_code
def yX0_penaltyOf : MethodName := ⟨RX0, "penaltyOf", "(II)I"⟩
abbrev cX0_penaltyAt : ByteArray := prog_2_method_12_code
def yX0_penaltyAt : MethodName := ⟨RX0, "penaltyAt", "(II)I"⟩
abbrev cX0_restPenalties : ByteArray := prog_2_method_13_code
def yX0_restPenalties : MethodName := ⟨RX0, "restPenalties", "(I)V"⟩
abbrev cX0_ticksTillOpen : ByteArray := prog_2_method_14_code
def yX0_ticksTillOpen : MethodName := ⟨RX0, "ticksTillOpen", "(II)I"⟩
abbrev cX0_openingTick : ByteArray := prog_2_method_15_code
def yX0_openingTick : MethodName := ⟨RX0, "openingTick", "(II)I"⟩
abbrev cX0_settleAll : ByteArray := prog_2_method_16_code
def yX0_settleAll : MethodName := ⟨RX0, "settleAll", "(I)V"⟩
abbrev cX0_settle : ByteArray := prog_2_method_17_code
def yX0_settle : MethodName := ⟨RX0, "settle", "(II)V"⟩
abbrev cX0_take : ByteArray := prog_2_method_18_code
def yX0_take : MethodName := ⟨RX0, "take", "(III)V"⟩
abbrev cX0_weightOf : ByteArray := prog_2_method_19_code
def yX0_weightOf : MethodName := ⟨RX0, "weightOf", "(III)I"⟩
abbrev cX0_lookAt : ByteArray := prog_2_method_20_code
def yX0_lookAt : MethodName := ⟨RX0, "lookAt", "(I)V"⟩
abbrev cX0_firstOf : ByteArray := prog_2_method_21_code
def yX0_firstOf : MethodName := ⟨RX0, "firstOf", "(I)I"⟩
abbrev cX0_endOf : ByteArray := prog_2_method_22_code
def yX0_endOf : MethodName := ⟨RX0, "endOf", "(I)I"⟩
def RX1 : String := "CalmLines$Log"
def TX1 : u_T := fun k => match k with
  | 0 => ("CalmLines$Log", "lines", "[I", true)
  | 1 => ("CalmLines$Log", "whats", "[I", true)
  | 2 => ("CalmLines$Log", "ticks", "[I", true)
  | _ => ("CalmLines$Log", "size", "I", false)
def tyX1 : Nat → FieldType := fun k => match k with
  | 0 => .array .int
  | 1 => .array .int
  | 2 => .array .int
  | _ => .int
abbrev wsX10 : List Cond := u_ws RX1 TX1 4
theorem nmX1 : ∀ a, a < 4 → ∀ b, b < 4 → a ≠ b → (TX1 a).2.1 ≠ (TX1 b).2.1 := by decide +kernel
theorem tyX1_ok : ∀ k, k < 4 → parseFieldDescriptor (TX1 k).2.2.1 = some (tyX1 k) := by decide +kernel
abbrev cX1_init : ByteArray := prog_3_method_1_code
def yX1_init : MethodName := ⟨RX1, "<init>", "()V"⟩
abbrev cX1_size : ByteArray := prog_3_method_2_code
def yX1_size : MethodName := ⟨RX1, "size", "()I"⟩
abbrev cX1_isFull : ByteArray := prog_3_method_3_code
def yX1_isFull : MethodName := ⟨RX1, "isFull", "()Z"⟩
abbrev cX1_write : ByteArray := prog_3_method_4_code
def yX1_write : MethodName := ⟨RX1, "write", "(III)V"⟩
abbrev cX1_lineAt : ByteArray := prog_3_method_5_code
def yX1_lineAt : MethodName := ⟨RX1, "lineAt", "(I)I"⟩
abbrev cX1_whatAt : ByteArray := prog_3_method_6_code
def yX1_whatAt : MethodName := ⟨RX1, "whatAt", "(I)I"⟩
abbrev cX1_tickAt : ByteArray := prog_3_method_7_code
def yX1_tickAt : MethodName := ⟨RX1, "tickAt", "(I)I"⟩
def RX2 : String := "CalmLines$Net"
def TX2 : u_T := fun k => match k with
  | 0 => ("CalmLines$Net", "wayThere", "[Z", true)
  | 1 => ("CalmLines$Net", "told", "[I", true)
  | 2 => ("CalmLines$Net", "bound", "[I", true)
  | 3 => ("CalmLines$Net", "ownRow", "[I", true)
  | 4 => ("CalmLines$Net", "echoed", "[I", true)
  | 5 => ("CalmLines$Net", "letters", "[I", true)
  | 6 => ("CalmLines$Net", "sent", "I", false)
  | 7 => ("CalmLines$Net", "taken", "I", false)
  | 8 => ("CalmLines$Net", "allTaken", "I", false)
  | 9 => ("CalmLines$Net", "wayCount", "I", false)
  | _ => ("CalmLines$Net", "goalCut", "Z", false)
def tyX2 : Nat → FieldType := fun k => match k with
  | 0 => .array .boolean
  | 1 => .array .int
  | 2 => .array .int
  | 3 => .array .int
  | 4 => .array .int
  | 5 => .array .int
  | 6 => .int
  | 7 => .int
  | 8 => .int
  | 9 => .int
  | _ => .boolean
abbrev wsX20 : List Cond := u_ws RX2 TX2 11
theorem nmX2 : ∀ a, a < 11 → ∀ b, b < 11 → a ≠ b → (TX2 a).2.1 ≠ (TX2 b).2.1 := by decide +kernel
theorem tyX2_ok : ∀ k, k < 11 → parseFieldDescriptor (TX2 k).2.2.1 = some (tyX2 k) := by decide +kernel
abbrev cX2_init : ByteArray := prog_4_method_1_code
def yX2_init : MethodName := ⟨RX2, "<init>", "()V"⟩
abbrev cX2_isHouse : ByteArray := prog_4_method_2_code
def yX2_isHouse : MethodName := ⟨RX2, "isHouse", "(I)Z"⟩
abbrev cX2_place : ByteArray := prog_4_method_3_code
def yX2_place : MethodName := ⟨RX2, "place", "(II)I"⟩
abbrev cX2_hasWay : ByteArray := prog_4_method_4_code
def yX2_hasWay : MethodName := ⟨RX2, "hasWay", "(II)Z"⟩
abbrev cX2_putWay : ByteArray := prog_4_method_5_code
def yX2_putWay : MethodName := ⟨RX2, "putWay", "(IIZ)V"⟩
abbrev cX2_ways : ByteArray := prog_4_method_6_code
def yX2_ways : MethodName := ⟨RX2, "ways", "()I"⟩
abbrev cX2_putBound : ByteArray := prog_4_method_7_code
def yX2_putBound : MethodName := ⟨RX2, "putBound", "(III)V"⟩
abbrev cX2_echoesOf : ByteArray := prog_4_method_8_code
def yX2_echoesOf : MethodName := ⟨RX2, "echoesOf", "(I)I"⟩
abbrev cX2_lettersOfAll : ByteArray := prog_4_method_9_code
def yX2_lettersOfAll : MethodName := ⟨RX2, "lettersOfAll", "()I"⟩
abbrev cX2_ownAt : ByteArray := prog_4_method_10_code
def yX2_ownAt : MethodName := ⟨RX2, "ownAt", "(II)I"⟩
abbrev cX2_startFlood : ByteArray := prog_4_method_11_code
def yX2_startFlood : MethodName := ⟨RX2, "startFlood", "(Z)V"⟩
abbrev cX2_hasLetter : ByteArray := prog_4_method_12_code
def yX2_hasLetter : MethodName := ⟨RX2, "hasLetter", "()Z"⟩
abbrev cX2_takeLetter : ByteArray := prog_4_method_13_code
def yX2_takeLetter : MethodName := ⟨RX2, "takeLetter", "()I"⟩
abbrev cX2_findOwn : ByteArray := prog_4_method_14_code
def yX2_findOwn : MethodName := ⟨RX2, "findOwn", "(I)V"⟩
abbrev cX2_goalRow : ByteArray := prog_4_method_15_code
def yX2_goalRow : MethodName := ⟨RX2, "goalRow", "()I"⟩
abbrev cX2_shortestRow : ByteArray := prog_4_method_16_code
def yX2_shortestRow : MethodName := ⟨RX2, "shortestRow", "(I)I"⟩
abbrev cX2_holds : ByteArray := prog_4_method_17_code
def yX2_holds : MethodName := ⟨RX2, "holds", "(II)Z"⟩
abbrev cX2_lengthOf : ByteArray := prog_4_method_18_code
def yX2_lengthOf : MethodName := ⟨RX2, "lengthOf", "(I)I"⟩
abbrev cX2_send : ByteArray := prog_4_method_19_code
def yX2_send : MethodName := ⟨RX2, "send", "(II)V"⟩
def RX3 : String := "CalmLines$Replay"
def TX3 : u_T := fun k => match k with
  | 0 => ("CalmLines$Replay", "rules", "LCalmLines$Rules;", true)
  | 1 => ("CalmLines$Replay", "roster", "LCalmLines$Roster;", true)
  | 2 => ("CalmLines$Replay", "log", "LCalmLines$Log;", true)
  | 3 => ("CalmLines$Replay", "trialRules", "LCalmLines$Rules;", true)
  | 4 => ("CalmLines$Replay", "board", "LCalmLines$Board;", true)
  | 5 => ("CalmLines$Replay", "metBy", "[I", true)
  | _ => ("CalmLines$Replay", "tried", "I", false)
def tyX3 : Nat → FieldType := fun k => match k with
  | 0 => .object "CalmLines$Rules"
  | 1 => .object "CalmLines$Roster"
  | 2 => .object "CalmLines$Log"
  | 3 => .object "CalmLines$Rules"
  | 4 => .object "CalmLines$Board"
  | 5 => .array .int
  | _ => .int
abbrev wsX30 : List Cond := u_ws RX3 TX3 7
theorem nmX3 : ∀ a, a < 7 → ∀ b, b < 7 → a ≠ b → (TX3 a).2.1 ≠ (TX3 b).2.1 := by decide +kernel
theorem tyX3_ok : ∀ k, k < 7 → parseFieldDescriptor (TX3 k).2.2.1 = some (tyX3 k) := by decide +kernel
abbrev cX3_init : ByteArray := prog_5_method_1_code
def yX3_init : MethodName := ⟨RX3, "<init>", "(LCalmLines$Rules;LCalmLines$Roster;LCalmLines$Log;)V"⟩
abbrev cX3_goOver : ByteArray := prog_5_method_2_code
def yX3_goOver : MethodName := ⟨RX3, "goOver", "(III)V"⟩
abbrev cX3_flipsOf : ByteArray := prog_5_method_3_code
def yX3_flipsOf : MethodName := ⟨RX3, "flipsOf", "(I)I"⟩
abbrev cX3_lostOf : ByteArray := prog_5_method_4_code
def yX3_lostOf : MethodName := ⟨RX3, "lostOf", "(I)I"⟩
abbrev cX3_findMarks : ByteArray := prog_5_method_5_code
def yX3_findMarks : MethodName := ⟨RX3, "findMarks", "(II)I"⟩
abbrev cX3_keep : ByteArray := prog_5_method_6_code
def yX3_keep : MethodName := ⟨RX3, "keep", "(I)V"⟩
abbrev cX3_metLines : ByteArray := prog_5_method_7_code
def yX3_metLines : MethodName := ⟨RX3, "metLines", "(I)I"⟩
abbrev cX3_conflict : ByteArray := prog_5_method_8_code
def yX3_conflict : MethodName := ⟨RX3, "conflict", "()I"⟩
abbrev cX3_canMeet : ByteArray := prog_5_method_9_code
def yX3_canMeet : MethodName := ⟨RX3, "canMeet", "(II)Z"⟩
abbrev cX3_told : ByteArray := prog_5_method_10_code
def yX3_told : MethodName := ⟨RX3, "told", "(II)I"⟩
def RX4 : String := "CalmLines$Roster"
def TX4 : u_T := fun k => match k with
  | 0 => ("CalmLines$Roster", "kinds", "[I", true)
  | 1 => ("CalmLines$Roster", "slots", "[I", true)
  | 2 => ("CalmLines$Roster", "lineMarks", "[I", true)
  | _ => ("CalmLines$Roster", "size", "I", false)
def tyX4 : Nat → FieldType := fun k => match k with
  | 0 => .array .int
  | 1 => .array .int
  | 2 => .array .int
  | _ => .int
abbrev wsX40 : List Cond := u_ws RX4 TX4 4
theorem nmX4 : ∀ a, a < 4 → ∀ b, b < 4 → a ≠ b → (TX4 a).2.1 ≠ (TX4 b).2.1 := by decide +kernel
theorem tyX4_ok : ∀ k, k < 4 → parseFieldDescriptor (TX4 k).2.2.1 = some (tyX4 k) := by decide +kernel
abbrev cX4_init : ByteArray := prog_6_method_1_code
def yX4_init : MethodName := ⟨RX4, "<init>", "()V"⟩
abbrev cX4_size : ByteArray := prog_6_method_2_code
def yX4_size : MethodName := ⟨RX4, "size", "()I"⟩
abbrev cX4_isFull : ByteArray := prog_6_method_3_code
def yX4_isFull : MethodName := ⟨RX4, "isFull", "()Z"⟩
abbrev cX4_has : ByteArray := prog_6_method_4_code
def yX4_has : MethodName := ⟨RX4, "has", "(I)Z"⟩
abbrev cX4_enter : ByteArray := prog_6_method_5_code
def yX4_enter : MethodName := ⟨RX4, "enter", "(II)I"⟩
abbrev cX4_kindOf : ByteArray := prog_6_method_6_code
def yX4_kindOf : MethodName := ⟨RX4, "kindOf", "(I)I"⟩
abbrev cX4_slotOf : ByteArray := prog_6_method_7_code
def yX4_slotOf : MethodName := ⟨RX4, "slotOf", "(I)I"⟩
abbrev cX4_markOf : ByteArray := prog_6_method_8_code
def yX4_markOf : MethodName := ⟨RX4, "markOf", "(I)I"⟩
abbrev cX4_putMark : ByteArray := prog_6_method_9_code
def yX4_putMark : MethodName := ⟨RX4, "putMark", "(II)I"⟩
abbrev cX4_markedLines : ByteArray := prog_6_method_10_code
def yX4_markedLines : MethodName := ⟨RX4, "markedLines", "()I"⟩
def RX5 : String := "CalmLines$Rules"
def TX5 : u_T := fun k => match k with
  | _ => ("CalmLines$Rules", "values", "[I", true)
def tyX5 : Nat → FieldType := fun k => match k with
  | _ => .array .int
abbrev wsX50 : List Cond := u_ws RX5 TX5 1
theorem nmX5 : ∀ a, a < 1 → ∀ b, b < 1 → a ≠ b → (TX5 a).2.1 ≠ (TX5 b).2.1 := by decide +kernel
theorem tyX5_ok : ∀ k, k < 1 → parseFieldDescriptor (TX5 k).2.2.1 = some (tyX5 k) := by decide +kernel
abbrev cX5_init : ByteArray := prog_7_method_1_code
def yX5_init : MethodName := ⟨RX5, "<init>", "()V"⟩
abbrev cX5_get : ByteArray := prog_7_method_2_code
def yX5_get : MethodName := ⟨RX5, "get", "(I)I"⟩
abbrev cX5_admits : ByteArray := prog_7_method_3_code
def yX5_admits : MethodName := ⟨RX5, "admits", "(II)Z"⟩
abbrev cX5_areMarks : ByteArray := prog_7_method_4_code
def yX5_areMarks : MethodName := ⟨RX5, "areMarks", "(II)Z"⟩
abbrev cX5_put : ByteArray := prog_7_method_5_code
def yX5_put : MethodName := ⟨RX5, "put", "(II)V"⟩
abbrev cX5_copyWithMarks : ByteArray := prog_7_method_6_code
def yX5_copyWithMarks : MethodName := ⟨RX5, "copyWithMarks", "(LCalmLines$Rules;II)V"⟩
abbrev cX5_fade : ByteArray := prog_7_method_7_code
def yX5_fade : MethodName := ⟨RX5, "fade", "(II)I"⟩
abbrev cX5_ticksTillBelow : ByteArray := prog_7_method_8_code
def yX5_ticksTillBelow : MethodName := ⟨RX5, "ticksTillBelow", "(II)I"⟩
def RX6 : String := "CalmLines"
def TX6 : u_T := fun k => match k with
  | 0 => ("CalmLines", "rules", "LCalmLines$Rules;", true)
  | 1 => ("CalmLines", "roster", "LCalmLines$Roster;", true)
  | 2 => ("CalmLines", "log", "LCalmLines$Log;", true)
  | 3 => ("CalmLines", "board", "LCalmLines$Board;", true)
  | 4 => ("CalmLines", "replay", "LCalmLines$Replay;", true)
  | 5 => ("CalmLines", "net", "LCalmLines$Net;", true)
  | _ => ("CalmLines", "now", "I", false)
def tyX6 : Nat → FieldType := fun k => match k with
  | 0 => .object "CalmLines$Rules"
  | 1 => .object "CalmLines$Roster"
  | 2 => .object "CalmLines$Log"
  | 3 => .object "CalmLines$Board"
  | 4 => .object "CalmLines$Replay"
  | 5 => .object "CalmLines$Net"
  | _ => .int
abbrev wsX60 : List Cond := u_ws RX6 TX6 7
theorem nmX6 : ∀ a, a < 7 → ∀ b, b < 7 → a ≠ b → (TX6 a).2.1 ≠ (TX6 b).2.1 := by decide +kernel
theorem tyX6_ok : ∀ k, k < 7 → parseFieldDescriptor (TX6 k).2.2.1 = some (tyX6 k) := by decide +kernel
abbrev cX6_init : ByteArray := prog_1_method_1_code
def yX6_init : MethodName := ⟨RX6, "<init>", "()V"⟩
abbrev cX6_line : ByteArray := prog_1_method_2_code
def yX6_line : MethodName := ⟨RX6, "line", "(II)I"⟩
abbrev cX6_rule : ByteArray := prog_1_method_3_code
def yX6_rule : MethodName := ⟨RX6, "rule", "(II)I"⟩
abbrev cX6_faded : ByteArray := prog_1_method_4_code
def yX6_faded : MethodName := ⟨RX6, "faded", "(II)I"⟩
abbrev cX6_change : ByteArray := prog_1_method_5_code
def yX6_change : MethodName := ⟨RX6, "change", "(IZ)I"⟩
abbrev cX6_echo : ByteArray := prog_1_method_6_code
def yX6_echo : MethodName := ⟨RX6, "echo", "(I)I"⟩
abbrev cX6_penaltyAfter : ByteArray := prog_1_method_7_code
def yX6_penaltyAfter : MethodName := ⟨RX6, "penaltyAfter", "(II)I"⟩
abbrev cX6_happen : ByteArray := prog_1_method_8_code
def yX6_happen : MethodName := ⟨RX6, "happen", "(II)Z"⟩
abbrev cX6_tick : ByteArray := prog_1_method_9_code
def yX6_tick : MethodName := ⟨RX6, "tick", "(I)I"⟩
abbrev cX6_about : ByteArray := prog_1_method_10_code
def yX6_about : MethodName := ⟨RX6, "about", "(II)I"⟩
abbrev cX6_asNumber : ByteArray := prog_1_method_11_code
def yX6_asNumber : MethodName := ⟨RX6, "asNumber", "(Z)I"⟩
abbrev cX6_longest : ByteArray := prog_1_method_12_code
def yX6_longest : MethodName := ⟨RX6, "longest", "()I"⟩
abbrev cX6_event : ByteArray := prog_1_method_13_code
def yX6_event : MethodName := ⟨RX6, "event", "(II)I"⟩
abbrev cX6_again : ByteArray := prog_1_method_14_code
def yX6_again : MethodName := ⟨RX6, "again", "(IIII)I"⟩
abbrev cX6_mark : ByteArray := prog_1_method_15_code
def yX6_mark : MethodName := ⟨RX6, "mark", "(II)I"⟩
abbrev cX6_marks : ByteArray := prog_1_method_16_code
def yX6_marks : MethodName := ⟨RX6, "marks", "(I)I"⟩
abbrev cX6_way : ByteArray := prog_1_method_17_code
def yX6_way : MethodName := ⟨RX6, "way", "(IIZ)I"⟩
abbrev cX6_bind : ByteArray := prog_1_method_18_code
def yX6_bind : MethodName := ⟨RX6, "bind", "(III)I"⟩
abbrev cX6_flood : ByteArray := prog_1_method_19_code
def yX6_flood : MethodName := ⟨RX6, "flood", "(Z)I"⟩
abbrev cX6_own : ByteArray := prog_1_method_20_code
def yX6_own : MethodName := ⟨RX6, "own", "(II)I"⟩
abbrev cX6_echoes : ByteArray := prog_1_method_21_code
def yX6_echoes : MethodName := ⟨RX6, "echoes", "(I)I"⟩
abbrev cX6_count : ByteArray := prog_1_method_22_code
def yX6_count : MethodName := ⟨RX6, "count", "(I)I"⟩
abbrev cX6_digest : ByteArray := prog_1_method_23_code
def yX6_digest : MethodName := ⟨RX6, "digest", "()J"⟩
def RX7 : String := "CalmLinesModel"
def TX7 : u_T := fun k => match k with
  | 0 => ("CalmLinesModel", "rule", "[I", true)
  | 1 => ("CalmLinesModel", "lines", "I", false)
  | 2 => ("CalmLinesModel", "kind", "[I", true)
  | 3 => ("CalmLinesModel", "group", "[I", true)
  | 4 => ("CalmLinesModel", "marked", "[I", true)
  | 5 => ("CalmLinesModel", "now", "[I", true)
  | 6 => ("CalmLinesModel", "shutMark", "[I", true)
  | 7 => ("CalmLinesModel", "openMark", "[I", true)
  | 8 => ("CalmLinesModel", "penalty", "[I", true)
  | 9 => ("CalmLinesModel", "since", "[I", true)
  | 10 => ("CalmLinesModel", "isShut", "[Z", true)
  | 11 => ("CalmLinesModel", "isUp", "[Z", true)
  | 12 => ("CalmLinesModel", "wasSeen", "[Z", true)
  | 13 => ("CalmLinesModel", "flips", "[I", true)
  | 14 => ("CalmLinesModel", "lost", "[I", true)
  | 15 => ("CalmLinesModel", "lastEvent", "[I", true)
  | 16 => ("CalmLinesModel", "events", "I", false)
  | 17 => ("CalmLinesModel", "eventLine", "[I", true)
  | 18 => ("CalmLinesModel", "eventWhat", "[I", true)
  | 19 => ("CalmLinesModel", "eventTick", "[I", true)
  | 20 => ("CalmLinesModel", "isRight", "[Z", true)
  | 21 => ("CalmLinesModel", "isWay", "[Z", true)
  | 22 => ("CalmLinesModel", "bound", "[I", true)
  | 23 => ("CalmLinesModel", "told", "[I", true)
  | 24 => ("CalmLinesModel", "toldLong", "[I", true)
  | 25 => ("CalmLinesModel", "own", "[I", true)
  | 26 => ("CalmLinesModel", "ownLong", "[I", true)
  | 27 => ("CalmLinesModel", "echoed", "[I", true)
  | 28 => ("CalmLinesModel", "lettersAll", "I", false)
  | 29 => ("CalmLinesModel", "found", "[I", true)
  | 30 => ("CalmLinesModel", "foundLong", "I", false)
  | 31 => ("CalmLinesModel", "letters", "I", false)
  | 32 => ("CalmLinesModel", "letterFrom", "[I", true)
  | 33 => ("CalmLinesModel", "letterTo", "[I", true)
  | 34 => ("CalmLinesModel", "letterLong", "[I", true)
  | 35 => ("CalmLinesModel", "letterRow", "[I", true)
  | _ => ("CalmLinesModel", "isTooMuch", "Z", false)
def tyX7 : Nat → FieldType := fun k => match k with
  | 0 => .array .int
  | 1 => .int
  | 2 => .array .int
  | 3 => .array .int
  | 4 => .array .int
  | 5 => .array .int
  | 6 => .array .int
  | 7 => .array .int
  | 8 => .array .int
  | 9 => .array .int
  | 10 => .array .boolean
  | 11 => .array .boolean
  | 12 => .array .boolean
  | 13 => .array .int
  | 14 => .array .int
  | 15 => .array .int
  | 16 => .int
  | 17 => .array .int
  | 18 => .array .int
  | 19 => .array .int
  | 20 => .array .boolean
  | 21 => .array .boolean
  | 22 => .array .int
  | 23 => .array .int
  | 24 => .array .int
  | 25 => .array .int
  | 26 => .array .int
  | 27 => .array .int
  | 28 => .int
  | 29 => .array .int
  | 30 => .int
  | 31 => .int
  | 32 => .array .int
  | 33 => .array .int
  | 34 => .array .int
  | 35 => .array .int
  | _ => .boolean
abbrev wsX70 : List Cond := u_ws RX7 TX7 37
theorem nmX7 : ∀ a, a < 37 → ∀ b, b < 37 → a ≠ b → (TX7 a).2.1 ≠ (TX7 b).2.1 := by decide +kernel
theorem tyX7_ok : ∀ k, k < 37 → parseFieldDescriptor (TX7 k).2.2.1 = some (tyX7 k) := by decide +kernel
abbrev cX7_in : ByteArray := prog_9_method_2_code
def yX7_in : MethodName := ⟨RX7, "in", "(III)Z"⟩
abbrev cX7_init : ByteArray := prog_9_method_3_code
def yX7_init : MethodName := ⟨RX7, "<init>", "()V"⟩
abbrev cX7_takesMarks : ByteArray := prog_9_method_4_code
def yX7_takesMarks : MethodName := ⟨RX7, "takesMarks", "()V"⟩
abbrev cX7_fades : ByteArray := prog_9_method_5_code
def yX7_fades : MethodName := ⟨RX7, "fades", "(II)I"⟩
abbrev cX7_bearer : ByteArray := prog_9_method_6_code
def yX7_bearer : MethodName := ⟨RX7, "bearer", "(II)I"⟩
abbrev cX7_penaltyNow : ByteArray := prog_9_method_7_code
def yX7_penaltyNow : MethodName := ⟨RX7, "penaltyNow", "(II)I"⟩
abbrev cX7_isSeen : ByteArray := prog_9_method_8_code
def yX7_isSeen : MethodName := ⟨RX7, "isSeen", "(II)Z"⟩
abbrev cX7_looks : ByteArray := prog_9_method_9_code
def yX7_looks : MethodName := ⟨RX7, "looks", "(I)V"⟩
abbrev cX7_begins : ByteArray := prog_9_method_10_code
def yX7_begins : MethodName := ⟨RX7, "begins", "(II)V"⟩
abbrev cX7_line : ByteArray := prog_9_method_11_code
def yX7_line : MethodName := ⟨RX7, "line", "(II)I"⟩
abbrev cX7_least : ByteArray := prog_9_method_12_code
def yX7_least : MethodName := ⟨RX7, "least", "(I)I"⟩
abbrev cX7_most : ByteArray := prog_9_method_13_code
def yX7_most : MethodName := ⟨RX7, "most", "(I)I"⟩
abbrev cX7_rule : ByteArray := prog_9_method_14_code
def yX7_rule : MethodName := ⟨RX7, "rule", "(II)I"⟩
abbrev cX7_faded : ByteArray := prog_9_method_15_code
def yX7_faded : MethodName := ⟨RX7, "faded", "(II)I"⟩
abbrev cX7_happens : ByteArray := prog_9_method_16_code
def yX7_happens : MethodName := ⟨RX7, "happens", "(III)V"⟩
abbrev cX7_logs : ByteArray := prog_9_method_17_code
def yX7_logs : MethodName := ⟨RX7, "logs", "(II)V"⟩
abbrev cX7_isLine : ByteArray := prog_9_method_18_code
def yX7_isLine : MethodName := ⟨RX7, "isLine", "(I)Z"⟩
abbrev cX7_change : ByteArray := prog_9_method_19_code
def yX7_change : MethodName := ⟨RX7, "change", "(IZ)I"⟩
abbrev cX7_echo : ByteArray := prog_9_method_20_code
def yX7_echo : MethodName := ⟨RX7, "echo", "(I)I"⟩
abbrev cX7_ticks : ByteArray := prog_9_method_21_code
def yX7_ticks : MethodName := ⟨RX7, "ticks", "(I)V"⟩
abbrev cX7_tick : ByteArray := prog_9_method_22_code
def yX7_tick : MethodName := ⟨RX7, "tick", "(I)I"⟩
abbrev cX7_opensIn : ByteArray := prog_9_method_23_code
def yX7_opensIn : MethodName := ⟨RX7, "opensIn", "(I)I"⟩
abbrev cX7_aboutOf : ByteArray := prog_9_method_24_code
def yX7_aboutOf : MethodName := ⟨RX7, "aboutOf", "(II)I"⟩
abbrev cX7_about : ByteArray := prog_9_method_25_code
def yX7_about : MethodName := ⟨RX7, "about", "(II)I"⟩
abbrev cX7_longest : ByteArray := prog_9_method_26_code
def yX7_longest : MethodName := ⟨RX7, "longest", "()I"⟩
abbrev cX7_event : ByteArray := prog_9_method_27_code
def yX7_event : MethodName := ⟨RX7, "event", "(II)I"⟩
abbrev cX7_isSomeShut : ByteArray := prog_9_method_28_code
def yX7_isSomeShut : MethodName := ⟨RX7, "isSomeShut", "()Z"⟩
abbrev cX7_goesTo : ByteArray := prog_9_method_29_code
def yX7_goesTo : MethodName := ⟨RX7, "goesTo", "(I)V"⟩
abbrev cX7_goesOver : ByteArray := prog_9_method_30_code
def yX7_goesOver : MethodName := ⟨RX7, "goesOver", "(II)V"⟩
abbrev cX7_again : ByteArray := prog_9_method_31_code
def yX7_again : MethodName := ⟨RX7, "again", "(IIII)I"⟩
abbrev cX7_mark : ByteArray := prog_9_method_32_code
def yX7_mark : MethodName := ⟨RX7, "mark", "(II)I"⟩
abbrev cX7_isRightBy : ByteArray := prog_9_method_33_code
def yX7_isRightBy : MethodName := ⟨RX7, "isRightBy", "(II)Z"⟩
abbrev cX7_triesMarks : ByteArray := prog_9_method_34_code
def yX7_triesMarks : MethodName := ⟨RX7, "triesMarks", "(I)V"⟩
abbrev cX7_common : ByteArray := prog_9_method_35_code
def yX7_common : MethodName := ⟨RX7, "common", "(II)I"⟩
abbrev cX7_firstOfAll : ByteArray := prog_9_method_36_code
def yX7_firstOfAll : MethodName := ⟨RX7, "firstOfAll", "()I"⟩
abbrev cX7_whoForbids : ByteArray := prog_9_method_37_code
def yX7_whoForbids : MethodName := ⟨RX7, "whoForbids", "()I"⟩
abbrev cX7_marks : ByteArray := prog_9_method_38_code
def yX7_marks : MethodName := ⟨RX7, "marks", "(I)I"⟩
abbrev cX7_isHouse : ByteArray := prog_9_method_39_code
def yX7_isHouse : MethodName := ⟨RX7, "isHouse", "(I)Z"⟩
abbrev cX7_way : ByteArray := prog_9_method_40_code
def yX7_way : MethodName := ⟨RX7, "way", "(IIZ)I"⟩
abbrev cX7_bind : ByteArray := prog_9_method_41_code
def yX7_bind : MethodName := ⟨RX7, "bind", "(III)I"⟩
abbrev cX7_holds : ByteArray := prog_9_method_42_code
def yX7_holds : MethodName := ⟨RX7, "holds", "(II)Z"⟩
abbrev cX7_findOwn : ByteArray := prog_9_method_43_code
def yX7_findOwn : MethodName := ⟨RX7, "findOwn", "(IZ)V"⟩
abbrev cX7_findsAnew : ByteArray := prog_9_method_44_code
def yX7_findsAnew : MethodName := ⟨RX7, "findsAnew", "(IZ)V"⟩
abbrev cX7_comes : ByteArray := prog_9_method_45_code
def yX7_comes : MethodName := ⟨RX7, "comes", "(IZ)V"⟩
abbrev cX7_flood : ByteArray := prog_9_method_46_code
def yX7_flood : MethodName := ⟨RX7, "flood", "(Z)I"⟩
abbrev cX7_own : ByteArray := prog_9_method_47_code
def yX7_own : MethodName := ⟨RX7, "own", "(II)I"⟩
abbrev cX7_echoes : ByteArray := prog_9_method_48_code
def yX7_echoes : MethodName := ⟨RX7, "echoes", "(I)I"⟩
abbrev cX7_count : ByteArray := prog_9_method_49_code
def yX7_count : MethodName := ⟨RX7, "count", "(I)I"⟩
abbrev cX7_digest : ByteArray := prog_9_method_50_code
def yX7_digest : MethodName := ⟨RX7, "digest", "()J"⟩
def RJx8e188 : String := "java/lang/Cloneable"
def RJ9 : String := "java/lang/Math"
def RJ10 : String := "java/lang/System"
def RL : String := "CalmLinesLaw"
abbrev cL_law : ByteArray := code
def yL_law : MethodName := ⟨RL, "law", "([I)Z"⟩
abbrev vwCl : List vw_C := [(RX0, TX0, 12), (RX1, TX1, 4), (RX2, TX2, 11), (RX3, TX3, 7), (RX4, TX4, 4), (RX5, TX5, 1), (RX6, TX6, 7), (RX7, TX7, 37)]
end
section
theorem dX0_init_0 : decode cX0_init 0 = .ok (.aload_n 0, 1) := by decide +kernel
theorem dX0_init_1 : decode cX0_init 1 = .ok (.invokespecial 3, 3) := by decide +kernel
theorem dX0_init_4 : decode cX0_init 4 = .ok (.aload_n 0, 1) := by decide +kernel
theorem dX0_init_5 : decode cX0_init 5 = .ok (.bipush 16, 2) := by decide +kernel
theorem dX0_init_7 : decode cX0_init 7 = .ok (.newarray .int, 2) := by decide +kernel
theorem dX0_init_9 : decode cX0_init 9 = .ok (.putfield 11, 3) := by decide +kernel
theorem dX0_init_12 : decode cX0_init 12 = .ok (.aload_n 0, 1) := by decide +kernel
theorem dX0_init_13 : decode cX0_init 13 = .ok (.bipush 16, 2) := by decide +kernel
theorem dX0_init_15 : decode cX0_init 15 = .ok (.newarray .int, 2) := by decide +kernel
theorem dX0_init_17 : decode cX0_init 17 = .ok (.putfield 17, 3) := by decide +kernel
theorem dX0_init_20 : decode cX0_init 20 = .ok (.aload_n 0, 1) := by decide +kernel
theorem dX0_init_21 : decode cX0_init 21 = .ok (.bipush 16, 2) := by decide +kernel
theorem dX0_init_23 : decode cX0_init 23 = .ok (.newarray .int, 2) := by decide +kernel
theorem dX0_init_25 : decode cX0_init 25 = .ok (.putfield 20, 3) := by decide +kernel
theorem dX0_init_28 : decode cX0_init 28 = .ok (.aload_n 0, 1) := by decide +kernel
theorem dX0_init_29 : decode cX0_init 29 = .ok (.bipush 16, 2) := by decide +kernel
theorem dX0_init_31 : decode cX0_init 31 = .ok (.newarray .boolean, 2) := by decide +kernel
theorem dX0_init_33 : decode cX0_init 33 = .ok (.putfield 23, 3) := by decide +kernel
theorem dX0_init_36 : decode cX0_init 36 = .ok (.aload_n 0, 1) := by decide +kernel
theorem dX0_init_37 : decode cX0_init 37 = .ok (.bipush 12, 2) := by decide +kernel
theorem dX0_init_39 : decode cX0_init 39 = .ok (.newarray .boolean, 2) := by decide +kernel
theorem dX0_init_41 : decode cX0_init 41 = .ok (.putfield 27, 3) := by decide +kernel
theorem dX0_init_44 : decode cX0_init 44 = .ok (.aload_n 0, 1) := by decide +kernel
theorem dX0_init_45 : decode cX0_init 45 = .ok (.bipush 12, 2) := by decide +kernel
theorem dX0_init_47 : decode cX0_init 47 = .ok (.newarray .boolean, 2) := by decide +kernel
theorem dX0_init_49 : decode cX0_init 49 = .ok (.putfield 30, 3) := by decide +kernel
theorem dX0_init_52 : decode cX0_init 52 = .ok (.aload_n 0, 1) := by decide +kernel
theorem dX0_init_53 : decode cX0_init 53 = .ok (.bipush 12, 2) := by decide +kernel
theorem dX0_init_55 : decode cX0_init 55 = .ok (.newarray .int, 2) := by decide +kernel
theorem dX0_init_57 : decode cX0_init 57 = .ok (.putfield 33, 3) := by decide +kernel
theorem dX0_init_60 : decode cX0_init 60 = .ok (.aload_n 0, 1) := by decide +kernel
theorem dX0_init_61 : decode cX0_init 61 = .ok (.bipush 12, 2) := by decide +kernel
theorem dX0_init_63 : decode cX0_init 63 = .ok (.newarray .int, 2) := by decide +kernel
theorem dX0_init_65 : decode cX0_init 65 = .ok (.putfield 36, 3) := by decide +kernel
theorem dX0_init_68 : decode cX0_init 68 = .ok (.aload_n 0, 1) := by decide +kernel
theorem dX0_init_69 : decode cX0_init 69 = .ok (.bipush 12, 2) := by decide +kernel
theorem dX0_init_71 : decode cX0_init 71 = .ok (.newarray .int, 2) := by decide +kernel
theorem dX0_init_73 : decode cX0_init 73 = .ok (.putfield 39, 3) := by decide +kernel
theorem dX0_init_76 : decode cX0_init 76 = .ok (.aload_n 0, 1) := by decide +kernel
theorem dX0_init_77 : decode cX0_init 77 = .ok (.aload_n 1, 1) := by decide +kernel
theorem dX0_init_78 : decode cX0_init 78 = .ok (.putfield 42, 3) := by decide +kernel
theorem dX0_init_81 : decode cX0_init 81 = .ok (.aload_n 0, 1) := by decide +kernel
theorem dX0_init_82 : decode cX0_init 82 = .ok (.aload_n 2, 1) := by decide +kernel
theorem dX0_init_83 : decode cX0_init 83 = .ok (.putfield 46, 3) := by decide +kernel
theorem dX0_init_86 : decode cX0_init 86 = .ok (.aload_n 0, 1) := by decide +kernel
theorem dX0_init_87 : decode cX0_init 87 = .ok (.invokevirtual 50, 3) := by decide +kernel
theorem dX0_init_90 : decode cX0_init 90 = .ok (.return_, 1) := by decide +kernel
theorem dX0_restart_0 : decode cX0_restart 0 = .ok (.aload_n 0, 1) := by decide +kernel
theorem dX0_restart_1 : decode cX0_restart 1 = .ok (.iconst 0, 1) := by decide +kernel
theorem dX0_restart_2 : decode cX0_restart 2 = .ok (.putfield 53, 3) := by decide +kernel
theorem dX0_restart_5 : decode cX0_restart 5 = .ok (.iconst 0, 1) := by decide +kernel
theorem dX0_restart_6 : decode cX0_restart 6 = .ok (.istore_n 1, 1) := by decide +kernel
theorem dX0_restart_7 : decode cX0_restart 7 = .ok (.iload_n 1, 1) := by decide +kernel
theorem dX0_restart_8 : decode cX0_restart 8 = .ok (.bipush 16, 2) := by decide +kernel
theorem dX0_restart_10 : decode cX0_restart 10 = .ok (.if_icmp .ge 37, 3) := by decide +kernel
theorem dX0_restart_13 : decode cX0_restart 13 = .ok (.aload_n 0, 1) := by decide +kernel
theorem dX0_restart_14 : decode cX0_restart 14 = .ok (.getfield 11, 3) := by decide +kernel
theorem dX0_restart_17 : decode cX0_restart 17 = .ok (.iload_n 1, 1) := by decide +kernel
theorem dX0_restart_18 : decode cX0_restart 18 = .ok (.iconst 0, 1) := by decide +kernel
theorem dX0_restart_19 : decode cX0_restart 19 = .ok (.iastore, 1) := by decide +kernel
theorem dX0_restart_20 : decode cX0_restart 20 = .ok (.aload_n 0, 1) := by decide +kernel
theorem dX0_restart_21 : decode cX0_restart 21 = .ok (.getfield 17, 3) := by decide +kernel
theorem dX0_restart_24 : decode cX0_restart 24 = .ok (.iload_n 1, 1) := by decide +kernel
theorem dX0_restart_25 : decode cX0_restart 25 = .ok (.iconst 0, 1) := by decide +kernel
theorem dX0_restart_26 : decode cX0_restart 26 = .ok (.iastore, 1) := by decide +kernel
theorem dX0_restart_27 : decode cX0_restart 27 = .ok (.aload_n 0, 1) := by decide +kernel
theorem dX0_restart_28 : decode cX0_restart 28 = .ok (.getfield 20, 3) := by decide +kernel
theorem dX0_restart_31 : decode cX0_restart 31 = .ok (.iload_n 1, 1) := by decide +kernel
theorem dX0_restart_32 : decode cX0_restart 32 = .ok (.iconst 0, 1) := by decide +kernel
theorem dX0_restart_33 : decode cX0_restart 33 = .ok (.iastore, 1) := by decide +kernel
theorem dX0_restart_34 : decode cX0_restart 34 = .ok (.aload_n 0, 1) := by decide +kernel
theorem dX0_restart_35 : decode cX0_restart 35 = .ok (.getfield 23, 3) := by decide +kernel
theorem dX0_restart_38 : decode cX0_restart 38 = .ok (.iload_n 1, 1) := by decide +kernel
theorem dX0_restart_39 : decode cX0_restart 39 = .ok (.iconst 0, 1) := by decide +kernel
theorem dX0_restart_40 : decode cX0_restart 40 = .ok (.bastore, 1) := by decide +kernel
theorem dX0_restart_41 : decode cX0_restart 41 = .ok (.iinc 1 1, 3) := by decide +kernel
theorem dX0_restart_44 : decode cX0_restart 44 = .ok (.goto (-37), 3) := by decide +kernel
theorem dX0_restart_47 : decode cX0_restart 47 = .ok (.iconst 0, 1) := by decide +kernel
theorem dX0_restart_48 : decode cX0_restart 48 = .ok (.istore_n 1, 1) := by decide +kernel
theorem dX0_restart_49 : decode cX0_restart 49 = .ok (.iload_n 1, 1) := by decide +kernel
theorem dX0_restart_50 : decode cX0_restart 50 = .ok (.bipush 12, 2) := by decide +kernel
theorem dX0_restart_52 : decode cX0_restart 52 = .ok (.if_icmp .ge 45, 3) := by decide +kernel
theorem dX0_restart_55 : decode cX0_restart 55 = .ok (.aload_n 0, 1) := by decide +kernel
theorem dX0_restart_56 : decode cX0_restart 56 = .ok (.getfield 27, 3) := by decide +kernel
theorem dX0_restart_59 : decode cX0_restart 59 = .ok (.iload_n 1, 1) := by decide +kernel
theorem dX0_restart_60 : decode cX0_restart 60 = .ok (.iconst 1, 1) := by decide +kernel
theorem dX0_restart_61 : decode cX0_restart 61 = .ok (.bastore, 1) := by decide +kernel
theorem dX0_restart_62 : decode cX0_restart 62 = .ok (.aload_n 0, 1) := by decide +kernel
theorem dX0_restart_63 : decode cX0_restart 63 = .ok (.getfield 30, 3) := by decide +kernel
theorem dX0_restart_66 : decode cX0_restart 66 = .ok (.iload_n 1, 1) := by decide +kernel
theorem dX0_restart_67 : decode cX0_restart 67 = .ok (.iconst 1, 1) := by decide +kernel
theorem dX0_restart_68 : decode cX0_restart 68 = .ok (.bastore, 1) := by decide +kernel
theorem dX0_restart_69 : decode cX0_restart 69 = .ok (.aload_n 0, 1) := by decide +kernel
theorem dX0_restart_70 : decode cX0_restart 70 = .ok (.getfield 33, 3) := by decide +kernel
theorem dX0_restart_73 : decode cX0_restart 73 = .ok (.iload_n 1, 1) := by decide +kernel
theorem dX0_restart_74 : decode cX0_restart 74 = .ok (.iconst 0, 1) := by decide +kernel
theorem dX0_restart_75 : decode cX0_restart 75 = .ok (.iastore, 1) := by decide +kernel
theorem dX0_restart_76 : decode cX0_restart 76 = .ok (.aload_n 0, 1) := by decide +kernel
theorem dX0_restart_77 : decode cX0_restart 77 = .ok (.getfield 36, 3) := by decide +kernel
theorem dX0_restart_80 : decode cX0_restart 80 = .ok (.iload_n 1, 1) := by decide +kernel
theorem dX0_restart_81 : decode cX0_restart 81 = .ok (.iconst 0, 1) := by decide +kernel
theorem dX0_restart_82 : decode cX0_restart 82 = .ok (.iastore, 1) := by decide +kernel
theorem dX0_restart_83 : decode cX0_restart 83 = .ok (.aload_n 0, 1) := by decide +kernel
theorem dX0_restart_84 : decode cX0_restart 84 = .ok (.getfield 39, 3) := by decide +kernel
theorem dX0_restart_87 : decode cX0_restart 87 = .ok (.iload_n 1, 1) := by decide +kernel
theorem dX0_restart_88 : decode cX0_restart 88 = .ok (.ldc 57, 2) := by decide +kernel
theorem dX0_restart_90 : decode cX0_restart 90 = .ok (.iastore, 1) := by decide +kernel
theorem dX0_restart_91 : decode cX0_restart 91 = .ok (.iinc 1 1, 3) := by decide +kernel
theorem dX0_restart_94 : decode cX0_restart 94 = .ok (.goto (-45), 3) := by decide +kernel
theorem dX0_restart_97 : decode cX0_restart 97 = .ok (.return_, 1) := by decide +kernel
theorem dX0_join_0 : decode cX0_join 0 = .ok (.aload_n 0, 1) := by decide +kernel
theorem dX0_join_1 : decode cX0_join 1 = .ok (.getfield 30, 3) := by decide +kernel
theorem dX0_join_4 : decode cX0_join 4 = .ok (.iload_n 1, 1) := by decide +kernel
theorem dX0_join_5 : decode cX0_join 5 = .ok (.aload_n 0, 1) := by decide +kernel
theorem dX0_join_6 : decode cX0_join 6 = .ok (.iload_n 1, 1) := by decide +kernel
theorem dX0_join_7 : decode cX0_join 7 = .ok (.invokevirtual 58, 3) := by decide +kernel
theorem dX0_join_10 : decode cX0_join 10 = .ok (.bastore, 1) := by decide +kernel
theorem dX0_join_11 : decode cX0_join 11 = .ok (.return_, 1) := by decide +kernel
theorem dX0_isUp_0 : decode cX0_isUp 0 = .ok (.aload_n 0, 1) := by decide +kernel
theorem dX0_isUp_1 : decode cX0_isUp 1 = .ok (.getfield 27, 3) := by decide +kernel
theorem dX0_isUp_4 : decode cX0_isUp 4 = .ok (.iload_n 1, 1) := by decide +kernel
theorem dX0_isUp_5 : decode cX0_isUp 5 = .ok (.baload, 1) := by decide +kernel
theorem dX0_isUp_6 : decode cX0_isUp 6 = .ok (.ireturn, 1) := by decide +kernel
theorem dX0_isShut_0 : decode cX0_isShut 0 = .ok (.aload_n 0, 1) := by decide +kernel
theorem dX0_isShut_1 : decode cX0_isShut 1 = .ok (.getfield 23, 3) := by decide +kernel
theorem dX0_isShut_4 : decode cX0_isShut 4 = .ok (.aload_n 0, 1) := by decide +kernel
theorem dX0_isShut_5 : decode cX0_isShut 5 = .ok (.getfield 46, 3) := by decide +kernel
theorem dX0_isShut_8 : decode cX0_isShut 8 = .ok (.iload_n 1, 1) := by decide +kernel
theorem dX0_isShut_9 : decode cX0_isShut 9 = .ok (.invokevirtual 62, 3) := by decide +kernel
theorem dX0_isShut_12 : decode cX0_isShut 12 = .ok (.baload, 1) := by decide +kernel
theorem dX0_isShut_13 : decode cX0_isShut 13 = .ok (.ireturn, 1) := by decide +kernel
theorem dX0_isSeen_0 : decode cX0_isSeen 0 = .ok (.aload_n 0, 1) := by decide +kernel
theorem dX0_isSeen_1 : decode cX0_isSeen 1 = .ok (.getfield 27, 3) := by decide +kernel
theorem dX0_isSeen_4 : decode cX0_isSeen 4 = .ok (.iload_n 1, 1) := by decide +kernel
theorem dX0_isSeen_5 : decode cX0_isSeen 5 = .ok (.baload, 1) := by decide +kernel
theorem dX0_isSeen_6 : decode cX0_isSeen 6 = .ok (.ifCond .eq 15, 3) := by decide +kernel
theorem dX0_isSeen_9 : decode cX0_isSeen 9 = .ok (.aload_n 0, 1) := by decide +kernel
theorem dX0_isSeen_10 : decode cX0_isSeen 10 = .ok (.iload_n 1, 1) := by decide +kernel
theorem dX0_isSeen_11 : decode cX0_isSeen 11 = .ok (.invokevirtual 66, 3) := by decide +kernel
theorem dX0_isSeen_14 : decode cX0_isSeen 14 = .ok (.ifCond .ne 7, 3) := by decide +kernel
theorem dX0_isSeen_17 : decode cX0_isSeen 17 = .ok (.iconst 1, 1) := by decide +kernel
theorem dX0_isSeen_18 : decode cX0_isSeen 18 = .ok (.goto 4, 3) := by decide +kernel
theorem dX0_isSeen_21 : decode cX0_isSeen 21 = .ok (.iconst 0, 1) := by decide +kernel
theorem dX0_isSeen_22 : decode cX0_isSeen 22 = .ok (.ireturn, 1) := by decide +kernel
theorem dX0_flipsOf_0 : decode cX0_flipsOf 0 = .ok (.aload_n 0, 1) := by decide +kernel
theorem dX0_flipsOf_1 : decode cX0_flipsOf 1 = .ok (.getfield 33, 3) := by decide +kernel
theorem dX0_flipsOf_4 : decode cX0_flipsOf 4 = .ok (.iload_n 1, 1) := by decide +kernel
theorem dX0_flipsOf_5 : decode cX0_flipsOf 5 = .ok (.iaload, 1) := by decide +kernel
theorem dX0_flipsOf_6 : decode cX0_flipsOf 6 = .ok (.ireturn, 1) := by decide +kernel
theorem dX0_lostOf_0 : decode cX0_lostOf 0 = .ok (.aload_n 0, 1) := by decide +kernel
theorem dX0_lostOf_1 : decode cX0_lostOf 1 = .ok (.getfield 36, 3) := by decide +kernel
theorem dX0_lostOf_4 : decode cX0_lostOf 4 = .ok (.iload_n 1, 1) := by decide +kernel
theorem dX0_lostOf_5 : decode cX0_lostOf 5 = .ok (.iaload, 1) := by decide +kernel
theorem dX0_lostOf_6 : decode cX0_lostOf 6 = .ok (.ireturn, 1) := by decide +kernel
theorem dX0_wasEverShut_0 : decode cX0_wasEverShut 0 = .ok (.aload_n 0, 1) := by decide +kernel
theorem dX0_wasEverShut_1 : decode cX0_wasEverShut 1 = .ok (.getfield 53, 3) := by decide +kernel
theorem dX0_wasEverShut_4 : decode cX0_wasEverShut 4 = .ok (.ireturn, 1) := by decide +kernel
theorem dX0_shutLines_0 : decode cX0_shutLines 0 = .ok (.iconst 0, 1) := by decide +kernel
theorem dX0_shutLines_1 : decode cX0_shutLines 1 = .ok (.istore_n 1, 1) := by decide +kernel
theorem dX0_shutLines_2 : decode cX0_shutLines 2 = .ok (.iconst 0, 1) := by decide +kernel
theorem dX0_shutLines_3 : decode cX0_shutLines 3 = .ok (.istore_n 2, 1) := by decide +kernel
theorem dX0_shutLines_4 : decode cX0_shutLines 4 = .ok (.iload_n 2, 1) := by decide +kernel
theorem dX0_shutLines_5 : decode cX0_shutLines 5 = .ok (.aload_n 0, 1) := by decide +kernel
theorem dX0_shutLines_6 : decode cX0_shutLines 6 = .ok (.getfield 46, 3) := by decide +kernel
theorem dX0_shutLines_9 : decode cX0_shutLines 9 = .ok (.invokevirtual 69, 3) := by decide +kernel
theorem dX0_shutLines_12 : decode cX0_shutLines 12 = .ok (.if_icmp .ge 20, 3) := by decide +kernel
theorem dX0_shutLines_15 : decode cX0_shutLines 15 = .ok (.aload_n 0, 1) := by decide +kernel
theorem dX0_shutLines_16 : decode cX0_shutLines 16 = .ok (.iload_n 2, 1) := by decide +kernel
theorem dX0_shutLines_17 : decode cX0_shutLines 17 = .ok (.invokevirtual 66, 3) := by decide +kernel
theorem dX0_shutLines_20 : decode cX0_shutLines 20 = .ok (.ifCond .eq 6, 3) := by decide +kernel
theorem dX0_shutLines_23 : decode cX0_shutLines 23 = .ok (.iinc 1 1, 3) := by decide +kernel
theorem dX0_shutLines_26 : decode cX0_shutLines 26 = .ok (.iinc 2 1, 3) := by decide +kernel
theorem dX0_shutLines_29 : decode cX0_shutLines 29 = .ok (.goto (-25), 3) := by decide +kernel
theorem dX0_shutLines_32 : decode cX0_shutLines 32 = .ok (.iload_n 1, 1) := by decide +kernel
theorem dX0_shutLines_33 : decode cX0_shutLines 33 = .ok (.ireturn, 1) := by decide +kernel
theorem dX0_penaltyOf_0 : decode cX0_penaltyOf 0 = .ok (.aload_n 0, 1) := by decide +kernel
theorem dX0_penaltyOf_1 : decode cX0_penaltyOf 1 = .ok (.aload_n 0, 1) := by decide +kernel
theorem dX0_penaltyOf_2 : decode cX0_penaltyOf 2 = .ok (.getfield 46, 3) := by decide +kernel
theorem dX0_penaltyOf_5 : decode cX0_penaltyOf 5 = .ok (.iload_n 1, 1) := by decide +kernel
theorem dX0_penaltyOf_6 : decode cX0_penaltyOf 6 = .ok (.invokevirtual 62, 3) := by decide +kernel
theorem dX0_penaltyOf_9 : decode cX0_penaltyOf 9 = .ok (.iload_n 2, 1) := by decide +kernel
theorem dX0_penaltyOf_10 : decode cX0_penaltyOf 10 = .ok (.invokevirtual 73, 3) := by decide +kernel
theorem dX0_penaltyOf_13 : decode cX0_penaltyOf 13 = .ok (.ireturn, 1) := by decide +kernel
theorem dX0_penaltyAt_0 : decode cX0_penaltyAt 0 = .ok (.aload_n 0, 1) := by decide +kernel
theorem dX0_penaltyAt_1 : decode cX0_penaltyAt 1 = .ok (.getfield 42, 3) := by decide +kernel
theorem dX0_penaltyAt_4 : decode cX0_penaltyAt 4 = .ok (.aload_n 0, 1) := by decide +kernel
theorem dX0_penaltyAt_5 : decode cX0_penaltyAt 5 = .ok (.getfield 11, 3) := by decide +kernel
theorem dX0_penaltyAt_8 : decode cX0_penaltyAt 8 = .ok (.iload_n 1, 1) := by decide +kernel
theorem dX0_penaltyAt_9 : decode cX0_penaltyAt 9 = .ok (.iaload, 1) := by decide +kernel
theorem dX0_penaltyAt_10 : decode cX0_penaltyAt 10 = .ok (.iload_n 2, 1) := by decide +kernel
theorem dX0_penaltyAt_11 : decode cX0_penaltyAt 11 = .ok (.aload_n 0, 1) := by decide +kernel
theorem dX0_penaltyAt_12 : decode cX0_penaltyAt 12 = .ok (.getfield 17, 3) := by decide +kernel
theorem dX0_penaltyAt_15 : decode cX0_penaltyAt 15 = .ok (.iload_n 1, 1) := by decide +kernel
theorem dX0_penaltyAt_16 : decode cX0_penaltyAt 16 = .ok (.iaload, 1) := by decide +kernel
theorem dX0_penaltyAt_17 : decode cX0_penaltyAt 17 = .ok (.isub, 1) := by decide +kernel
theorem dX0_penaltyAt_18 : decode cX0_penaltyAt 18 = .ok (.invokevirtual 77, 3) := by decide +kernel
theorem dX0_penaltyAt_21 : decode cX0_penaltyAt 21 = .ok (.ireturn, 1) := by decide +kernel
theorem dX0_restPenalties_0 : decode cX0_restPenalties 0 = .ok (.iconst 0, 1) := by decide +kernel
theorem dX0_restPenalties_1 : decode cX0_restPenalties 1 = .ok (.istore_n 2, 1) := by decide +kernel
theorem dX0_restPenalties_2 : decode cX0_restPenalties 2 = .ok (.iload_n 2, 1) := by decide +kernel
theorem dX0_restPenalties_3 : decode cX0_restPenalties 3 = .ok (.bipush 16, 2) := by decide +kernel
theorem dX0_restPenalties_5 : decode cX0_restPenalties 5 = .ok (.if_icmp .ge 28, 3) := by decide +kernel
theorem dX0_restPenalties_8 : decode cX0_restPenalties 8 = .ok (.aload_n 0, 1) := by decide +kernel
theorem dX0_restPenalties_9 : decode cX0_restPenalties 9 = .ok (.getfield 11, 3) := by decide +kernel
theorem dX0_restPenalties_12 : decode cX0_restPenalties 12 = .ok (.iload_n 2, 1) := by decide +kernel
theorem dX0_restPenalties_13 : decode cX0_restPenalties 13 = .ok (.aload_n 0, 1) := by decide +kernel
theorem dX0_restPenalties_14 : decode cX0_restPenalties 14 = .ok (.iload_n 2, 1) := by decide +kernel
theorem dX0_restPenalties_15 : decode cX0_restPenalties 15 = .ok (.iload_n 1, 1) := by decide +kernel
theorem dX0_restPenalties_16 : decode cX0_restPenalties 16 = .ok (.invokevirtual 73, 3) := by decide +kernel
theorem dX0_restPenalties_19 : decode cX0_restPenalties 19 = .ok (.iastore, 1) := by decide +kernel
theorem dX0_restPenalties_20 : decode cX0_restPenalties 20 = .ok (.aload_n 0, 1) := by decide +kernel
theorem dX0_restPenalties_21 : decode cX0_restPenalties 21 = .ok (.getfield 17, 3) := by decide +kernel
theorem dX0_restPenalties_24 : decode cX0_restPenalties 24 = .ok (.iload_n 2, 1) := by decide +kernel
theorem dX0_restPenalties_25 : decode cX0_restPenalties 25 = .ok (.iload_n 1, 1) := by decide +kernel
theorem dX0_restPenalties_26 : decode cX0_restPenalties 26 = .ok (.iastore, 1) := by decide +kernel
theorem dX0_restPenalties_27 : decode cX0_restPenalties 27 = .ok (.iinc 2 1, 3) := by decide +kernel
theorem dX0_restPenalties_30 : decode cX0_restPenalties 30 = .ok (.goto (-28), 3) := by decide +kernel
theorem dX0_restPenalties_33 : decode cX0_restPenalties 33 = .ok (.return_, 1) := by decide +kernel
theorem dX0_ticksTillOpen_0 : decode cX0_ticksTillOpen 0 = .ok (.aload_n 0, 1) := by decide +kernel
theorem dX0_ticksTillOpen_1 : decode cX0_ticksTillOpen 1 = .ok (.getfield 46, 3) := by decide +kernel
theorem dX0_ticksTillOpen_4 : decode cX0_ticksTillOpen 4 = .ok (.iload_n 1, 1) := by decide +kernel
theorem dX0_ticksTillOpen_5 : decode cX0_ticksTillOpen 5 = .ok (.invokevirtual 62, 3) := by decide +kernel
theorem dX0_ticksTillOpen_8 : decode cX0_ticksTillOpen 8 = .ok (.istore_n 3, 1) := by decide +kernel
theorem dX0_ticksTillOpen_9 : decode cX0_ticksTillOpen 9 = .ok (.aload_n 0, 1) := by decide +kernel
theorem dX0_ticksTillOpen_10 : decode cX0_ticksTillOpen 10 = .ok (.getfield 23, 3) := by decide +kernel
theorem dX0_ticksTillOpen_13 : decode cX0_ticksTillOpen 13 = .ok (.iload_n 3, 1) := by decide +kernel
theorem dX0_ticksTillOpen_14 : decode cX0_ticksTillOpen 14 = .ok (.baload, 1) := by decide +kernel
theorem dX0_ticksTillOpen_15 : decode cX0_ticksTillOpen 15 = .ok (.ifCond .eq 14, 3) := by decide +kernel
theorem dX0_ticksTillOpen_18 : decode cX0_ticksTillOpen 18 = .ok (.aload_n 0, 1) := by decide +kernel
theorem dX0_ticksTillOpen_19 : decode cX0_ticksTillOpen 19 = .ok (.iload_n 3, 1) := by decide +kernel
theorem dX0_ticksTillOpen_20 : decode cX0_ticksTillOpen 20 = .ok (.iload_n 2, 1) := by decide +kernel
theorem dX0_ticksTillOpen_21 : decode cX0_ticksTillOpen 21 = .ok (.invokevirtual 82, 3) := by decide +kernel
theorem dX0_ticksTillOpen_24 : decode cX0_ticksTillOpen 24 = .ok (.iload_n 2, 1) := by decide +kernel
theorem dX0_ticksTillOpen_25 : decode cX0_ticksTillOpen 25 = .ok (.isub, 1) := by decide +kernel
theorem dX0_ticksTillOpen_26 : decode cX0_ticksTillOpen 26 = .ok (.goto 4, 3) := by decide +kernel
theorem dX0_ticksTillOpen_29 : decode cX0_ticksTillOpen 29 = .ok (.iconst 0, 1) := by decide +kernel
theorem dX0_ticksTillOpen_30 : decode cX0_ticksTillOpen 30 = .ok (.ireturn, 1) := by decide +kernel
theorem dX0_openingTick_0 : decode cX0_openingTick 0 = .ok (.aload_n 0, 1) := by decide +kernel
theorem dX0_openingTick_1 : decode cX0_openingTick 1 = .ok (.getfield 17, 3) := by decide +kernel
theorem dX0_openingTick_4 : decode cX0_openingTick 4 = .ok (.iload_n 1, 1) := by decide +kernel
theorem dX0_openingTick_5 : decode cX0_openingTick 5 = .ok (.iaload, 1) := by decide +kernel
theorem dX0_openingTick_6 : decode cX0_openingTick 6 = .ok (.aload_n 0, 1) := by decide +kernel
theorem dX0_openingTick_7 : decode cX0_openingTick 7 = .ok (.getfield 42, 3) := by decide +kernel
theorem dX0_openingTick_10 : decode cX0_openingTick 10 = .ok (.aload_n 0, 1) := by decide +kernel
theorem dX0_openingTick_11 : decode cX0_openingTick 11 = .ok (.getfield 11, 3) := by decide +kernel
theorem dX0_openingTick_14 : decode cX0_openingTick 14 = .ok (.iload_n 1, 1) := by decide +kernel
theorem dX0_openingTick_15 : decode cX0_openingTick 15 = .ok (.iaload, 1) := by decide +kernel
theorem dX0_openingTick_16 : decode cX0_openingTick 16 = .ok (.aload_n 0, 1) := by decide +kernel
theorem dX0_openingTick_17 : decode cX0_openingTick 17 = .ok (.getfield 42, 3) := by decide +kernel
theorem dX0_openingTick_20 : decode cX0_openingTick 20 = .ok (.iconst 5, 1) := by decide +kernel
theorem dX0_openingTick_21 : decode cX0_openingTick 21 = .ok (.invokevirtual 85, 3) := by decide +kernel
theorem dX0_openingTick_24 : decode cX0_openingTick 24 = .ok (.invokevirtual 88, 3) := by decide +kernel
theorem dX0_openingTick_27 : decode cX0_openingTick 27 = .ok (.iadd, 1) := by decide +kernel
theorem dX0_openingTick_28 : decode cX0_openingTick 28 = .ok (.istore_n 3, 1) := by decide +kernel
theorem dX0_openingTick_29 : decode cX0_openingTick 29 = .ok (.iload_n 2, 1) := by decide +kernel
theorem dX0_openingTick_30 : decode cX0_openingTick 30 = .ok (.iconst 1, 1) := by decide +kernel
theorem dX0_openingTick_31 : decode cX0_openingTick 31 = .ok (.iadd, 1) := by decide +kernel
theorem dX0_openingTick_32 : decode cX0_openingTick 32 = .ok (.iload_n 3, 1) := by decide +kernel
theorem dX0_openingTick_33 : decode cX0_openingTick 33 = .ok (.invokestatic 91, 3) := by decide +kernel
theorem dX0_openingTick_36 : decode cX0_openingTick 36 = .ok (.ireturn, 1) := by decide +kernel
theorem dX0_settleAll_0 : decode cX0_settleAll 0 = .ok (.iconst 0, 1) := by decide +kernel
theorem dX0_settleAll_1 : decode cX0_settleAll 1 = .ok (.istore_n 2, 1) := by decide +kernel
theorem dX0_settleAll_2 : decode cX0_settleAll 2 = .ok (.iload_n 2, 1) := by decide +kernel
theorem dX0_settleAll_3 : decode cX0_settleAll 3 = .ok (.bipush 16, 2) := by decide +kernel
theorem dX0_settleAll_5 : decode cX0_settleAll 5 = .ok (.if_icmp .ge 15, 3) := by decide +kernel
theorem dX0_settleAll_8 : decode cX0_settleAll 8 = .ok (.aload_n 0, 1) := by decide +kernel
theorem dX0_settleAll_9 : decode cX0_settleAll 9 = .ok (.iload_n 2, 1) := by decide +kernel
theorem dX0_settleAll_10 : decode cX0_settleAll 10 = .ok (.iload_n 1, 1) := by decide +kernel
theorem dX0_settleAll_11 : decode cX0_settleAll 11 = .ok (.invokevirtual 96, 3) := by decide +kernel
theorem dX0_settleAll_14 : decode cX0_settleAll 14 = .ok (.iinc 2 1, 3) := by decide +kernel
theorem dX0_settleAll_17 : decode cX0_settleAll 17 = .ok (.goto (-15), 3) := by decide +kernel
theorem dX0_settleAll_20 : decode cX0_settleAll 20 = .ok (.return_, 1) := by decide +kernel
theorem dX0_settle_0 : decode cX0_settle 0 = .ok (.aload_n 0, 1) := by decide +kernel
theorem dX0_settle_1 : decode cX0_settle 1 = .ok (.getfield 20, 3) := by decide +kernel
theorem dX0_settle_4 : decode cX0_settle 4 = .ok (.iload_n 1, 1) := by decide +kernel
theorem dX0_settle_5 : decode cX0_settle 5 = .ok (.iaload, 1) := by decide +kernel
theorem dX0_settle_6 : decode cX0_settle 6 = .ok (.istore_n 3, 1) := by decide +kernel
theorem dX0_settle_7 : decode cX0_settle 7 = .ok (.aload_n 0, 1) := by decide +kernel
theorem dX0_settle_8 : decode cX0_settle 8 = .ok (.getfield 20, 3) := by decide +kernel
theorem dX0_settle_11 : decode cX0_settle 11 = .ok (.iload_n 1, 1) := by decide +kernel
theorem dX0_settle_12 : decode cX0_settle 12 = .ok (.iload_n 2, 1) := by decide +kernel
theorem dX0_settle_13 : decode cX0_settle 13 = .ok (.iastore, 1) := by decide +kernel
theorem dX0_settle_14 : decode cX0_settle 14 = .ok (.aload_n 0, 1) := by decide +kernel
theorem dX0_settle_15 : decode cX0_settle 15 = .ok (.getfield 23, 3) := by decide +kernel
theorem dX0_settle_18 : decode cX0_settle 18 = .ok (.iload_n 1, 1) := by decide +kernel
theorem dX0_settle_19 : decode cX0_settle 19 = .ok (.baload, 1) := by decide +kernel
theorem dX0_settle_20 : decode cX0_settle 20 = .ok (.ifCond .eq 8, 3) := by decide +kernel
theorem dX0_settle_23 : decode cX0_settle 23 = .ok (.iload_n 2, 1) := by decide +kernel
theorem dX0_settle_24 : decode cX0_settle 24 = .ok (.iload_n 3, 1) := by decide +kernel
theorem dX0_settle_25 : decode cX0_settle 25 = .ok (.if_icmp .gt 4, 3) := by decide +kernel
theorem dX0_settle_28 : decode cX0_settle 28 = .ok (.return_, 1) := by decide +kernel
theorem dX0_settle_29 : decode cX0_settle 29 = .ok (.aload_n 0, 1) := by decide +kernel
theorem dX0_settle_30 : decode cX0_settle 30 = .ok (.iload_n 1, 1) := by decide +kernel
theorem dX0_settle_31 : decode cX0_settle 31 = .ok (.iload_n 3, 1) := by decide +kernel
theorem dX0_settle_32 : decode cX0_settle 32 = .ok (.invokevirtual 82, 3) := by decide +kernel
theorem dX0_settle_35 : decode cX0_settle 35 = .ok (.istore 4, 2) := by decide +kernel
theorem dX0_settle_37 : decode cX0_settle 37 = .ok (.aload_n 0, 1) := by decide +kernel
theorem dX0_settle_38 : decode cX0_settle 38 = .ok (.getfield 23, 3) := by decide +kernel
theorem dX0_settle_41 : decode cX0_settle 41 = .ok (.iload_n 1, 1) := by decide +kernel
theorem dX0_settle_42 : decode cX0_settle 42 = .ok (.iload 4, 2) := by decide +kernel
theorem dX0_settle_44 : decode cX0_settle 44 = .ok (.iload_n 2, 1) := by decide +kernel
theorem dX0_settle_45 : decode cX0_settle 45 = .ok (.if_icmp .le 7, 3) := by decide +kernel
theorem dX0_settle_48 : decode cX0_settle 48 = .ok (.iconst 1, 1) := by decide +kernel
theorem dX0_settle_49 : decode cX0_settle 49 = .ok (.goto 4, 3) := by decide +kernel
theorem dX0_settle_52 : decode cX0_settle 52 = .ok (.iconst 0, 1) := by decide +kernel
theorem dX0_settle_53 : decode cX0_settle 53 = .ok (.bastore, 1) := by decide +kernel
theorem dX0_settle_54 : decode cX0_settle 54 = .ok (.iload_n 2, 1) := by decide +kernel
theorem dX0_settle_55 : decode cX0_settle 55 = .ok (.iload 4, 2) := by decide +kernel
theorem dX0_settle_57 : decode cX0_settle 57 = .ok (.iconst 1, 1) := by decide +kernel
theorem dX0_settle_58 : decode cX0_settle 58 = .ok (.isub, 1) := by decide +kernel
theorem dX0_settle_59 : decode cX0_settle 59 = .ok (.invokestatic 100, 3) := by decide +kernel
theorem dX0_settle_62 : decode cX0_settle 62 = .ok (.iload_n 3, 1) := by decide +kernel
theorem dX0_settle_63 : decode cX0_settle 63 = .ok (.isub, 1) := by decide +kernel
theorem dX0_settle_64 : decode cX0_settle 64 = .ok (.istore 5, 2) := by decide +kernel
theorem dX0_settle_66 : decode cX0_settle 66 = .ok (.aload_n 0, 1) := by decide +kernel
theorem dX0_settle_67 : decode cX0_settle 67 = .ok (.iload_n 1, 1) := by decide +kernel
theorem dX0_settle_68 : decode cX0_settle 68 = .ok (.invokevirtual 103, 3) := by decide +kernel
theorem dX0_settle_71 : decode cX0_settle 71 = .ok (.istore 6, 2) := by decide +kernel
theorem dX0_settle_73 : decode cX0_settle 73 = .ok (.iload 6, 2) := by decide +kernel
theorem dX0_settle_75 : decode cX0_settle 75 = .ok (.aload_n 0, 1) := by decide +kernel
theorem dX0_settle_76 : decode cX0_settle 76 = .ok (.iload_n 1, 1) := by decide +kernel
theorem dX0_settle_77 : decode cX0_settle 77 = .ok (.invokevirtual 106, 3) := by decide +kernel
theorem dX0_settle_80 : decode cX0_settle 80 = .ok (.if_icmp .ge 44, 3) := by decide +kernel
theorem dX0_settle_83 : decode cX0_settle 83 = .ok (.aload_n 0, 1) := by decide +kernel
theorem dX0_settle_84 : decode cX0_settle 84 = .ok (.getfield 27, 3) := by decide +kernel
theorem dX0_settle_87 : decode cX0_settle 87 = .ok (.iload 6, 2) := by decide +kernel
theorem dX0_settle_89 : decode cX0_settle 89 = .ok (.baload, 1) := by decide +kernel
theorem dX0_settle_90 : decode cX0_settle 90 = .ok (.ifCond .eq 28, 3) := by decide +kernel
theorem dX0_settle_93 : decode cX0_settle 93 = .ok (.aload_n 0, 1) := by decide +kernel
theorem dX0_settle_94 : decode cX0_settle 94 = .ok (.getfield 46, 3) := by decide +kernel
theorem dX0_settle_97 : decode cX0_settle 97 = .ok (.iload 6, 2) := by decide +kernel
theorem dX0_settle_99 : decode cX0_settle 99 = .ok (.invokevirtual 62, 3) := by decide +kernel
theorem dX0_settle_102 : decode cX0_settle 102 = .ok (.iload_n 1, 1) := by decide +kernel
theorem dX0_settle_103 : decode cX0_settle 103 = .ok (.if_icmp .ne 15, 3) := by decide +kernel
theorem dX0_settle_106 : decode cX0_settle 106 = .ok (.aload_n 0, 1) := by decide +kernel
theorem dX0_settle_107 : decode cX0_settle 107 = .ok (.getfield 36, 3) := by decide +kernel
theorem dX0_settle_110 : decode cX0_settle 110 = .ok (.iload 6, 2) := by decide +kernel
theorem dX0_settle_112 : decode cX0_settle 112 = .ok (.dup2, 1) := by decide +kernel
theorem dX0_settle_113 : decode cX0_settle 113 = .ok (.iaload, 1) := by decide +kernel
theorem dX0_settle_114 : decode cX0_settle 114 = .ok (.iload 5, 2) := by decide +kernel
theorem dX0_settle_116 : decode cX0_settle 116 = .ok (.iadd, 1) := by decide +kernel
theorem dX0_settle_117 : decode cX0_settle 117 = .ok (.iastore, 1) := by decide +kernel
theorem dX0_settle_118 : decode cX0_settle 118 = .ok (.iinc 6 1, 3) := by decide +kernel
theorem dX0_settle_121 : decode cX0_settle 121 = .ok (.goto (-48), 3) := by decide +kernel
theorem dX0_settle_124 : decode cX0_settle 124 = .ok (.aload_n 0, 1) := by decide +kernel
theorem dX0_settle_125 : decode cX0_settle 125 = .ok (.iload_n 1, 1) := by decide +kernel
theorem dX0_settle_126 : decode cX0_settle 126 = .ok (.invokevirtual 109, 3) := by decide +kernel
theorem dX0_settle_129 : decode cX0_settle 129 = .ok (.return_, 1) := by decide +kernel
theorem dX0_take_0 : decode cX0_take 0 = .ok (.aload_n 0, 1) := by decide +kernel
theorem dX0_take_1 : decode cX0_take 1 = .ok (.getfield 46, 3) := by decide +kernel
theorem dX0_take_4 : decode cX0_take 4 = .ok (.iload_n 1, 1) := by decide +kernel
theorem dX0_take_5 : decode cX0_take 5 = .ok (.invokevirtual 62, 3) := by decide +kernel
theorem dX0_take_8 : decode cX0_take 8 = .ok (.istore 4, 2) := by decide +kernel
theorem dX0_take_10 : decode cX0_take 10 = .ok (.aload_n 0, 1) := by decide +kernel
theorem dX0_take_11 : decode cX0_take 11 = .ok (.iload 4, 2) := by decide +kernel
theorem dX0_take_13 : decode cX0_take 13 = .ok (.iload_n 3, 1) := by decide +kernel
theorem dX0_take_14 : decode cX0_take 14 = .ok (.invokevirtual 96, 3) := by decide +kernel
theorem dX0_take_17 : decode cX0_take 17 = .ok (.aload_n 0, 1) := by decide +kernel
theorem dX0_take_18 : decode cX0_take 18 = .ok (.iload 4, 2) := by decide +kernel
theorem dX0_take_20 : decode cX0_take 20 = .ok (.iload_n 3, 1) := by decide +kernel
theorem dX0_take_21 : decode cX0_take 21 = .ok (.invokevirtual 73, 3) := by decide +kernel
theorem dX0_take_24 : decode cX0_take 24 = .ok (.aload_n 0, 1) := by decide +kernel
theorem dX0_take_25 : decode cX0_take 25 = .ok (.iload_n 1, 1) := by decide +kernel
theorem dX0_take_26 : decode cX0_take 26 = .ok (.iload_n 2, 1) := by decide +kernel
theorem dX0_take_27 : decode cX0_take 27 = .ok (.iload_n 3, 1) := by decide +kernel
theorem dX0_take_28 : decode cX0_take 28 = .ok (.invokevirtual 113, 3) := by decide +kernel
theorem dX0_take_31 : decode cX0_take 31 = .ok (.iadd, 1) := by decide +kernel
theorem dX0_take_32 : decode cX0_take 32 = .ok (.istore 5, 2) := by decide +kernel
theorem dX0_take_34 : decode cX0_take 34 = .ok (.aload_n 0, 1) := by decide +kernel
theorem dX0_take_35 : decode cX0_take 35 = .ok (.getfield 11, 3) := by decide +kernel
theorem dX0_take_38 : decode cX0_take 38 = .ok (.iload 4, 2) := by decide +kernel
theorem dX0_take_40 : decode cX0_take 40 = .ok (.aload_n 0, 1) := by decide +kernel
theorem dX0_take_41 : decode cX0_take 41 = .ok (.getfield 42, 3) := by decide +kernel
theorem dX0_take_44 : decode cX0_take 44 = .ok (.bipush 6, 2) := by decide +kernel
theorem dX0_take_46 : decode cX0_take 46 = .ok (.invokevirtual 85, 3) := by decide +kernel
theorem dX0_take_49 : decode cX0_take 49 = .ok (.iload 5, 2) := by decide +kernel
theorem dX0_take_51 : decode cX0_take 51 = .ok (.invokestatic 100, 3) := by decide +kernel
theorem dX0_take_54 : decode cX0_take 54 = .ok (.iastore, 1) := by decide +kernel
theorem dX0_take_55 : decode cX0_take 55 = .ok (.aload_n 0, 1) := by decide +kernel
theorem dX0_take_56 : decode cX0_take 56 = .ok (.getfield 17, 3) := by decide +kernel
theorem dX0_take_59 : decode cX0_take 59 = .ok (.iload 4, 2) := by decide +kernel
theorem dX0_take_61 : decode cX0_take 61 = .ok (.iload_n 3, 1) := by decide +kernel
theorem dX0_take_62 : decode cX0_take 62 = .ok (.iastore, 1) := by decide +kernel
theorem dX0_take_63 : decode cX0_take 63 = .ok (.aload_n 0, 1) := by decide +kernel
theorem dX0_take_64 : decode cX0_take 64 = .ok (.getfield 39, 3) := by decide +kernel
theorem dX0_take_67 : decode cX0_take 67 = .ok (.iload_n 1, 1) := by decide +kernel
theorem dX0_take_68 : decode cX0_take 68 = .ok (.iload_n 3, 1) := by decide +kernel
theorem dX0_take_69 : decode cX0_take 69 = .ok (.iastore, 1) := by decide +kernel
theorem dX0_take_70 : decode cX0_take 70 = .ok (.iload_n 2, 1) := by decide +kernel
theorem dX0_take_71 : decode cX0_take 71 = .ok (.iconst 2, 1) := by decide +kernel
theorem dX0_take_72 : decode cX0_take 72 = .ok (.if_icmp .eq 19, 3) := by decide +kernel
theorem dX0_take_75 : decode cX0_take 75 = .ok (.aload_n 0, 1) := by decide +kernel
theorem dX0_take_76 : decode cX0_take 76 = .ok (.getfield 27, 3) := by decide +kernel
theorem dX0_take_79 : decode cX0_take 79 = .ok (.iload_n 1, 1) := by decide +kernel
theorem dX0_take_80 : decode cX0_take 80 = .ok (.iload_n 2, 1) := by decide +kernel
theorem dX0_take_81 : decode cX0_take 81 = .ok (.iconst 1, 1) := by decide +kernel
theorem dX0_take_82 : decode cX0_take 82 = .ok (.if_icmp .ne 7, 3) := by decide +kernel
theorem dX0_take_85 : decode cX0_take 85 = .ok (.iconst 1, 1) := by decide +kernel
theorem dX0_take_86 : decode cX0_take 86 = .ok (.goto 4, 3) := by decide +kernel
theorem dX0_take_89 : decode cX0_take 89 = .ok (.iconst 0, 1) := by decide +kernel
theorem dX0_take_90 : decode cX0_take 90 = .ok (.bastore, 1) := by decide +kernel
theorem dX0_take_91 : decode cX0_take 91 = .ok (.aload_n 0, 1) := by decide +kernel
theorem dX0_take_92 : decode cX0_take 92 = .ok (.getfield 11, 3) := by decide +kernel
theorem dX0_take_95 : decode cX0_take 95 = .ok (.iload 4, 2) := by decide +kernel
theorem dX0_take_97 : decode cX0_take 97 = .ok (.iaload, 1) := by decide +kernel
theorem dX0_take_98 : decode cX0_take 98 = .ok (.aload_n 0, 1) := by decide +kernel
theorem dX0_take_99 : decode cX0_take 99 = .ok (.getfield 42, 3) := by decide +kernel
theorem dX0_take_102 : decode cX0_take 102 = .ok (.iconst 4, 1) := by decide +kernel
theorem dX0_take_103 : decode cX0_take 103 = .ok (.invokevirtual 85, 3) := by decide +kernel
theorem dX0_take_106 : decode cX0_take 106 = .ok (.if_icmp .le 16, 3) := by decide +kernel
theorem dX0_take_109 : decode cX0_take 109 = .ok (.aload_n 0, 1) := by decide +kernel
theorem dX0_take_110 : decode cX0_take 110 = .ok (.getfield 23, 3) := by decide +kernel
theorem dX0_take_113 : decode cX0_take 113 = .ok (.iload 4, 2) := by decide +kernel
theorem dX0_take_115 : decode cX0_take 115 = .ok (.iconst 1, 1) := by decide +kernel
theorem dX0_take_116 : decode cX0_take 116 = .ok (.bastore, 1) := by decide +kernel
theorem dX0_take_117 : decode cX0_take 117 = .ok (.aload_n 0, 1) := by decide +kernel
theorem dX0_take_118 : decode cX0_take 118 = .ok (.iconst 1, 1) := by decide +kernel
theorem dX0_take_119 : decode cX0_take 119 = .ok (.putfield 53, 3) := by decide +kernel
theorem dX0_take_122 : decode cX0_take 122 = .ok (.aload_n 0, 1) := by decide +kernel
theorem dX0_take_123 : decode cX0_take 123 = .ok (.iload 4, 2) := by decide +kernel
theorem dX0_take_125 : decode cX0_take 125 = .ok (.invokevirtual 109, 3) := by decide +kernel
theorem dX0_take_128 : decode cX0_take 128 = .ok (.return_, 1) := by decide +kernel
theorem dX0_weightOf_0 : decode cX0_weightOf 0 = .ok (.iload_n 2, 1) := by decide +kernel
theorem dX0_weightOf_1 : decode cX0_weightOf 1 = .ok (.ifCond .ne 19, 3) := by decide +kernel
theorem dX0_weightOf_4 : decode cX0_weightOf 4 = .ok (.aload_n 0, 1) := by decide +kernel
theorem dX0_weightOf_5 : decode cX0_weightOf 5 = .ok (.getfield 46, 3) := by decide +kernel
theorem dX0_weightOf_8 : decode cX0_weightOf 8 = .ok (.iload_n 1, 1) := by decide +kernel
theorem dX0_weightOf_9 : decode cX0_weightOf 9 = .ok (.invokevirtual 117, 3) := by decide +kernel
theorem dX0_weightOf_12 : decode cX0_weightOf 12 = .ok (.iconst 2, 1) := by decide +kernel
theorem dX0_weightOf_13 : decode cX0_weightOf 13 = .ok (.if_icmp .ne 7, 3) := by decide +kernel
theorem dX0_weightOf_16 : decode cX0_weightOf 16 = .ok (.iconst 1, 1) := by decide +kernel
theorem dX0_weightOf_17 : decode cX0_weightOf 17 = .ok (.goto 4, 3) := by decide +kernel
theorem dX0_weightOf_20 : decode cX0_weightOf 20 = .ok (.iconst 0, 1) := by decide +kernel
theorem dX0_weightOf_21 : decode cX0_weightOf 21 = .ok (.istore 4, 2) := by decide +kernel
theorem dX0_weightOf_23 : decode cX0_weightOf 23 = .ok (.iload 4, 2) := by decide +kernel
theorem dX0_weightOf_25 : decode cX0_weightOf 25 = .ok (.ifCond .eq 25, 3) := by decide +kernel
theorem dX0_weightOf_28 : decode cX0_weightOf 28 = .ok (.aload_n 0, 1) := by decide +kernel
theorem dX0_weightOf_29 : decode cX0_weightOf 29 = .ok (.getfield 39, 3) := by decide +kernel
theorem dX0_weightOf_32 : decode cX0_weightOf 32 = .ok (.iload_n 1, 1) := by decide +kernel
theorem dX0_weightOf_33 : decode cX0_weightOf 33 = .ok (.iaload, 1) := by decide +kernel
theorem dX0_weightOf_34 : decode cX0_weightOf 34 = .ok (.iload_n 3, 1) := by decide +kernel
theorem dX0_weightOf_35 : decode cX0_weightOf 35 = .ok (.aload_n 0, 1) := by decide +kernel
theorem dX0_weightOf_36 : decode cX0_weightOf 36 = .ok (.getfield 42, 3) := by decide +kernel
theorem dX0_weightOf_39 : decode cX0_weightOf 39 = .ok (.bipush 7, 2) := by decide +kernel
theorem dX0_weightOf_41 : decode cX0_weightOf 41 = .ok (.invokevirtual 85, 3) := by decide +kernel
theorem dX0_weightOf_44 : decode cX0_weightOf 44 = .ok (.isub, 1) := by decide +kernel
theorem dX0_weightOf_45 : decode cX0_weightOf 45 = .ok (.if_icmp .ge 5, 3) := by decide +kernel
theorem dX0_weightOf_48 : decode cX0_weightOf 48 = .ok (.iconst 0, 1) := by decide +kernel
theorem dX0_weightOf_49 : decode cX0_weightOf 49 = .ok (.ireturn, 1) := by decide +kernel
theorem dX0_weightOf_50 : decode cX0_weightOf 50 = .ok (.aload_n 0, 1) := by decide +kernel
theorem dX0_weightOf_51 : decode cX0_weightOf 51 = .ok (.getfield 42, 3) := by decide +kernel
theorem dX0_weightOf_54 : decode cX0_weightOf 54 = .ok (.iload_n 2, 1) := by decide +kernel
theorem dX0_weightOf_55 : decode cX0_weightOf 55 = .ok (.invokevirtual 85, 3) := by decide +kernel
theorem dX0_weightOf_58 : decode cX0_weightOf 58 = .ok (.ireturn, 1) := by decide +kernel
theorem dX0_lookAt_0 : decode cX0_lookAt 0 = .ok (.aload_n 0, 1) := by decide +kernel
theorem dX0_lookAt_1 : decode cX0_lookAt 1 = .ok (.iload_n 1, 1) := by decide +kernel
theorem dX0_lookAt_2 : decode cX0_lookAt 2 = .ok (.invokevirtual 103, 3) := by decide +kernel
theorem dX0_lookAt_5 : decode cX0_lookAt 5 = .ok (.istore_n 2, 1) := by decide +kernel
theorem dX0_lookAt_6 : decode cX0_lookAt 6 = .ok (.iload_n 2, 1) := by decide +kernel
theorem dX0_lookAt_7 : decode cX0_lookAt 7 = .ok (.aload_n 0, 1) := by decide +kernel
theorem dX0_lookAt_8 : decode cX0_lookAt 8 = .ok (.iload_n 1, 1) := by decide +kernel
theorem dX0_lookAt_9 : decode cX0_lookAt 9 = .ok (.invokevirtual 106, 3) := by decide +kernel
theorem dX0_lookAt_12 : decode cX0_lookAt 12 = .ok (.if_icmp .ge 72, 3) := by decide +kernel
theorem dX0_lookAt_15 : decode cX0_lookAt 15 = .ok (.aload_n 0, 1) := by decide +kernel
theorem dX0_lookAt_16 : decode cX0_lookAt 16 = .ok (.getfield 27, 3) := by decide +kernel
theorem dX0_lookAt_19 : decode cX0_lookAt 19 = .ok (.iload_n 2, 1) := by decide +kernel
theorem dX0_lookAt_20 : decode cX0_lookAt 20 = .ok (.baload, 1) := by decide +kernel
theorem dX0_lookAt_21 : decode cX0_lookAt 21 = .ok (.ifCond .eq 16, 3) := by decide +kernel
theorem dX0_lookAt_24 : decode cX0_lookAt 24 = .ok (.aload_n 0, 1) := by decide +kernel
theorem dX0_lookAt_25 : decode cX0_lookAt 25 = .ok (.getfield 23, 3) := by decide +kernel
theorem dX0_lookAt_28 : decode cX0_lookAt 28 = .ok (.iload_n 1, 1) := by decide +kernel
theorem dX0_lookAt_29 : decode cX0_lookAt 29 = .ok (.baload, 1) := by decide +kernel
theorem dX0_lookAt_30 : decode cX0_lookAt 30 = .ok (.ifCond .ne 7, 3) := by decide +kernel
theorem dX0_lookAt_33 : decode cX0_lookAt 33 = .ok (.iconst 1, 1) := by decide +kernel
theorem dX0_lookAt_34 : decode cX0_lookAt 34 = .ok (.goto 4, 3) := by decide +kernel
theorem dX0_lookAt_37 : decode cX0_lookAt 37 = .ok (.iconst 0, 1) := by decide +kernel
theorem dX0_lookAt_38 : decode cX0_lookAt 38 = .ok (.istore_n 3, 1) := by decide +kernel
theorem dX0_lookAt_39 : decode cX0_lookAt 39 = .ok (.aload_n 0, 1) := by decide +kernel
theorem dX0_lookAt_40 : decode cX0_lookAt 40 = .ok (.getfield 46, 3) := by decide +kernel
theorem dX0_lookAt_43 : decode cX0_lookAt 43 = .ok (.iload_n 2, 1) := by decide +kernel
theorem dX0_lookAt_44 : decode cX0_lookAt 44 = .ok (.invokevirtual 62, 3) := by decide +kernel
theorem dX0_lookAt_47 : decode cX0_lookAt 47 = .ok (.iload_n 1, 1) := by decide +kernel
theorem dX0_lookAt_48 : decode cX0_lookAt 48 = .ok (.if_icmp .ne 30, 3) := by decide +kernel
theorem dX0_lookAt_51 : decode cX0_lookAt 51 = .ok (.iload_n 3, 1) := by decide +kernel
theorem dX0_lookAt_52 : decode cX0_lookAt 52 = .ok (.aload_n 0, 1) := by decide +kernel
theorem dX0_lookAt_53 : decode cX0_lookAt 53 = .ok (.getfield 30, 3) := by decide +kernel
theorem dX0_lookAt_56 : decode cX0_lookAt 56 = .ok (.iload_n 2, 1) := by decide +kernel
theorem dX0_lookAt_57 : decode cX0_lookAt 57 = .ok (.baload, 1) := by decide +kernel
theorem dX0_lookAt_58 : decode cX0_lookAt 58 = .ok (.if_icmp .eq 20, 3) := by decide +kernel
theorem dX0_lookAt_61 : decode cX0_lookAt 61 = .ok (.aload_n 0, 1) := by decide +kernel
theorem dX0_lookAt_62 : decode cX0_lookAt 62 = .ok (.getfield 30, 3) := by decide +kernel
theorem dX0_lookAt_65 : decode cX0_lookAt 65 = .ok (.iload_n 2, 1) := by decide +kernel
theorem dX0_lookAt_66 : decode cX0_lookAt 66 = .ok (.iload_n 3, 1) := by decide +kernel
theorem dX0_lookAt_67 : decode cX0_lookAt 67 = .ok (.bastore, 1) := by decide +kernel
theorem dX0_lookAt_68 : decode cX0_lookAt 68 = .ok (.aload_n 0, 1) := by decide +kernel
theorem dX0_lookAt_69 : decode cX0_lookAt 69 = .ok (.getfield 33, 3) := by decide +kernel
theorem dX0_lookAt_72 : decode cX0_lookAt 72 = .ok (.iload_n 2, 1) := by decide +kernel
theorem dX0_lookAt_73 : decode cX0_lookAt 73 = .ok (.dup2, 1) := by decide +kernel
theorem dX0_lookAt_74 : decode cX0_lookAt 74 = .ok (.iaload, 1) := by decide +kernel
theorem dX0_lookAt_75 : decode cX0_lookAt 75 = .ok (.iconst 1, 1) := by decide +kernel
theorem dX0_lookAt_76 : decode cX0_lookAt 76 = .ok (.iadd, 1) := by decide +kernel
theorem dX0_lookAt_77 : decode cX0_lookAt 77 = .ok (.iastore, 1) := by decide +kernel
theorem dX0_lookAt_78 : decode cX0_lookAt 78 = .ok (.iinc 2 1, 3) := by decide +kernel
theorem dX0_lookAt_81 : decode cX0_lookAt 81 = .ok (.goto (-75), 3) := by decide +kernel
theorem dX0_lookAt_84 : decode cX0_lookAt 84 = .ok (.return_, 1) := by decide +kernel
theorem dX0_firstOf_0 : decode cX0_firstOf 0 = .ok (.iload_n 1, 1) := by decide +kernel
theorem dX0_firstOf_1 : decode cX0_firstOf 1 = .ok (.bipush 12, 2) := by decide +kernel
theorem dX0_firstOf_3 : decode cX0_firstOf 3 = .ok (.if_icmp .ge 7, 3) := by decide +kernel
theorem dX0_firstOf_6 : decode cX0_firstOf 6 = .ok (.iload_n 1, 1) := by decide +kernel
theorem dX0_firstOf_7 : decode cX0_firstOf 7 = .ok (.goto 4, 3) := by decide +kernel
theorem dX0_firstOf_10 : decode cX0_firstOf 10 = .ok (.iconst 0, 1) := by decide +kernel
theorem dX0_firstOf_11 : decode cX0_firstOf 11 = .ok (.ireturn, 1) := by decide +kernel
theorem dX0_endOf_0 : decode cX0_endOf 0 = .ok (.aload_n 0, 1) := by decide +kernel
theorem dX0_endOf_1 : decode cX0_endOf 1 = .ok (.getfield 46, 3) := by decide +kernel
theorem dX0_endOf_4 : decode cX0_endOf 4 = .ok (.invokevirtual 69, 3) := by decide +kernel
theorem dX0_endOf_7 : decode cX0_endOf 7 = .ok (.iload_n 1, 1) := by decide +kernel
theorem dX0_endOf_8 : decode cX0_endOf 8 = .ok (.bipush 12, 2) := by decide +kernel
theorem dX0_endOf_10 : decode cX0_endOf 10 = .ok (.if_icmp .ge 9, 3) := by decide +kernel
theorem dX0_endOf_13 : decode cX0_endOf 13 = .ok (.iload_n 1, 1) := by decide +kernel
theorem dX0_endOf_14 : decode cX0_endOf 14 = .ok (.iconst 1, 1) := by decide +kernel
theorem dX0_endOf_15 : decode cX0_endOf 15 = .ok (.iadd, 1) := by decide +kernel
theorem dX0_endOf_16 : decode cX0_endOf 16 = .ok (.goto 5, 3) := by decide +kernel
theorem dX0_endOf_19 : decode cX0_endOf 19 = .ok (.bipush 12, 2) := by decide +kernel
theorem dX0_endOf_21 : decode cX0_endOf 21 = .ok (.invokestatic 100, 3) := by decide +kernel
theorem dX0_endOf_24 : decode cX0_endOf 24 = .ok (.ireturn, 1) := by decide +kernel
theorem dX1_init_0 : decode cX1_init 0 = .ok (.aload_n 0, 1) := by decide +kernel
theorem dX1_init_1 : decode cX1_init 1 = .ok (.invokespecial 3, 3) := by decide +kernel
theorem dX1_init_4 : decode cX1_init 4 = .ok (.aload_n 0, 1) := by decide +kernel
theorem dX1_init_5 : decode cX1_init 5 = .ok (.sipush 300, 3) := by decide +kernel
theorem dX1_init_8 : decode cX1_init 8 = .ok (.newarray .int, 2) := by decide +kernel
theorem dX1_init_10 : decode cX1_init 10 = .ok (.putfield 9, 3) := by decide +kernel
theorem dX1_init_13 : decode cX1_init 13 = .ok (.aload_n 0, 1) := by decide +kernel
theorem dX1_init_14 : decode cX1_init 14 = .ok (.sipush 300, 3) := by decide +kernel
theorem dX1_init_17 : decode cX1_init 17 = .ok (.newarray .int, 2) := by decide +kernel
theorem dX1_init_19 : decode cX1_init 19 = .ok (.putfield 15, 3) := by decide +kernel
theorem dX1_init_22 : decode cX1_init 22 = .ok (.aload_n 0, 1) := by decide +kernel
theorem dX1_init_23 : decode cX1_init 23 = .ok (.sipush 300, 3) := by decide +kernel
theorem dX1_init_26 : decode cX1_init 26 = .ok (.newarray .int, 2) := by decide +kernel
theorem dX1_init_28 : decode cX1_init 28 = .ok (.putfield 18, 3) := by decide +kernel
theorem dX1_init_31 : decode cX1_init 31 = .ok (.aload_n 0, 1) := by decide +kernel
theorem dX1_init_32 : decode cX1_init 32 = .ok (.iconst 0, 1) := by decide +kernel
theorem dX1_init_33 : decode cX1_init 33 = .ok (.putfield 21, 3) := by decide +kernel
theorem dX1_init_36 : decode cX1_init 36 = .ok (.return_, 1) := by decide +kernel
theorem dX1_size_0 : decode cX1_size 0 = .ok (.aload_n 0, 1) := by decide +kernel
theorem dX1_size_1 : decode cX1_size 1 = .ok (.getfield 21, 3) := by decide +kernel
theorem dX1_size_4 : decode cX1_size 4 = .ok (.ireturn, 1) := by decide +kernel
theorem dX1_isFull_0 : decode cX1_isFull 0 = .ok (.aload_n 0, 1) := by decide +kernel
theorem dX1_isFull_1 : decode cX1_isFull 1 = .ok (.getfield 21, 3) := by decide +kernel
theorem dX1_isFull_4 : decode cX1_isFull 4 = .ok (.sipush 300, 3) := by decide +kernel
theorem dX1_isFull_7 : decode cX1_isFull 7 = .ok (.if_icmp .lt 7, 3) := by decide +kernel
theorem dX1_isFull_10 : decode cX1_isFull 10 = .ok (.iconst 1, 1) := by decide +kernel
theorem dX1_isFull_11 : decode cX1_isFull 11 = .ok (.goto 4, 3) := by decide +kernel
theorem dX1_isFull_14 : decode cX1_isFull 14 = .ok (.iconst 0, 1) := by decide +kernel
theorem dX1_isFull_15 : decode cX1_isFull 15 = .ok (.ireturn, 1) := by decide +kernel
theorem dX1_write_0 : decode cX1_write 0 = .ok (.aload_n 0, 1) := by decide +kernel
theorem dX1_write_1 : decode cX1_write 1 = .ok (.getfield 9, 3) := by decide +kernel
theorem dX1_write_4 : decode cX1_write 4 = .ok (.aload_n 0, 1) := by decide +kernel
theorem dX1_write_5 : decode cX1_write 5 = .ok (.getfield 21, 3) := by decide +kernel
theorem dX1_write_8 : decode cX1_write 8 = .ok (.iload_n 1, 1) := by decide +kernel
theorem dX1_write_9 : decode cX1_write 9 = .ok (.iastore, 1) := by decide +kernel
theorem dX1_write_10 : decode cX1_write 10 = .ok (.aload_n 0, 1) := by decide +kernel
theorem dX1_write_11 : decode cX1_write 11 = .ok (.getfield 15, 3) := by decide +kernel
theorem dX1_write_14 : decode cX1_write 14 = .ok (.aload_n 0, 1) := by decide +kernel
theorem dX1_write_15 : decode cX1_write 15 = .ok (.getfield 21, 3) := by decide +kernel
theorem dX1_write_18 : decode cX1_write 18 = .ok (.iload_n 2, 1) := by decide +kernel
theorem dX1_write_19 : decode cX1_write 19 = .ok (.iastore, 1) := by decide +kernel
theorem dX1_write_20 : decode cX1_write 20 = .ok (.aload_n 0, 1) := by decide +kernel
theorem dX1_write_21 : decode cX1_write 21 = .ok (.getfield 18, 3) := by decide +kernel
theorem dX1_write_24 : decode cX1_write 24 = .ok (.aload_n 0, 1) := by decide +kernel
theorem dX1_write_25 : decode cX1_write 25 = .ok (.getfield 21, 3) := by decide +kernel
theorem dX1_write_28 : decode cX1_write 28 = .ok (.iload_n 3, 1) := by decide +kernel
theorem dX1_write_29 : decode cX1_write 29 = .ok (.iastore, 1) := by decide +kernel
theorem dX1_write_30 : decode cX1_write 30 = .ok (.aload_n 0, 1) := by decide +kernel
theorem dX1_write_31 : decode cX1_write 31 = .ok (.dup, 1) := by decide +kernel
theorem dX1_write_32 : decode cX1_write 32 = .ok (.getfield 21, 3) := by decide +kernel
theorem dX1_write_35 : decode cX1_write 35 = .ok (.iconst 1, 1) := by decide +kernel
theorem dX1_write_36 : decode cX1_write 36 = .ok (.iadd, 1) := by decide +kernel
theorem dX1_write_37 : decode cX1_write 37 = .ok (.putfield 21, 3) := by decide +kernel
theorem dX1_write_40 : decode cX1_write 40 = .ok (.return_, 1) := by decide +kernel
theorem dX1_lineAt_0 : decode cX1_lineAt 0 = .ok (.aload_n 0, 1) := by decide +kernel
theorem dX1_lineAt_1 : decode cX1_lineAt 1 = .ok (.getfield 9, 3) := by decide +kernel
theorem dX1_lineAt_4 : decode cX1_lineAt 4 = .ok (.iload_n 1, 1) := by decide +kernel
theorem dX1_lineAt_5 : decode cX1_lineAt 5 = .ok (.iaload, 1) := by decide +kernel
theorem dX1_lineAt_6 : decode cX1_lineAt 6 = .ok (.ireturn, 1) := by decide +kernel
theorem dX1_whatAt_0 : decode cX1_whatAt 0 = .ok (.aload_n 0, 1) := by decide +kernel
theorem dX1_whatAt_1 : decode cX1_whatAt 1 = .ok (.getfield 15, 3) := by decide +kernel
theorem dX1_whatAt_4 : decode cX1_whatAt 4 = .ok (.iload_n 1, 1) := by decide +kernel
theorem dX1_whatAt_5 : decode cX1_whatAt 5 = .ok (.iaload, 1) := by decide +kernel
theorem dX1_whatAt_6 : decode cX1_whatAt 6 = .ok (.ireturn, 1) := by decide +kernel
theorem dX1_tickAt_0 : decode cX1_tickAt 0 = .ok (.aload_n 0, 1) := by decide +kernel
theorem dX1_tickAt_1 : decode cX1_tickAt 1 = .ok (.getfield 18, 3) := by decide +kernel
theorem dX1_tickAt_4 : decode cX1_tickAt 4 = .ok (.iload_n 1, 1) := by decide +kernel
theorem dX1_tickAt_5 : decode cX1_tickAt 5 = .ok (.iaload, 1) := by decide +kernel
theorem dX1_tickAt_6 : decode cX1_tickAt 6 = .ok (.ireturn, 1) := by decide +kernel
theorem dX2_init_0 : decode cX2_init 0 = .ok (.aload_n 0, 1) := by decide +kernel
theorem dX2_init_1 : decode cX2_init 1 = .ok (.invokespecial 3, 3) := by decide +kernel
theorem dX2_init_4 : decode cX2_init 4 = .ok (.aload_n 0, 1) := by decide +kernel
theorem dX2_init_5 : decode cX2_init 5 = .ok (.bipush 25, 2) := by decide +kernel
theorem dX2_init_7 : decode cX2_init 7 = .ok (.newarray .boolean, 2) := by decide +kernel
theorem dX2_init_9 : decode cX2_init 9 = .ok (.putfield 11, 3) := by decide +kernel
theorem dX2_init_12 : decode cX2_init 12 = .ok (.aload_n 0, 1) := by decide +kernel
theorem dX2_init_13 : decode cX2_init 13 = .ok (.bipush 25, 2) := by decide +kernel
theorem dX2_init_15 : decode cX2_init 15 = .ok (.newarray .int, 2) := by decide +kernel
theorem dX2_init_17 : decode cX2_init 17 = .ok (.putfield 15, 3) := by decide +kernel
theorem dX2_init_20 : decode cX2_init 20 = .ok (.aload_n 0, 1) := by decide +kernel
theorem dX2_init_21 : decode cX2_init 21 = .ok (.bipush 25, 2) := by decide +kernel
theorem dX2_init_23 : decode cX2_init 23 = .ok (.newarray .int, 2) := by decide +kernel
theorem dX2_init_25 : decode cX2_init 25 = .ok (.putfield 19, 3) := by decide +kernel
theorem dX2_init_28 : decode cX2_init 28 = .ok (.aload_n 0, 1) := by decide +kernel
theorem dX2_init_29 : decode cX2_init 29 = .ok (.iconst 5, 1) := by decide +kernel
theorem dX2_init_30 : decode cX2_init 30 = .ok (.newarray .int, 2) := by decide +kernel
theorem dX2_init_32 : decode cX2_init 32 = .ok (.putfield 22, 3) := by decide +kernel
theorem dX2_init_35 : decode cX2_init 35 = .ok (.aload_n 0, 1) := by decide +kernel
theorem dX2_init_36 : decode cX2_init 36 = .ok (.iconst 5, 1) := by decide +kernel
theorem dX2_init_37 : decode cX2_init 37 = .ok (.newarray .int, 2) := by decide +kernel
theorem dX2_init_39 : decode cX2_init 39 = .ok (.putfield 25, 3) := by decide +kernel
theorem dX2_init_42 : decode cX2_init 42 = .ok (.aload_n 0, 1) := by decide +kernel
theorem dX2_init_43 : decode cX2_init 43 = .ok (.sipush 2000, 3) := by decide +kernel
theorem dX2_init_46 : decode cX2_init 46 = .ok (.newarray .int, 2) := by decide +kernel
theorem dX2_init_48 : decode cX2_init 48 = .ok (.putfield 28, 3) := by decide +kernel
theorem dX2_init_51 : decode cX2_init 51 = .ok (.aload_n 0, 1) := by decide +kernel
theorem dX2_init_52 : decode cX2_init 52 = .ok (.iconst 0, 1) := by decide +kernel
theorem dX2_init_53 : decode cX2_init 53 = .ok (.putfield 31, 3) := by decide +kernel
theorem dX2_init_56 : decode cX2_init 56 = .ok (.aload_n 0, 1) := by decide +kernel
theorem dX2_init_57 : decode cX2_init 57 = .ok (.iconst 0, 1) := by decide +kernel
theorem dX2_init_58 : decode cX2_init 58 = .ok (.putfield 35, 3) := by decide +kernel
theorem dX2_init_61 : decode cX2_init 61 = .ok (.aload_n 0, 1) := by decide +kernel
theorem dX2_init_62 : decode cX2_init 62 = .ok (.iconst 0, 1) := by decide +kernel
theorem dX2_init_63 : decode cX2_init 63 = .ok (.putfield 38, 3) := by decide +kernel
theorem dX2_init_66 : decode cX2_init 66 = .ok (.aload_n 0, 1) := by decide +kernel
theorem dX2_init_67 : decode cX2_init 67 = .ok (.iconst 0, 1) := by decide +kernel
theorem dX2_init_68 : decode cX2_init 68 = .ok (.putfield 41, 3) := by decide +kernel
theorem dX2_init_71 : decode cX2_init 71 = .ok (.aload_n 0, 1) := by decide +kernel
theorem dX2_init_72 : decode cX2_init 72 = .ok (.iconst 0, 1) := by decide +kernel
theorem dX2_init_73 : decode cX2_init 73 = .ok (.putfield 44, 3) := by decide +kernel
theorem dX2_init_76 : decode cX2_init 76 = .ok (.iconst 0, 1) := by decide +kernel
theorem dX2_init_77 : decode cX2_init 77 = .ok (.istore_n 1, 1) := by decide +kernel
theorem dX2_init_78 : decode cX2_init 78 = .ok (.iload_n 1, 1) := by decide +kernel
theorem dX2_init_79 : decode cX2_init 79 = .ok (.aload_n 0, 1) := by decide +kernel
theorem dX2_init_80 : decode cX2_init 80 = .ok (.getfield 19, 3) := by decide +kernel
theorem dX2_init_83 : decode cX2_init 83 = .ok (.arraylength, 1) := by decide +kernel
theorem dX2_init_84 : decode cX2_init 84 = .ok (.if_icmp .ge 16, 3) := by decide +kernel
theorem dX2_init_87 : decode cX2_init 87 = .ok (.aload_n 0, 1) := by decide +kernel
theorem dX2_init_88 : decode cX2_init 88 = .ok (.getfield 19, 3) := by decide +kernel
theorem dX2_init_91 : decode cX2_init 91 = .ok (.iload_n 1, 1) := by decide +kernel
theorem dX2_init_92 : decode cX2_init 92 = .ok (.iconst (-1), 1) := by decide +kernel
theorem dX2_init_93 : decode cX2_init 93 = .ok (.iastore, 1) := by decide +kernel
theorem dX2_init_94 : decode cX2_init 94 = .ok (.iinc 1 1, 3) := by decide +kernel
theorem dX2_init_97 : decode cX2_init 97 = .ok (.goto (-19), 3) := by decide +kernel
theorem dX2_init_100 : decode cX2_init 100 = .ok (.return_, 1) := by decide +kernel
theorem dX2_isHouse_0 : decode cX2_isHouse 0 = .ok (.iload_n 0, 1) := by decide +kernel
theorem dX2_isHouse_1 : decode cX2_isHouse 1 = .ok (.ifCond .lt 12, 3) := by decide +kernel
theorem dX2_isHouse_4 : decode cX2_isHouse 4 = .ok (.iload_n 0, 1) := by decide +kernel
theorem dX2_isHouse_5 : decode cX2_isHouse 5 = .ok (.iconst 5, 1) := by decide +kernel
theorem dX2_isHouse_6 : decode cX2_isHouse 6 = .ok (.if_icmp .ge 7, 3) := by decide +kernel
theorem dX2_isHouse_9 : decode cX2_isHouse 9 = .ok (.iconst 1, 1) := by decide +kernel
theorem dX2_isHouse_10 : decode cX2_isHouse 10 = .ok (.goto 4, 3) := by decide +kernel
theorem dX2_isHouse_13 : decode cX2_isHouse 13 = .ok (.iconst 0, 1) := by decide +kernel
theorem dX2_isHouse_14 : decode cX2_isHouse 14 = .ok (.ireturn, 1) := by decide +kernel
theorem dX2_place_0 : decode cX2_place 0 = .ok (.iload_n 0, 1) := by decide +kernel
theorem dX2_place_1 : decode cX2_place 1 = .ok (.iconst 5, 1) := by decide +kernel
theorem dX2_place_2 : decode cX2_place 2 = .ok (.imul, 1) := by decide +kernel
theorem dX2_place_3 : decode cX2_place 3 = .ok (.iload_n 1, 1) := by decide +kernel
theorem dX2_place_4 : decode cX2_place 4 = .ok (.iadd, 1) := by decide +kernel
theorem dX2_place_5 : decode cX2_place 5 = .ok (.ireturn, 1) := by decide +kernel
theorem dX2_hasWay_0 : decode cX2_hasWay 0 = .ok (.aload_n 0, 1) := by decide +kernel
theorem dX2_hasWay_1 : decode cX2_hasWay 1 = .ok (.getfield 11, 3) := by decide +kernel
theorem dX2_hasWay_4 : decode cX2_hasWay 4 = .ok (.iload_n 1, 1) := by decide +kernel
theorem dX2_hasWay_5 : decode cX2_hasWay 5 = .ok (.iload_n 2, 1) := by decide +kernel
theorem dX2_hasWay_6 : decode cX2_hasWay 6 = .ok (.invokestatic 48, 3) := by decide +kernel
theorem dX2_hasWay_9 : decode cX2_hasWay 9 = .ok (.baload, 1) := by decide +kernel
theorem dX2_hasWay_10 : decode cX2_hasWay 10 = .ok (.ireturn, 1) := by decide +kernel
theorem dX2_putWay_0 : decode cX2_putWay 0 = .ok (.aload_n 0, 1) := by decide +kernel
theorem dX2_putWay_1 : decode cX2_putWay 1 = .ok (.getfield 11, 3) := by decide +kernel
theorem dX2_putWay_4 : decode cX2_putWay 4 = .ok (.iload_n 1, 1) := by decide +kernel
theorem dX2_putWay_5 : decode cX2_putWay 5 = .ok (.iload_n 2, 1) := by decide +kernel
theorem dX2_putWay_6 : decode cX2_putWay 6 = .ok (.invokestatic 48, 3) := by decide +kernel
theorem dX2_putWay_9 : decode cX2_putWay 9 = .ok (.iload_n 3, 1) := by decide +kernel
theorem dX2_putWay_10 : decode cX2_putWay 10 = .ok (.bastore, 1) := by decide +kernel
theorem dX2_putWay_11 : decode cX2_putWay 11 = .ok (.aload_n 0, 1) := by decide +kernel
theorem dX2_putWay_12 : decode cX2_putWay 12 = .ok (.getfield 11, 3) := by decide +kernel
theorem dX2_putWay_15 : decode cX2_putWay 15 = .ok (.iload_n 2, 1) := by decide +kernel
theorem dX2_putWay_16 : decode cX2_putWay 16 = .ok (.iload_n 1, 1) := by decide +kernel
theorem dX2_putWay_17 : decode cX2_putWay 17 = .ok (.invokestatic 48, 3) := by decide +kernel
theorem dX2_putWay_20 : decode cX2_putWay 20 = .ok (.iload_n 3, 1) := by decide +kernel
theorem dX2_putWay_21 : decode cX2_putWay 21 = .ok (.bastore, 1) := by decide +kernel
theorem dX2_putWay_22 : decode cX2_putWay 22 = .ok (.aload_n 0, 1) := by decide +kernel
theorem dX2_putWay_23 : decode cX2_putWay 23 = .ok (.dup, 1) := by decide +kernel
theorem dX2_putWay_24 : decode cX2_putWay 24 = .ok (.getfield 41, 3) := by decide +kernel
theorem dX2_putWay_27 : decode cX2_putWay 27 = .ok (.iload_n 3, 1) := by decide +kernel
theorem dX2_putWay_28 : decode cX2_putWay 28 = .ok (.ifCond .eq 7, 3) := by decide +kernel
theorem dX2_putWay_31 : decode cX2_putWay 31 = .ok (.iconst 1, 1) := by decide +kernel
theorem dX2_putWay_32 : decode cX2_putWay 32 = .ok (.goto 4, 3) := by decide +kernel
theorem dX2_putWay_35 : decode cX2_putWay 35 = .ok (.iconst (-1), 1) := by decide +kernel
theorem dX2_putWay_36 : decode cX2_putWay 36 = .ok (.iadd, 1) := by decide +kernel
theorem dX2_putWay_37 : decode cX2_putWay 37 = .ok (.putfield 41, 3) := by decide +kernel
theorem dX2_putWay_40 : decode cX2_putWay 40 = .ok (.iload_n 3, 1) := by decide +kernel
theorem dX2_putWay_41 : decode cX2_putWay 41 = .ok (.ifCond .ne 25, 3) := by decide +kernel
theorem dX2_putWay_44 : decode cX2_putWay 44 = .ok (.aload_n 0, 1) := by decide +kernel
theorem dX2_putWay_45 : decode cX2_putWay 45 = .ok (.getfield 15, 3) := by decide +kernel
theorem dX2_putWay_48 : decode cX2_putWay 48 = .ok (.iload_n 1, 1) := by decide +kernel
theorem dX2_putWay_49 : decode cX2_putWay 49 = .ok (.iload_n 2, 1) := by decide +kernel
theorem dX2_putWay_50 : decode cX2_putWay 50 = .ok (.invokestatic 48, 3) := by decide +kernel
theorem dX2_putWay_53 : decode cX2_putWay 53 = .ok (.iconst 0, 1) := by decide +kernel
theorem dX2_putWay_54 : decode cX2_putWay 54 = .ok (.iastore, 1) := by decide +kernel
theorem dX2_putWay_55 : decode cX2_putWay 55 = .ok (.aload_n 0, 1) := by decide +kernel
theorem dX2_putWay_56 : decode cX2_putWay 56 = .ok (.getfield 15, 3) := by decide +kernel
theorem dX2_putWay_59 : decode cX2_putWay 59 = .ok (.iload_n 2, 1) := by decide +kernel
theorem dX2_putWay_60 : decode cX2_putWay 60 = .ok (.iload_n 1, 1) := by decide +kernel
theorem dX2_putWay_61 : decode cX2_putWay 61 = .ok (.invokestatic 48, 3) := by decide +kernel
theorem dX2_putWay_64 : decode cX2_putWay 64 = .ok (.iconst 0, 1) := by decide +kernel
theorem dX2_putWay_65 : decode cX2_putWay 65 = .ok (.iastore, 1) := by decide +kernel
theorem dX2_putWay_66 : decode cX2_putWay 66 = .ok (.return_, 1) := by decide +kernel
theorem dX2_ways_0 : decode cX2_ways 0 = .ok (.aload_n 0, 1) := by decide +kernel
theorem dX2_ways_1 : decode cX2_ways 1 = .ok (.getfield 41, 3) := by decide +kernel
theorem dX2_ways_4 : decode cX2_ways 4 = .ok (.ireturn, 1) := by decide +kernel
theorem dX2_putBound_0 : decode cX2_putBound 0 = .ok (.aload_n 0, 1) := by decide +kernel
theorem dX2_putBound_1 : decode cX2_putBound 1 = .ok (.getfield 19, 3) := by decide +kernel
theorem dX2_putBound_4 : decode cX2_putBound 4 = .ok (.iload_n 1, 1) := by decide +kernel
theorem dX2_putBound_5 : decode cX2_putBound 5 = .ok (.iload_n 2, 1) := by decide +kernel
theorem dX2_putBound_6 : decode cX2_putBound 6 = .ok (.invokestatic 48, 3) := by decide +kernel
theorem dX2_putBound_9 : decode cX2_putBound 9 = .ok (.iload_n 3, 1) := by decide +kernel
theorem dX2_putBound_10 : decode cX2_putBound 10 = .ok (.iastore, 1) := by decide +kernel
theorem dX2_putBound_11 : decode cX2_putBound 11 = .ok (.return_, 1) := by decide +kernel
theorem dX2_echoesOf_0 : decode cX2_echoesOf 0 = .ok (.aload_n 0, 1) := by decide +kernel
theorem dX2_echoesOf_1 : decode cX2_echoesOf 1 = .ok (.getfield 25, 3) := by decide +kernel
theorem dX2_echoesOf_4 : decode cX2_echoesOf 4 = .ok (.iload_n 1, 1) := by decide +kernel
theorem dX2_echoesOf_5 : decode cX2_echoesOf 5 = .ok (.iaload, 1) := by decide +kernel
theorem dX2_echoesOf_6 : decode cX2_echoesOf 6 = .ok (.ireturn, 1) := by decide +kernel
theorem dX2_lettersOfAll_0 : decode cX2_lettersOfAll 0 = .ok (.aload_n 0, 1) := by decide +kernel
theorem dX2_lettersOfAll_1 : decode cX2_lettersOfAll 1 = .ok (.getfield 38, 3) := by decide +kernel
theorem dX2_lettersOfAll_4 : decode cX2_lettersOfAll 4 = .ok (.ireturn, 1) := by decide +kernel
theorem dX2_ownAt_0 : decode cX2_ownAt 0 = .ok (.iload_n 2, 1) := by decide +kernel
theorem dX2_ownAt_1 : decode cX2_ownAt 1 = .ok (.iconst 5, 1) := by decide +kernel
theorem dX2_ownAt_2 : decode cX2_ownAt 2 = .ok (.if_icmp .lt 5, 3) := by decide +kernel
theorem dX2_ownAt_5 : decode cX2_ownAt 5 = .ok (.iconst (-1), 1) := by decide +kernel
theorem dX2_ownAt_6 : decode cX2_ownAt 6 = .ok (.ireturn, 1) := by decide +kernel
theorem dX2_ownAt_7 : decode cX2_ownAt 7 = .ok (.aload_n 0, 1) := by decide +kernel
theorem dX2_ownAt_8 : decode cX2_ownAt 8 = .ok (.getfield 22, 3) := by decide +kernel
theorem dX2_ownAt_11 : decode cX2_ownAt 11 = .ok (.iload_n 1, 1) := by decide +kernel
theorem dX2_ownAt_12 : decode cX2_ownAt 12 = .ok (.iaload, 1) := by decide +kernel
theorem dX2_ownAt_13 : decode cX2_ownAt 13 = .ok (.iconst 3, 1) := by decide +kernel
theorem dX2_ownAt_14 : decode cX2_ownAt 14 = .ok (.iload_n 2, 1) := by decide +kernel
theorem dX2_ownAt_15 : decode cX2_ownAt 15 = .ok (.imul, 1) := by decide +kernel
theorem dX2_ownAt_16 : decode cX2_ownAt 16 = .ok (.ishr, 1) := by decide +kernel
theorem dX2_ownAt_17 : decode cX2_ownAt 17 = .ok (.bipush 7, 2) := by decide +kernel
theorem dX2_ownAt_19 : decode cX2_ownAt 19 = .ok (.iand, 1) := by decide +kernel
theorem dX2_ownAt_20 : decode cX2_ownAt 20 = .ok (.iconst 1, 1) := by decide +kernel
theorem dX2_ownAt_21 : decode cX2_ownAt 21 = .ok (.isub, 1) := by decide +kernel
theorem dX2_ownAt_22 : decode cX2_ownAt 22 = .ok (.ireturn, 1) := by decide +kernel
theorem dX2_startFlood_0 : decode cX2_startFlood 0 = .ok (.aload_n 0, 1) := by decide +kernel
theorem dX2_startFlood_1 : decode cX2_startFlood 1 = .ok (.iload_n 1, 1) := by decide +kernel
theorem dX2_startFlood_2 : decode cX2_startFlood 2 = .ok (.putfield 44, 3) := by decide +kernel
theorem dX2_startFlood_5 : decode cX2_startFlood 5 = .ok (.aload_n 0, 1) := by decide +kernel
theorem dX2_startFlood_6 : decode cX2_startFlood 6 = .ok (.iconst 0, 1) := by decide +kernel
theorem dX2_startFlood_7 : decode cX2_startFlood 7 = .ok (.putfield 31, 3) := by decide +kernel
theorem dX2_startFlood_10 : decode cX2_startFlood 10 = .ok (.aload_n 0, 1) := by decide +kernel
theorem dX2_startFlood_11 : decode cX2_startFlood 11 = .ok (.iconst 0, 1) := by decide +kernel
theorem dX2_startFlood_12 : decode cX2_startFlood 12 = .ok (.putfield 35, 3) := by decide +kernel
theorem dX2_startFlood_15 : decode cX2_startFlood 15 = .ok (.iconst 0, 1) := by decide +kernel
theorem dX2_startFlood_16 : decode cX2_startFlood 16 = .ok (.istore_n 2, 1) := by decide +kernel
theorem dX2_startFlood_17 : decode cX2_startFlood 17 = .ok (.iload_n 2, 1) := by decide +kernel
theorem dX2_startFlood_18 : decode cX2_startFlood 18 = .ok (.iconst 5, 1) := by decide +kernel
theorem dX2_startFlood_19 : decode cX2_startFlood 19 = .ok (.if_icmp .ge 16, 3) := by decide +kernel
theorem dX2_startFlood_22 : decode cX2_startFlood 22 = .ok (.aload_n 0, 1) := by decide +kernel
theorem dX2_startFlood_23 : decode cX2_startFlood 23 = .ok (.getfield 25, 3) := by decide +kernel
theorem dX2_startFlood_26 : decode cX2_startFlood 26 = .ok (.iload_n 2, 1) := by decide +kernel
theorem dX2_startFlood_27 : decode cX2_startFlood 27 = .ok (.iconst 0, 1) := by decide +kernel
theorem dX2_startFlood_28 : decode cX2_startFlood 28 = .ok (.iastore, 1) := by decide +kernel
theorem dX2_startFlood_29 : decode cX2_startFlood 29 = .ok (.iinc 2 1, 3) := by decide +kernel
theorem dX2_startFlood_32 : decode cX2_startFlood 32 = .ok (.goto (-15), 3) := by decide +kernel
theorem dX2_startFlood_35 : decode cX2_startFlood 35 = .ok (.iconst 0, 1) := by decide +kernel
theorem dX2_startFlood_36 : decode cX2_startFlood 36 = .ok (.istore_n 2, 1) := by decide +kernel
theorem dX2_startFlood_37 : decode cX2_startFlood 37 = .ok (.iload_n 2, 1) := by decide +kernel
theorem dX2_startFlood_38 : decode cX2_startFlood 38 = .ok (.iconst 5, 1) := by decide +kernel
theorem dX2_startFlood_39 : decode cX2_startFlood 39 = .ok (.if_icmp .ge 14, 3) := by decide +kernel
theorem dX2_startFlood_42 : decode cX2_startFlood 42 = .ok (.aload_n 0, 1) := by decide +kernel
theorem dX2_startFlood_43 : decode cX2_startFlood 43 = .ok (.iload_n 2, 1) := by decide +kernel
theorem dX2_startFlood_44 : decode cX2_startFlood 44 = .ok (.invokevirtual 52, 3) := by decide +kernel
theorem dX2_startFlood_47 : decode cX2_startFlood 47 = .ok (.iinc 2 1, 3) := by decide +kernel
theorem dX2_startFlood_50 : decode cX2_startFlood 50 = .ok (.goto (-13), 3) := by decide +kernel
theorem dX2_startFlood_53 : decode cX2_startFlood 53 = .ok (.return_, 1) := by decide +kernel
theorem dX2_hasLetter_0 : decode cX2_hasLetter 0 = .ok (.aload_n 0, 1) := by decide +kernel
theorem dX2_hasLetter_1 : decode cX2_hasLetter 1 = .ok (.getfield 35, 3) := by decide +kernel
theorem dX2_hasLetter_4 : decode cX2_hasLetter 4 = .ok (.aload_n 0, 1) := by decide +kernel
theorem dX2_hasLetter_5 : decode cX2_hasLetter 5 = .ok (.getfield 31, 3) := by decide +kernel
theorem dX2_hasLetter_8 : decode cX2_hasLetter 8 = .ok (.if_icmp .ge 7, 3) := by decide +kernel
theorem dX2_hasLetter_11 : decode cX2_hasLetter 11 = .ok (.iconst 1, 1) := by decide +kernel
theorem dX2_hasLetter_12 : decode cX2_hasLetter 12 = .ok (.goto 4, 3) := by decide +kernel
theorem dX2_hasLetter_15 : decode cX2_hasLetter 15 = .ok (.iconst 0, 1) := by decide +kernel
theorem dX2_hasLetter_16 : decode cX2_hasLetter 16 = .ok (.ireturn, 1) := by decide +kernel
theorem dX2_takeLetter_0 : decode cX2_takeLetter 0 = .ok (.aload_n 0, 1) := by decide +kernel
theorem dX2_takeLetter_1 : decode cX2_takeLetter 1 = .ok (.invokevirtual 56, 3) := by decide +kernel
theorem dX2_takeLetter_4 : decode cX2_takeLetter 4 = .ok (.ifCond .ne 5, 3) := by decide +kernel
theorem dX2_takeLetter_7 : decode cX2_takeLetter 7 = .ok (.iconst (-1), 1) := by decide +kernel
theorem dX2_takeLetter_8 : decode cX2_takeLetter 8 = .ok (.ireturn, 1) := by decide +kernel
theorem dX2_takeLetter_9 : decode cX2_takeLetter 9 = .ok (.aload_n 0, 1) := by decide +kernel
theorem dX2_takeLetter_10 : decode cX2_takeLetter 10 = .ok (.getfield 28, 3) := by decide +kernel
theorem dX2_takeLetter_13 : decode cX2_takeLetter 13 = .ok (.aload_n 0, 1) := by decide +kernel
theorem dX2_takeLetter_14 : decode cX2_takeLetter 14 = .ok (.getfield 35, 3) := by decide +kernel
theorem dX2_takeLetter_17 : decode cX2_takeLetter 17 = .ok (.iaload, 1) := by decide +kernel
theorem dX2_takeLetter_18 : decode cX2_takeLetter 18 = .ok (.istore_n 1, 1) := by decide +kernel
theorem dX2_takeLetter_19 : decode cX2_takeLetter 19 = .ok (.aload_n 0, 1) := by decide +kernel
theorem dX2_takeLetter_20 : decode cX2_takeLetter 20 = .ok (.dup, 1) := by decide +kernel
theorem dX2_takeLetter_21 : decode cX2_takeLetter 21 = .ok (.getfield 35, 3) := by decide +kernel
theorem dX2_takeLetter_24 : decode cX2_takeLetter 24 = .ok (.iconst 1, 1) := by decide +kernel
theorem dX2_takeLetter_25 : decode cX2_takeLetter 25 = .ok (.iadd, 1) := by decide +kernel
theorem dX2_takeLetter_26 : decode cX2_takeLetter 26 = .ok (.putfield 35, 3) := by decide +kernel
theorem dX2_takeLetter_29 : decode cX2_takeLetter 29 = .ok (.aload_n 0, 1) := by decide +kernel
theorem dX2_takeLetter_30 : decode cX2_takeLetter 30 = .ok (.dup, 1) := by decide +kernel
theorem dX2_takeLetter_31 : decode cX2_takeLetter 31 = .ok (.getfield 38, 3) := by decide +kernel
theorem dX2_takeLetter_34 : decode cX2_takeLetter 34 = .ok (.iconst 1, 1) := by decide +kernel
theorem dX2_takeLetter_35 : decode cX2_takeLetter 35 = .ok (.iadd, 1) := by decide +kernel
theorem dX2_takeLetter_36 : decode cX2_takeLetter 36 = .ok (.putfield 38, 3) := by decide +kernel
theorem dX2_takeLetter_39 : decode cX2_takeLetter 39 = .ok (.iload_n 1, 1) := by decide +kernel
theorem dX2_takeLetter_40 : decode cX2_takeLetter 40 = .ok (.bipush 25, 2) := by decide +kernel
theorem dX2_takeLetter_42 : decode cX2_takeLetter 42 = .ok (.irem, 1) := by decide +kernel
theorem dX2_takeLetter_43 : decode cX2_takeLetter 43 = .ok (.istore_n 2, 1) := by decide +kernel
theorem dX2_takeLetter_44 : decode cX2_takeLetter 44 = .ok (.iload_n 1, 1) := by decide +kernel
theorem dX2_takeLetter_45 : decode cX2_takeLetter 45 = .ok (.bipush 25, 2) := by decide +kernel
theorem dX2_takeLetter_47 : decode cX2_takeLetter 47 = .ok (.idiv, 1) := by decide +kernel
theorem dX2_takeLetter_48 : decode cX2_takeLetter 48 = .ok (.istore_n 3, 1) := by decide +kernel
theorem dX2_takeLetter_49 : decode cX2_takeLetter 49 = .ok (.aload_n 0, 1) := by decide +kernel
theorem dX2_takeLetter_50 : decode cX2_takeLetter 50 = .ok (.getfield 15, 3) := by decide +kernel
theorem dX2_takeLetter_53 : decode cX2_takeLetter 53 = .ok (.iload_n 2, 1) := by decide +kernel
theorem dX2_takeLetter_54 : decode cX2_takeLetter 54 = .ok (.iaload, 1) := by decide +kernel
theorem dX2_takeLetter_55 : decode cX2_takeLetter 55 = .ok (.iload_n 3, 1) := by decide +kernel
theorem dX2_takeLetter_56 : decode cX2_takeLetter 56 = .ok (.if_icmp .ne 5, 3) := by decide +kernel
theorem dX2_takeLetter_59 : decode cX2_takeLetter 59 = .ok (.iconst (-1), 1) := by decide +kernel
theorem dX2_takeLetter_60 : decode cX2_takeLetter 60 = .ok (.ireturn, 1) := by decide +kernel
theorem dX2_takeLetter_61 : decode cX2_takeLetter 61 = .ok (.iload_n 2, 1) := by decide +kernel
theorem dX2_takeLetter_62 : decode cX2_takeLetter 62 = .ok (.iconst 5, 1) := by decide +kernel
theorem dX2_takeLetter_63 : decode cX2_takeLetter 63 = .ok (.idiv, 1) := by decide +kernel
theorem dX2_takeLetter_64 : decode cX2_takeLetter 64 = .ok (.istore 4, 2) := by decide +kernel
theorem dX2_takeLetter_66 : decode cX2_takeLetter 66 = .ok (.aload_n 0, 1) := by decide +kernel
theorem dX2_takeLetter_67 : decode cX2_takeLetter 67 = .ok (.getfield 15, 3) := by decide +kernel
theorem dX2_takeLetter_70 : decode cX2_takeLetter 70 = .ok (.iload_n 2, 1) := by decide +kernel
theorem dX2_takeLetter_71 : decode cX2_takeLetter 71 = .ok (.iload_n 3, 1) := by decide +kernel
theorem dX2_takeLetter_72 : decode cX2_takeLetter 72 = .ok (.iastore, 1) := by decide +kernel
theorem dX2_takeLetter_73 : decode cX2_takeLetter 73 = .ok (.aload_n 0, 1) := by decide +kernel
theorem dX2_takeLetter_74 : decode cX2_takeLetter 74 = .ok (.getfield 25, 3) := by decide +kernel
theorem dX2_takeLetter_77 : decode cX2_takeLetter 77 = .ok (.iload 4, 2) := by decide +kernel
theorem dX2_takeLetter_79 : decode cX2_takeLetter 79 = .ok (.dup2, 1) := by decide +kernel
theorem dX2_takeLetter_80 : decode cX2_takeLetter 80 = .ok (.iaload, 1) := by decide +kernel
theorem dX2_takeLetter_81 : decode cX2_takeLetter 81 = .ok (.iconst 1, 1) := by decide +kernel
theorem dX2_takeLetter_82 : decode cX2_takeLetter 82 = .ok (.iadd, 1) := by decide +kernel
theorem dX2_takeLetter_83 : decode cX2_takeLetter 83 = .ok (.iastore, 1) := by decide +kernel
theorem dX2_takeLetter_84 : decode cX2_takeLetter 84 = .ok (.aload_n 0, 1) := by decide +kernel
theorem dX2_takeLetter_85 : decode cX2_takeLetter 85 = .ok (.iload 4, 2) := by decide +kernel
theorem dX2_takeLetter_87 : decode cX2_takeLetter 87 = .ok (.invokevirtual 52, 3) := by decide +kernel
theorem dX2_takeLetter_90 : decode cX2_takeLetter 90 = .ok (.aload_n 0, 1) := by decide +kernel
theorem dX2_takeLetter_91 : decode cX2_takeLetter 91 = .ok (.getfield 19, 3) := by decide +kernel
theorem dX2_takeLetter_94 : decode cX2_takeLetter 94 = .ok (.iload_n 2, 1) := by decide +kernel
theorem dX2_takeLetter_95 : decode cX2_takeLetter 95 = .ok (.iaload, 1) := by decide +kernel
theorem dX2_takeLetter_96 : decode cX2_takeLetter 96 = .ok (.ireturn, 1) := by decide +kernel
theorem dX2_findOwn_0 : decode cX2_findOwn 0 = .ok (.iload_n 1, 1) := by decide +kernel
theorem dX2_findOwn_1 : decode cX2_findOwn 1 = .ok (.ifCond .ne 10, 3) := by decide +kernel
theorem dX2_findOwn_4 : decode cX2_findOwn 4 = .ok (.aload_n 0, 1) := by decide +kernel
theorem dX2_findOwn_5 : decode cX2_findOwn 5 = .ok (.invokevirtual 60, 3) := by decide +kernel
theorem dX2_findOwn_8 : decode cX2_findOwn 8 = .ok (.goto 8, 3) := by decide +kernel
theorem dX2_findOwn_11 : decode cX2_findOwn 11 = .ok (.aload_n 0, 1) := by decide +kernel
theorem dX2_findOwn_12 : decode cX2_findOwn 12 = .ok (.iload_n 1, 1) := by decide +kernel
theorem dX2_findOwn_13 : decode cX2_findOwn 13 = .ok (.invokevirtual 64, 3) := by decide +kernel
theorem dX2_findOwn_16 : decode cX2_findOwn 16 = .ok (.istore_n 2, 1) := by decide +kernel
theorem dX2_findOwn_17 : decode cX2_findOwn 17 = .ok (.iload_n 2, 1) := by decide +kernel
theorem dX2_findOwn_18 : decode cX2_findOwn 18 = .ok (.aload_n 0, 1) := by decide +kernel
theorem dX2_findOwn_19 : decode cX2_findOwn 19 = .ok (.getfield 22, 3) := by decide +kernel
theorem dX2_findOwn_22 : decode cX2_findOwn 22 = .ok (.iload_n 1, 1) := by decide +kernel
theorem dX2_findOwn_23 : decode cX2_findOwn 23 = .ok (.iaload, 1) := by decide +kernel
theorem dX2_findOwn_24 : decode cX2_findOwn 24 = .ok (.if_icmp .eq 16, 3) := by decide +kernel
theorem dX2_findOwn_27 : decode cX2_findOwn 27 = .ok (.aload_n 0, 1) := by decide +kernel
theorem dX2_findOwn_28 : decode cX2_findOwn 28 = .ok (.getfield 22, 3) := by decide +kernel
theorem dX2_findOwn_31 : decode cX2_findOwn 31 = .ok (.iload_n 1, 1) := by decide +kernel
theorem dX2_findOwn_32 : decode cX2_findOwn 32 = .ok (.iload_n 2, 1) := by decide +kernel
theorem dX2_findOwn_33 : decode cX2_findOwn 33 = .ok (.iastore, 1) := by decide +kernel
theorem dX2_findOwn_34 : decode cX2_findOwn 34 = .ok (.aload_n 0, 1) := by decide +kernel
theorem dX2_findOwn_35 : decode cX2_findOwn 35 = .ok (.iload_n 1, 1) := by decide +kernel
theorem dX2_findOwn_36 : decode cX2_findOwn 36 = .ok (.iload_n 2, 1) := by decide +kernel
theorem dX2_findOwn_37 : decode cX2_findOwn 37 = .ok (.invokevirtual 68, 3) := by decide +kernel
theorem dX2_findOwn_40 : decode cX2_findOwn 40 = .ok (.return_, 1) := by decide +kernel
theorem dX2_goalRow_0 : decode cX2_goalRow 0 = .ok (.aload_n 0, 1) := by decide +kernel
theorem dX2_goalRow_1 : decode cX2_goalRow 1 = .ok (.getfield 44, 3) := by decide +kernel
theorem dX2_goalRow_4 : decode cX2_goalRow 4 = .ok (.ifCond .eq 7, 3) := by decide +kernel
theorem dX2_goalRow_7 : decode cX2_goalRow 7 = .ok (.iconst 0, 1) := by decide +kernel
theorem dX2_goalRow_8 : decode cX2_goalRow 8 = .ok (.goto 4, 3) := by decide +kernel
theorem dX2_goalRow_11 : decode cX2_goalRow 11 = .ok (.iconst 1, 1) := by decide +kernel
theorem dX2_goalRow_12 : decode cX2_goalRow 12 = .ok (.ireturn, 1) := by decide +kernel
theorem dX2_shortestRow_0 : decode cX2_shortestRow 0 = .ok (.iconst 0, 1) := by decide +kernel
theorem dX2_shortestRow_1 : decode cX2_shortestRow 1 = .ok (.istore_n 2, 1) := by decide +kernel
theorem dX2_shortestRow_2 : decode cX2_shortestRow 2 = .ok (.iconst 0, 1) := by decide +kernel
theorem dX2_shortestRow_3 : decode cX2_shortestRow 3 = .ok (.istore_n 3, 1) := by decide +kernel
theorem dX2_shortestRow_4 : decode cX2_shortestRow 4 = .ok (.iload_n 3, 1) := by decide +kernel
theorem dX2_shortestRow_5 : decode cX2_shortestRow 5 = .ok (.iconst 5, 1) := by decide +kernel
theorem dX2_shortestRow_6 : decode cX2_shortestRow 6 = .ok (.if_icmp .ge 57, 3) := by decide +kernel
theorem dX2_shortestRow_9 : decode cX2_shortestRow 9 = .ok (.aload_n 0, 1) := by decide +kernel
theorem dX2_shortestRow_10 : decode cX2_shortestRow 10 = .ok (.getfield 15, 3) := by decide +kernel
theorem dX2_shortestRow_13 : decode cX2_shortestRow 13 = .ok (.iload_n 1, 1) := by decide +kernel
theorem dX2_shortestRow_14 : decode cX2_shortestRow 14 = .ok (.iload_n 3, 1) := by decide +kernel
theorem dX2_shortestRow_15 : decode cX2_shortestRow 15 = .ok (.invokestatic 48, 3) := by decide +kernel
theorem dX2_shortestRow_18 : decode cX2_shortestRow 18 = .ok (.iaload, 1) := by decide +kernel
theorem dX2_shortestRow_19 : decode cX2_shortestRow 19 = .ok (.istore 4, 2) := by decide +kernel
theorem dX2_shortestRow_21 : decode cX2_shortestRow 21 = .ok (.iload 4, 2) := by decide +kernel
theorem dX2_shortestRow_23 : decode cX2_shortestRow 23 = .ok (.ifCond .eq 34, 3) := by decide +kernel
theorem dX2_shortestRow_26 : decode cX2_shortestRow 26 = .ok (.iload 4, 2) := by decide +kernel
theorem dX2_shortestRow_28 : decode cX2_shortestRow 28 = .ok (.iload_n 1, 1) := by decide +kernel
theorem dX2_shortestRow_29 : decode cX2_shortestRow 29 = .ok (.invokestatic 72, 3) := by decide +kernel
theorem dX2_shortestRow_32 : decode cX2_shortestRow 32 = .ok (.ifCond .eq 6, 3) := by decide +kernel
theorem dX2_shortestRow_35 : decode cX2_shortestRow 35 = .ok (.goto 22, 3) := by decide +kernel
theorem dX2_shortestRow_38 : decode cX2_shortestRow 38 = .ok (.iload_n 2, 1) := by decide +kernel
theorem dX2_shortestRow_39 : decode cX2_shortestRow 39 = .ok (.ifCond .eq 15, 3) := by decide +kernel
theorem dX2_shortestRow_42 : decode cX2_shortestRow 42 = .ok (.iload 4, 2) := by decide +kernel
theorem dX2_shortestRow_44 : decode cX2_shortestRow 44 = .ok (.invokestatic 76, 3) := by decide +kernel
theorem dX2_shortestRow_47 : decode cX2_shortestRow 47 = .ok (.iload_n 2, 1) := by decide +kernel
theorem dX2_shortestRow_48 : decode cX2_shortestRow 48 = .ok (.invokestatic 76, 3) := by decide +kernel
theorem dX2_shortestRow_51 : decode cX2_shortestRow 51 = .ok (.if_icmp .ge 6, 3) := by decide +kernel
theorem dX2_shortestRow_54 : decode cX2_shortestRow 54 = .ok (.iload 4, 2) := by decide +kernel
theorem dX2_shortestRow_56 : decode cX2_shortestRow 56 = .ok (.istore_n 2, 1) := by decide +kernel
theorem dX2_shortestRow_57 : decode cX2_shortestRow 57 = .ok (.iinc 3 1, 3) := by decide +kernel
theorem dX2_shortestRow_60 : decode cX2_shortestRow 60 = .ok (.goto (-56), 3) := by decide +kernel
theorem dX2_shortestRow_63 : decode cX2_shortestRow 63 = .ok (.iload_n 2, 1) := by decide +kernel
theorem dX2_shortestRow_64 : decode cX2_shortestRow 64 = .ok (.ifCond .ne 7, 3) := by decide +kernel
theorem dX2_shortestRow_67 : decode cX2_shortestRow 67 = .ok (.iconst 0, 1) := by decide +kernel
theorem dX2_shortestRow_68 : decode cX2_shortestRow 68 = .ok (.goto 10, 3) := by decide +kernel
theorem dX2_shortestRow_71 : decode cX2_shortestRow 71 = .ok (.iload_n 2, 1) := by decide +kernel
theorem dX2_shortestRow_72 : decode cX2_shortestRow 72 = .ok (.iconst 3, 1) := by decide +kernel
theorem dX2_shortestRow_73 : decode cX2_shortestRow 73 = .ok (.ishl, 1) := by decide +kernel
theorem dX2_shortestRow_74 : decode cX2_shortestRow 74 = .ok (.iload_n 1, 1) := by decide +kernel
theorem dX2_shortestRow_75 : decode cX2_shortestRow 75 = .ok (.iconst 1, 1) := by decide +kernel
theorem dX2_shortestRow_76 : decode cX2_shortestRow 76 = .ok (.iadd, 1) := by decide +kernel
theorem dX2_shortestRow_77 : decode cX2_shortestRow 77 = .ok (.ior, 1) := by decide +kernel
theorem dX2_shortestRow_78 : decode cX2_shortestRow 78 = .ok (.ireturn, 1) := by decide +kernel
theorem dX2_holds_0 : decode cX2_holds 0 = .ok (.iconst 0, 1) := by decide +kernel
theorem dX2_holds_1 : decode cX2_holds 1 = .ok (.istore_n 2, 1) := by decide +kernel
theorem dX2_holds_2 : decode cX2_holds 2 = .ok (.iload_n 2, 1) := by decide +kernel
theorem dX2_holds_3 : decode cX2_holds 3 = .ok (.iconst 5, 1) := by decide +kernel
theorem dX2_holds_4 : decode cX2_holds 4 = .ok (.if_icmp .ge 25, 3) := by decide +kernel
theorem dX2_holds_7 : decode cX2_holds 7 = .ok (.iload_n 0, 1) := by decide +kernel
theorem dX2_holds_8 : decode cX2_holds 8 = .ok (.iconst 3, 1) := by decide +kernel
theorem dX2_holds_9 : decode cX2_holds 9 = .ok (.iload_n 2, 1) := by decide +kernel
theorem dX2_holds_10 : decode cX2_holds 10 = .ok (.imul, 1) := by decide +kernel
theorem dX2_holds_11 : decode cX2_holds 11 = .ok (.ishr, 1) := by decide +kernel
theorem dX2_holds_12 : decode cX2_holds 12 = .ok (.bipush 7, 2) := by decide +kernel
theorem dX2_holds_14 : decode cX2_holds 14 = .ok (.iand, 1) := by decide +kernel
theorem dX2_holds_15 : decode cX2_holds 15 = .ok (.iload_n 1, 1) := by decide +kernel
theorem dX2_holds_16 : decode cX2_holds 16 = .ok (.iconst 1, 1) := by decide +kernel
theorem dX2_holds_17 : decode cX2_holds 17 = .ok (.iadd, 1) := by decide +kernel
theorem dX2_holds_18 : decode cX2_holds 18 = .ok (.if_icmp .ne 5, 3) := by decide +kernel
theorem dX2_holds_21 : decode cX2_holds 21 = .ok (.iconst 1, 1) := by decide +kernel
theorem dX2_holds_22 : decode cX2_holds 22 = .ok (.ireturn, 1) := by decide +kernel
theorem dX2_holds_23 : decode cX2_holds 23 = .ok (.iinc 2 1, 3) := by decide +kernel
theorem dX2_holds_26 : decode cX2_holds 26 = .ok (.goto (-24), 3) := by decide +kernel
theorem dX2_holds_29 : decode cX2_holds 29 = .ok (.iconst 0, 1) := by decide +kernel
theorem dX2_holds_30 : decode cX2_holds 30 = .ok (.ireturn, 1) := by decide +kernel
theorem dX2_lengthOf_0 : decode cX2_lengthOf 0 = .ok (.iconst 0, 1) := by decide +kernel
theorem dX2_lengthOf_1 : decode cX2_lengthOf 1 = .ok (.istore_n 1, 1) := by decide +kernel
theorem dX2_lengthOf_2 : decode cX2_lengthOf 2 = .ok (.iload_n 1, 1) := by decide +kernel
theorem dX2_lengthOf_3 : decode cX2_lengthOf 3 = .ok (.iconst 5, 1) := by decide +kernel
theorem dX2_lengthOf_4 : decode cX2_lengthOf 4 = .ok (.if_icmp .ge 17, 3) := by decide +kernel
theorem dX2_lengthOf_7 : decode cX2_lengthOf 7 = .ok (.iload_n 0, 1) := by decide +kernel
theorem dX2_lengthOf_8 : decode cX2_lengthOf 8 = .ok (.iconst 3, 1) := by decide +kernel
theorem dX2_lengthOf_9 : decode cX2_lengthOf 9 = .ok (.iload_n 1, 1) := by decide +kernel
theorem dX2_lengthOf_10 : decode cX2_lengthOf 10 = .ok (.imul, 1) := by decide +kernel
theorem dX2_lengthOf_11 : decode cX2_lengthOf 11 = .ok (.ishr, 1) := by decide +kernel
theorem dX2_lengthOf_12 : decode cX2_lengthOf 12 = .ok (.ifCond .eq 9, 3) := by decide +kernel
theorem dX2_lengthOf_15 : decode cX2_lengthOf 15 = .ok (.iinc 1 1, 3) := by decide +kernel
theorem dX2_lengthOf_18 : decode cX2_lengthOf 18 = .ok (.goto (-16), 3) := by decide +kernel
theorem dX2_lengthOf_21 : decode cX2_lengthOf 21 = .ok (.iload_n 1, 1) := by decide +kernel
theorem dX2_lengthOf_22 : decode cX2_lengthOf 22 = .ok (.ireturn, 1) := by decide +kernel
theorem dX2_send_0 : decode cX2_send 0 = .ok (.iconst 0, 1) := by decide +kernel
theorem dX2_send_1 : decode cX2_send 1 = .ok (.istore_n 3, 1) := by decide +kernel
theorem dX2_send_2 : decode cX2_send 2 = .ok (.iload_n 3, 1) := by decide +kernel
theorem dX2_send_3 : decode cX2_send 3 = .ok (.iconst 5, 1) := by decide +kernel
theorem dX2_send_4 : decode cX2_send 4 = .ok (.if_icmp .ge 57, 3) := by decide +kernel
theorem dX2_send_7 : decode cX2_send 7 = .ok (.aload_n 0, 1) := by decide +kernel
theorem dX2_send_8 : decode cX2_send 8 = .ok (.iload_n 1, 1) := by decide +kernel
theorem dX2_send_9 : decode cX2_send 9 = .ok (.iload_n 3, 1) := by decide +kernel
theorem dX2_send_10 : decode cX2_send 10 = .ok (.invokevirtual 79, 3) := by decide +kernel
theorem dX2_send_13 : decode cX2_send 13 = .ok (.ifCond .eq 42, 3) := by decide +kernel
theorem dX2_send_16 : decode cX2_send 16 = .ok (.aload_n 0, 1) := by decide +kernel
theorem dX2_send_17 : decode cX2_send 17 = .ok (.getfield 31, 3) := by decide +kernel
theorem dX2_send_20 : decode cX2_send 20 = .ok (.sipush 2000, 3) := by decide +kernel
theorem dX2_send_23 : decode cX2_send 23 = .ok (.if_icmp .ge 32, 3) := by decide +kernel
theorem dX2_send_26 : decode cX2_send 26 = .ok (.aload_n 0, 1) := by decide +kernel
theorem dX2_send_27 : decode cX2_send 27 = .ok (.getfield 28, 3) := by decide +kernel
theorem dX2_send_30 : decode cX2_send 30 = .ok (.aload_n 0, 1) := by decide +kernel
theorem dX2_send_31 : decode cX2_send 31 = .ok (.getfield 31, 3) := by decide +kernel
theorem dX2_send_34 : decode cX2_send 34 = .ok (.iload_n 2, 1) := by decide +kernel
theorem dX2_send_35 : decode cX2_send 35 = .ok (.bipush 25, 2) := by decide +kernel
theorem dX2_send_37 : decode cX2_send 37 = .ok (.imul, 1) := by decide +kernel
theorem dX2_send_38 : decode cX2_send 38 = .ok (.iload_n 3, 1) := by decide +kernel
theorem dX2_send_39 : decode cX2_send 39 = .ok (.iload_n 1, 1) := by decide +kernel
theorem dX2_send_40 : decode cX2_send 40 = .ok (.invokestatic 48, 3) := by decide +kernel
theorem dX2_send_43 : decode cX2_send 43 = .ok (.iadd, 1) := by decide +kernel
theorem dX2_send_44 : decode cX2_send 44 = .ok (.iastore, 1) := by decide +kernel
theorem dX2_send_45 : decode cX2_send 45 = .ok (.aload_n 0, 1) := by decide +kernel
theorem dX2_send_46 : decode cX2_send 46 = .ok (.dup, 1) := by decide +kernel
theorem dX2_send_47 : decode cX2_send 47 = .ok (.getfield 31, 3) := by decide +kernel
theorem dX2_send_50 : decode cX2_send 50 = .ok (.iconst 1, 1) := by decide +kernel
theorem dX2_send_51 : decode cX2_send 51 = .ok (.iadd, 1) := by decide +kernel
theorem dX2_send_52 : decode cX2_send 52 = .ok (.putfield 31, 3) := by decide +kernel
theorem dX2_send_55 : decode cX2_send 55 = .ok (.iinc 3 1, 3) := by decide +kernel
theorem dX2_send_58 : decode cX2_send 58 = .ok (.goto (-56), 3) := by decide +kernel
theorem dX2_send_61 : decode cX2_send 61 = .ok (.return_, 1) := by decide +kernel
theorem dX3_init_0 : decode cX3_init 0 = .ok (.aload_n 0, 1) := by decide +kernel
theorem dX3_init_1 : decode cX3_init 1 = .ok (.invokespecial 3, 3) := by decide +kernel
theorem dX3_init_4 : decode cX3_init 4 = .ok (.aload_n 0, 1) := by decide +kernel
theorem dX3_init_5 : decode cX3_init 5 = .ok (.new 9, 3) := by decide +kernel
theorem dX3_init_8 : decode cX3_init 8 = .ok (.dup, 1) := by decide +kernel
theorem dX3_init_9 : decode cX3_init 9 = .ok (.invokespecial 11, 3) := by decide +kernel
theorem dX3_init_12 : decode cX3_init 12 = .ok (.putfield 12, 3) := by decide +kernel
theorem dX3_init_15 : decode cX3_init 15 = .ok (.aload_n 0, 1) := by decide +kernel
theorem dX3_init_16 : decode cX3_init 16 = .ok (.sipush 420, 3) := by decide +kernel
theorem dX3_init_19 : decode cX3_init 19 = .ok (.newarray .int, 2) := by decide +kernel
theorem dX3_init_21 : decode cX3_init 21 = .ok (.putfield 18, 3) := by decide +kernel
theorem dX3_init_24 : decode cX3_init 24 = .ok (.aload_n 0, 1) := by decide +kernel
theorem dX3_init_25 : decode cX3_init 25 = .ok (.iconst 0, 1) := by decide +kernel
theorem dX3_init_26 : decode cX3_init 26 = .ok (.putfield 22, 3) := by decide +kernel
theorem dX3_init_29 : decode cX3_init 29 = .ok (.aload_n 0, 1) := by decide +kernel
theorem dX3_init_30 : decode cX3_init 30 = .ok (.aload_n 1, 1) := by decide +kernel
theorem dX3_init_31 : decode cX3_init 31 = .ok (.putfield 26, 3) := by decide +kernel
theorem dX3_init_34 : decode cX3_init 34 = .ok (.aload_n 0, 1) := by decide +kernel
theorem dX3_init_35 : decode cX3_init 35 = .ok (.aload_n 2, 1) := by decide +kernel
theorem dX3_init_36 : decode cX3_init 36 = .ok (.putfield 29, 3) := by decide +kernel
theorem dX3_init_39 : decode cX3_init 39 = .ok (.aload_n 0, 1) := by decide +kernel
theorem dX3_init_40 : decode cX3_init 40 = .ok (.aload_n 3, 1) := by decide +kernel
theorem dX3_init_41 : decode cX3_init 41 = .ok (.putfield 33, 3) := by decide +kernel
theorem dX3_init_44 : decode cX3_init 44 = .ok (.aload_n 0, 1) := by decide +kernel
theorem dX3_init_45 : decode cX3_init 45 = .ok (.new 37, 3) := by decide +kernel
theorem dX3_init_48 : decode cX3_init 48 = .ok (.dup, 1) := by decide +kernel
theorem dX3_init_49 : decode cX3_init 49 = .ok (.aload_n 0, 1) := by decide +kernel
theorem dX3_init_50 : decode cX3_init 50 = .ok (.getfield 12, 3) := by decide +kernel
theorem dX3_init_53 : decode cX3_init 53 = .ok (.aload_n 2, 1) := by decide +kernel
theorem dX3_init_54 : decode cX3_init 54 = .ok (.invokespecial 39, 3) := by decide +kernel
theorem dX3_init_57 : decode cX3_init 57 = .ok (.putfield 42, 3) := by decide +kernel
theorem dX3_init_60 : decode cX3_init 60 = .ok (.return_, 1) := by decide +kernel
theorem dX3_goOver_0 : decode cX3_goOver 0 = .ok (.aload_n 0, 1) := by decide +kernel
theorem dX3_goOver_1 : decode cX3_goOver 1 = .ok (.getfield 12, 3) := by decide +kernel
theorem dX3_goOver_4 : decode cX3_goOver 4 = .ok (.aload_n 0, 1) := by decide +kernel
theorem dX3_goOver_5 : decode cX3_goOver 5 = .ok (.getfield 26, 3) := by decide +kernel
theorem dX3_goOver_8 : decode cX3_goOver 8 = .ok (.iload_n 1, 1) := by decide +kernel
theorem dX3_goOver_9 : decode cX3_goOver 9 = .ok (.iload_n 2, 1) := by decide +kernel
theorem dX3_goOver_10 : decode cX3_goOver 10 = .ok (.invokevirtual 46, 3) := by decide +kernel
theorem dX3_goOver_13 : decode cX3_goOver 13 = .ok (.aload_n 0, 1) := by decide +kernel
theorem dX3_goOver_14 : decode cX3_goOver 14 = .ok (.getfield 42, 3) := by decide +kernel
theorem dX3_goOver_17 : decode cX3_goOver 17 = .ok (.invokevirtual 50, 3) := by decide +kernel
theorem dX3_goOver_20 : decode cX3_goOver 20 = .ok (.iconst 0, 1) := by decide +kernel
theorem dX3_goOver_21 : decode cX3_goOver 21 = .ok (.istore 4, 2) := by decide +kernel
theorem dX3_goOver_23 : decode cX3_goOver 23 = .ok (.iload 4, 2) := by decide +kernel
theorem dX3_goOver_25 : decode cX3_goOver 25 = .ok (.aload_n 0, 1) := by decide +kernel
theorem dX3_goOver_26 : decode cX3_goOver 26 = .ok (.getfield 33, 3) := by decide +kernel
theorem dX3_goOver_29 : decode cX3_goOver 29 = .ok (.invokevirtual 53, 3) := by decide +kernel
theorem dX3_goOver_32 : decode cX3_goOver 32 = .ok (.if_icmp .ge 43, 3) := by decide +kernel
theorem dX3_goOver_35 : decode cX3_goOver 35 = .ok (.aload_n 0, 1) := by decide +kernel
theorem dX3_goOver_36 : decode cX3_goOver 36 = .ok (.getfield 42, 3) := by decide +kernel
theorem dX3_goOver_39 : decode cX3_goOver 39 = .ok (.aload_n 0, 1) := by decide +kernel
theorem dX3_goOver_40 : decode cX3_goOver 40 = .ok (.getfield 33, 3) := by decide +kernel
theorem dX3_goOver_43 : decode cX3_goOver 43 = .ok (.iload 4, 2) := by decide +kernel
theorem dX3_goOver_45 : decode cX3_goOver 45 = .ok (.invokevirtual 59, 3) := by decide +kernel
theorem dX3_goOver_48 : decode cX3_goOver 48 = .ok (.aload_n 0, 1) := by decide +kernel
theorem dX3_goOver_49 : decode cX3_goOver 49 = .ok (.getfield 33, 3) := by decide +kernel
theorem dX3_goOver_52 : decode cX3_goOver 52 = .ok (.iload 4, 2) := by decide +kernel
theorem dX3_goOver_54 : decode cX3_goOver 54 = .ok (.invokevirtual 63, 3) := by decide +kernel
theorem dX3_goOver_57 : decode cX3_goOver 57 = .ok (.aload_n 0, 1) := by decide +kernel
theorem dX3_goOver_58 : decode cX3_goOver 58 = .ok (.getfield 33, 3) := by decide +kernel
theorem dX3_goOver_61 : decode cX3_goOver 61 = .ok (.iload 4, 2) := by decide +kernel
theorem dX3_goOver_63 : decode cX3_goOver 63 = .ok (.invokevirtual 66, 3) := by decide +kernel
theorem dX3_goOver_66 : decode cX3_goOver 66 = .ok (.invokevirtual 69, 3) := by decide +kernel
theorem dX3_goOver_69 : decode cX3_goOver 69 = .ok (.iinc 4 1, 3) := by decide +kernel
theorem dX3_goOver_72 : decode cX3_goOver 72 = .ok (.goto (-49), 3) := by decide +kernel
theorem dX3_goOver_75 : decode cX3_goOver 75 = .ok (.aload_n 0, 1) := by decide +kernel
theorem dX3_goOver_76 : decode cX3_goOver 76 = .ok (.getfield 42, 3) := by decide +kernel
theorem dX3_goOver_79 : decode cX3_goOver 79 = .ok (.iload_n 3, 1) := by decide +kernel
theorem dX3_goOver_80 : decode cX3_goOver 80 = .ok (.invokevirtual 73, 3) := by decide +kernel
theorem dX3_goOver_83 : decode cX3_goOver 83 = .ok (.return_, 1) := by decide +kernel
theorem dX3_flipsOf_0 : decode cX3_flipsOf 0 = .ok (.aload_n 0, 1) := by decide +kernel
theorem dX3_flipsOf_1 : decode cX3_flipsOf 1 = .ok (.getfield 42, 3) := by decide +kernel
theorem dX3_flipsOf_4 : decode cX3_flipsOf 4 = .ok (.iload_n 1, 1) := by decide +kernel
theorem dX3_flipsOf_5 : decode cX3_flipsOf 5 = .ok (.invokevirtual 77, 3) := by decide +kernel
theorem dX3_flipsOf_8 : decode cX3_flipsOf 8 = .ok (.ireturn, 1) := by decide +kernel
theorem dX3_lostOf_0 : decode cX3_lostOf 0 = .ok (.aload_n 0, 1) := by decide +kernel
theorem dX3_lostOf_1 : decode cX3_lostOf 1 = .ok (.getfield 42, 3) := by decide +kernel
theorem dX3_lostOf_4 : decode cX3_lostOf 4 = .ok (.iload_n 1, 1) := by decide +kernel
theorem dX3_lostOf_5 : decode cX3_lostOf 5 = .ok (.invokevirtual 80, 3) := by decide +kernel
theorem dX3_lostOf_8 : decode cX3_lostOf 8 = .ok (.ireturn, 1) := by decide +kernel
theorem dX3_findMarks_0 : decode cX3_findMarks 0 = .ok (.aload_n 0, 1) := by decide +kernel
theorem dX3_findMarks_1 : decode cX3_findMarks 1 = .ok (.getfield 29, 3) := by decide +kernel
theorem dX3_findMarks_4 : decode cX3_findMarks 4 = .ok (.invokevirtual 83, 3) := by decide +kernel
theorem dX3_findMarks_7 : decode cX3_findMarks 7 = .ok (.istore_n 3, 1) := by decide +kernel
theorem dX3_findMarks_8 : decode cX3_findMarks 8 = .ok (.iconst 1, 1) := by decide +kernel
theorem dX3_findMarks_9 : decode cX3_findMarks 9 = .ok (.istore 4, 2) := by decide +kernel
theorem dX3_findMarks_11 : decode cX3_findMarks 11 = .ok (.aload_n 0, 1) := by decide +kernel
theorem dX3_findMarks_12 : decode cX3_findMarks 12 = .ok (.iconst 0, 1) := by decide +kernel
theorem dX3_findMarks_13 : decode cX3_findMarks 13 = .ok (.putfield 22, 3) := by decide +kernel
theorem dX3_findMarks_16 : decode cX3_findMarks 16 = .ok (.sipush 500, 3) := by decide +kernel
theorem dX3_findMarks_19 : decode cX3_findMarks 19 = .ok (.istore 5, 2) := by decide +kernel
theorem dX3_findMarks_21 : decode cX3_findMarks 21 = .ok (.iload 5, 2) := by decide +kernel
theorem dX3_findMarks_23 : decode cX3_findMarks 23 = .ok (.sipush 10000, 3) := by decide +kernel
theorem dX3_findMarks_26 : decode cX3_findMarks 26 = .ok (.if_icmp .gt 89, 3) := by decide +kernel
theorem dX3_findMarks_29 : decode cX3_findMarks 29 = .ok (.iload 4, 2) := by decide +kernel
theorem dX3_findMarks_31 : decode cX3_findMarks 31 = .ok (.ifCond .eq 84, 3) := by decide +kernel
theorem dX3_findMarks_34 : decode cX3_findMarks 34 = .ok (.sipush 250, 3) := by decide +kernel
theorem dX3_findMarks_37 : decode cX3_findMarks 37 = .ok (.istore 6, 2) := by decide +kernel
theorem dX3_findMarks_39 : decode cX3_findMarks 39 = .ok (.iload 6, 2) := by decide +kernel
theorem dX3_findMarks_41 : decode cX3_findMarks 41 = .ok (.iload 5, 2) := by decide +kernel
theorem dX3_findMarks_43 : decode cX3_findMarks 43 = .ok (.if_icmp .gt 63, 3) := by decide +kernel
theorem dX3_findMarks_46 : decode cX3_findMarks 46 = .ok (.iload 4, 2) := by decide +kernel
theorem dX3_findMarks_48 : decode cX3_findMarks 48 = .ok (.ifCond .eq 58, 3) := by decide +kernel
theorem dX3_findMarks_51 : decode cX3_findMarks 51 = .ok (.aload_n 0, 1) := by decide +kernel
theorem dX3_findMarks_52 : decode cX3_findMarks 52 = .ok (.iload 5, 2) := by decide +kernel
theorem dX3_findMarks_54 : decode cX3_findMarks 54 = .ok (.iload 6, 2) := by decide +kernel
theorem dX3_findMarks_56 : decode cX3_findMarks 56 = .ok (.iload_n 2, 1) := by decide +kernel
theorem dX3_findMarks_57 : decode cX3_findMarks 57 = .ok (.invokevirtual 88, 3) := by decide +kernel
theorem dX3_findMarks_60 : decode cX3_findMarks 60 = .ok (.aload_n 0, 1) := by decide +kernel
theorem dX3_findMarks_61 : decode cX3_findMarks 61 = .ok (.iload_n 1, 1) := by decide +kernel
theorem dX3_findMarks_62 : decode cX3_findMarks 62 = .ok (.invokevirtual 91, 3) := by decide +kernel
theorem dX3_findMarks_65 : decode cX3_findMarks 65 = .ok (.istore 7, 2) := by decide +kernel
theorem dX3_findMarks_67 : decode cX3_findMarks 67 = .ok (.iload 7, 2) := by decide +kernel
theorem dX3_findMarks_69 : decode cX3_findMarks 69 = .ok (.iload_n 3, 1) := by decide +kernel
theorem dX3_findMarks_70 : decode cX3_findMarks 70 = .ok (.if_icmp .ne 12, 3) := by decide +kernel
theorem dX3_findMarks_73 : decode cX3_findMarks 73 = .ok (.iload 5, 2) := by decide +kernel
theorem dX3_findMarks_75 : decode cX3_findMarks 75 = .ok (.ldc 94, 2) := by decide +kernel
theorem dX3_findMarks_77 : decode cX3_findMarks 77 = .ok (.imul, 1) := by decide +kernel
theorem dX3_findMarks_78 : decode cX3_findMarks 78 = .ok (.iload 6, 2) := by decide +kernel
theorem dX3_findMarks_80 : decode cX3_findMarks 80 = .ok (.iadd, 1) := by decide +kernel
theorem dX3_findMarks_81 : decode cX3_findMarks 81 = .ok (.ireturn, 1) := by decide +kernel
theorem dX3_findMarks_82 : decode cX3_findMarks 82 = .ok (.aload_n 0, 1) := by decide +kernel
theorem dX3_findMarks_83 : decode cX3_findMarks 83 = .ok (.iload 7, 2) := by decide +kernel
theorem dX3_findMarks_85 : decode cX3_findMarks 85 = .ok (.invokevirtual 95, 3) := by decide +kernel
theorem dX3_findMarks_88 : decode cX3_findMarks 88 = .ok (.aload_n 0, 1) := by decide +kernel
theorem dX3_findMarks_89 : decode cX3_findMarks 89 = .ok (.getfield 42, 3) := by decide +kernel
theorem dX3_findMarks_92 : decode cX3_findMarks 92 = .ok (.invokevirtual 98, 3) := by decide +kernel
theorem dX3_findMarks_95 : decode cX3_findMarks 95 = .ok (.istore 4, 2) := by decide +kernel
theorem dX3_findMarks_97 : decode cX3_findMarks 97 = .ok (.iinc 6 250, 6) := by decide +kernel
theorem dX3_findMarks_103 : decode cX3_findMarks 103 = .ok (.goto (-64), 3) := by decide +kernel
theorem dX3_findMarks_106 : decode cX3_findMarks 106 = .ok (.iinc 5 500, 6) := by decide +kernel
theorem dX3_findMarks_112 : decode cX3_findMarks 112 = .ok (.goto (-91), 3) := by decide +kernel
theorem dX3_findMarks_115 : decode cX3_findMarks 115 = .ok (.aload_n 0, 1) := by decide +kernel
theorem dX3_findMarks_116 : decode cX3_findMarks 116 = .ok (.invokevirtual 102, 3) := by decide +kernel
theorem dX3_findMarks_119 : decode cX3_findMarks 119 = .ok (.ireturn, 1) := by decide +kernel
theorem dX3_keep_0 : decode cX3_keep 0 = .ok (.aload_n 0, 1) := by decide +kernel
theorem dX3_keep_1 : decode cX3_keep 1 = .ok (.getfield 22, 3) := by decide +kernel
theorem dX3_keep_4 : decode cX3_keep 4 = .ok (.aload_n 0, 1) := by decide +kernel
theorem dX3_keep_5 : decode cX3_keep 5 = .ok (.getfield 18, 3) := by decide +kernel
theorem dX3_keep_8 : decode cX3_keep 8 = .ok (.arraylength, 1) := by decide +kernel
theorem dX3_keep_9 : decode cX3_keep 9 = .ok (.if_icmp .ge 23, 3) := by decide +kernel
theorem dX3_keep_12 : decode cX3_keep 12 = .ok (.aload_n 0, 1) := by decide +kernel
theorem dX3_keep_13 : decode cX3_keep 13 = .ok (.getfield 18, 3) := by decide +kernel
theorem dX3_keep_16 : decode cX3_keep 16 = .ok (.aload_n 0, 1) := by decide +kernel
theorem dX3_keep_17 : decode cX3_keep 17 = .ok (.getfield 22, 3) := by decide +kernel
theorem dX3_keep_20 : decode cX3_keep 20 = .ok (.iload_n 1, 1) := by decide +kernel
end
section
theorem dX3_keep_21 : decode cX3_keep 21 = .ok (.iastore, 1) := by decide +kernel
theorem dX3_keep_22 : decode cX3_keep 22 = .ok (.aload_n 0, 1) := by decide +kernel
theorem dX3_keep_23 : decode cX3_keep 23 = .ok (.dup, 1) := by decide +kernel
theorem dX3_keep_24 : decode cX3_keep 24 = .ok (.getfield 22, 3) := by decide +kernel
theorem dX3_keep_27 : decode cX3_keep 27 = .ok (.iconst 1, 1) := by decide +kernel
theorem dX3_keep_28 : decode cX3_keep 28 = .ok (.iadd, 1) := by decide +kernel
theorem dX3_keep_29 : decode cX3_keep 29 = .ok (.putfield 22, 3) := by decide +kernel
theorem dX3_keep_32 : decode cX3_keep 32 = .ok (.return_, 1) := by decide +kernel
theorem dX3_metLines_0 : decode cX3_metLines 0 = .ok (.iconst 0, 1) := by decide +kernel
theorem dX3_metLines_1 : decode cX3_metLines 1 = .ok (.istore_n 2, 1) := by decide +kernel
theorem dX3_metLines_2 : decode cX3_metLines 2 = .ok (.iconst 0, 1) := by decide +kernel
theorem dX3_metLines_3 : decode cX3_metLines 3 = .ok (.istore_n 3, 1) := by decide +kernel
theorem dX3_metLines_4 : decode cX3_metLines 4 = .ok (.iload_n 3, 1) := by decide +kernel
theorem dX3_metLines_5 : decode cX3_metLines 5 = .ok (.aload_n 0, 1) := by decide +kernel
theorem dX3_metLines_6 : decode cX3_metLines 6 = .ok (.getfield 29, 3) := by decide +kernel
theorem dX3_metLines_9 : decode cX3_metLines 9 = .ok (.invokevirtual 105, 3) := by decide +kernel
theorem dX3_metLines_12 : decode cX3_metLines 12 = .ok (.if_icmp .ge 84, 3) := by decide +kernel
theorem dX3_metLines_15 : decode cX3_metLines 15 = .ok (.aload_n 0, 1) := by decide +kernel
theorem dX3_metLines_16 : decode cX3_metLines 16 = .ok (.getfield 29, 3) := by decide +kernel
theorem dX3_metLines_19 : decode cX3_metLines 19 = .ok (.iload_n 3, 1) := by decide +kernel
theorem dX3_metLines_20 : decode cX3_metLines 20 = .ok (.invokevirtual 106, 3) := by decide +kernel
theorem dX3_metLines_23 : decode cX3_metLines 23 = .ok (.istore 4, 2) := by decide +kernel
theorem dX3_metLines_25 : decode cX3_metLines 25 = .ok (.iload 4, 2) := by decide +kernel
theorem dX3_metLines_27 : decode cX3_metLines 27 = .ok (.iconst 1, 1) := by decide +kernel
theorem dX3_metLines_28 : decode cX3_metLines 28 = .ok (.if_icmp .ne 18, 3) := by decide +kernel
theorem dX3_metLines_31 : decode cX3_metLines 31 = .ok (.aload_n 0, 1) := by decide +kernel
theorem dX3_metLines_32 : decode cX3_metLines 32 = .ok (.getfield 42, 3) := by decide +kernel
theorem dX3_metLines_35 : decode cX3_metLines 35 = .ok (.iload_n 3, 1) := by decide +kernel
theorem dX3_metLines_36 : decode cX3_metLines 36 = .ok (.invokevirtual 80, 3) := by decide +kernel
theorem dX3_metLines_39 : decode cX3_metLines 39 = .ok (.ifCond .ne 7, 3) := by decide +kernel
theorem dX3_metLines_42 : decode cX3_metLines 42 = .ok (.iconst 1, 1) := by decide +kernel
theorem dX3_metLines_43 : decode cX3_metLines 43 = .ok (.goto 4, 3) := by decide +kernel
theorem dX3_metLines_46 : decode cX3_metLines 46 = .ok (.iconst 0, 1) := by decide +kernel
theorem dX3_metLines_47 : decode cX3_metLines 47 = .ok (.istore 5, 2) := by decide +kernel
theorem dX3_metLines_49 : decode cX3_metLines 49 = .ok (.iload 4, 2) := by decide +kernel
theorem dX3_metLines_51 : decode cX3_metLines 51 = .ok (.iconst 2, 1) := by decide +kernel
theorem dX3_metLines_52 : decode cX3_metLines 52 = .ok (.if_icmp .ne 19, 3) := by decide +kernel
theorem dX3_metLines_55 : decode cX3_metLines 55 = .ok (.aload_n 0, 1) := by decide +kernel
theorem dX3_metLines_56 : decode cX3_metLines 56 = .ok (.getfield 42, 3) := by decide +kernel
theorem dX3_metLines_59 : decode cX3_metLines 59 = .ok (.iload_n 3, 1) := by decide +kernel
theorem dX3_metLines_60 : decode cX3_metLines 60 = .ok (.invokevirtual 77, 3) := by decide +kernel
theorem dX3_metLines_63 : decode cX3_metLines 63 = .ok (.iload_n 1, 1) := by decide +kernel
theorem dX3_metLines_64 : decode cX3_metLines 64 = .ok (.if_icmp .gt 7, 3) := by decide +kernel
theorem dX3_metLines_67 : decode cX3_metLines 67 = .ok (.iconst 1, 1) := by decide +kernel
theorem dX3_metLines_68 : decode cX3_metLines 68 = .ok (.goto 4, 3) := by decide +kernel
theorem dX3_metLines_71 : decode cX3_metLines 71 = .ok (.iconst 0, 1) := by decide +kernel
theorem dX3_metLines_72 : decode cX3_metLines 72 = .ok (.istore 6, 2) := by decide +kernel
theorem dX3_metLines_74 : decode cX3_metLines 74 = .ok (.iload 5, 2) := by decide +kernel
theorem dX3_metLines_76 : decode cX3_metLines 76 = .ok (.ifCond .ne 8, 3) := by decide +kernel
theorem dX3_metLines_79 : decode cX3_metLines 79 = .ok (.iload 6, 2) := by decide +kernel
theorem dX3_metLines_81 : decode cX3_metLines 81 = .ok (.ifCond .eq 9, 3) := by decide +kernel
theorem dX3_metLines_84 : decode cX3_metLines 84 = .ok (.iload_n 2, 1) := by decide +kernel
theorem dX3_metLines_85 : decode cX3_metLines 85 = .ok (.iconst 1, 1) := by decide +kernel
theorem dX3_metLines_86 : decode cX3_metLines 86 = .ok (.iload_n 3, 1) := by decide +kernel
theorem dX3_metLines_87 : decode cX3_metLines 87 = .ok (.ishl, 1) := by decide +kernel
theorem dX3_metLines_88 : decode cX3_metLines 88 = .ok (.ior, 1) := by decide +kernel
theorem dX3_metLines_89 : decode cX3_metLines 89 = .ok (.istore_n 2, 1) := by decide +kernel
theorem dX3_metLines_90 : decode cX3_metLines 90 = .ok (.iinc 3 1, 3) := by decide +kernel
theorem dX3_metLines_93 : decode cX3_metLines 93 = .ok (.goto (-89), 3) := by decide +kernel
theorem dX3_metLines_96 : decode cX3_metLines 96 = .ok (.iload_n 2, 1) := by decide +kernel
theorem dX3_metLines_97 : decode cX3_metLines 97 = .ok (.ireturn, 1) := by decide +kernel
theorem dX3_conflict_0 : decode cX3_conflict 0 = .ok (.iconst 0, 1) := by decide +kernel
theorem dX3_conflict_1 : decode cX3_conflict 1 = .ok (.istore_n 1, 1) := by decide +kernel
theorem dX3_conflict_2 : decode cX3_conflict 2 = .ok (.iload_n 1, 1) := by decide +kernel
theorem dX3_conflict_3 : decode cX3_conflict 3 = .ok (.aload_n 0, 1) := by decide +kernel
theorem dX3_conflict_4 : decode cX3_conflict 4 = .ok (.getfield 29, 3) := by decide +kernel
theorem dX3_conflict_7 : decode cX3_conflict 7 = .ok (.invokevirtual 105, 3) := by decide +kernel
theorem dX3_conflict_10 : decode cX3_conflict 10 = .ok (.if_icmp .ge 35, 3) := by decide +kernel
theorem dX3_conflict_13 : decode cX3_conflict 13 = .ok (.aload_n 0, 1) := by decide +kernel
theorem dX3_conflict_14 : decode cX3_conflict 14 = .ok (.getfield 29, 3) := by decide +kernel
theorem dX3_conflict_17 : decode cX3_conflict 17 = .ok (.iload_n 1, 1) := by decide +kernel
theorem dX3_conflict_18 : decode cX3_conflict 18 = .ok (.invokevirtual 106, 3) := by decide +kernel
theorem dX3_conflict_21 : decode cX3_conflict 21 = .ok (.ifCond .eq 18, 3) := by decide +kernel
theorem dX3_conflict_24 : decode cX3_conflict 24 = .ok (.aload_n 0, 1) := by decide +kernel
theorem dX3_conflict_25 : decode cX3_conflict 25 = .ok (.iload_n 1, 1) := by decide +kernel
theorem dX3_conflict_26 : decode cX3_conflict 26 = .ok (.iload_n 1, 1) := by decide +kernel
theorem dX3_conflict_27 : decode cX3_conflict 27 = .ok (.invokevirtual 109, 3) := by decide +kernel
theorem dX3_conflict_30 : decode cX3_conflict 30 = .ok (.ifCond .ne 9, 3) := by decide +kernel
theorem dX3_conflict_33 : decode cX3_conflict 33 = .ok (.iload_n 1, 1) := by decide +kernel
theorem dX3_conflict_34 : decode cX3_conflict 34 = .ok (.iload_n 1, 1) := by decide +kernel
theorem dX3_conflict_35 : decode cX3_conflict 35 = .ok (.invokestatic 113, 3) := by decide +kernel
theorem dX3_conflict_38 : decode cX3_conflict 38 = .ok (.ireturn, 1) := by decide +kernel
theorem dX3_conflict_39 : decode cX3_conflict 39 = .ok (.iinc 1 1, 3) := by decide +kernel
theorem dX3_conflict_42 : decode cX3_conflict 42 = .ok (.goto (-40), 3) := by decide +kernel
theorem dX3_conflict_45 : decode cX3_conflict 45 = .ok (.iconst 0, 1) := by decide +kernel
theorem dX3_conflict_46 : decode cX3_conflict 46 = .ok (.istore_n 1, 1) := by decide +kernel
theorem dX3_conflict_47 : decode cX3_conflict 47 = .ok (.iload_n 1, 1) := by decide +kernel
theorem dX3_conflict_48 : decode cX3_conflict 48 = .ok (.aload_n 0, 1) := by decide +kernel
theorem dX3_conflict_49 : decode cX3_conflict 49 = .ok (.getfield 29, 3) := by decide +kernel
theorem dX3_conflict_52 : decode cX3_conflict 52 = .ok (.invokevirtual 105, 3) := by decide +kernel
theorem dX3_conflict_55 : decode cX3_conflict 55 = .ok (.if_icmp .ge 77, 3) := by decide +kernel
theorem dX3_conflict_58 : decode cX3_conflict 58 = .ok (.iconst 0, 1) := by decide +kernel
theorem dX3_conflict_59 : decode cX3_conflict 59 = .ok (.istore_n 2, 1) := by decide +kernel
theorem dX3_conflict_60 : decode cX3_conflict 60 = .ok (.iload_n 2, 1) := by decide +kernel
theorem dX3_conflict_61 : decode cX3_conflict 61 = .ok (.aload_n 0, 1) := by decide +kernel
theorem dX3_conflict_62 : decode cX3_conflict 62 = .ok (.getfield 29, 3) := by decide +kernel
theorem dX3_conflict_65 : decode cX3_conflict 65 = .ok (.invokevirtual 105, 3) := by decide +kernel
theorem dX3_conflict_68 : decode cX3_conflict 68 = .ok (.if_icmp .ge 58, 3) := by decide +kernel
theorem dX3_conflict_71 : decode cX3_conflict 71 = .ok (.aload_n 0, 1) := by decide +kernel
theorem dX3_conflict_72 : decode cX3_conflict 72 = .ok (.getfield 29, 3) := by decide +kernel
theorem dX3_conflict_75 : decode cX3_conflict 75 = .ok (.iload_n 1, 1) := by decide +kernel
theorem dX3_conflict_76 : decode cX3_conflict 76 = .ok (.invokevirtual 106, 3) := by decide +kernel
theorem dX3_conflict_79 : decode cX3_conflict 79 = .ok (.iconst 1, 1) := by decide +kernel
theorem dX3_conflict_80 : decode cX3_conflict 80 = .ok (.if_icmp .ne 19, 3) := by decide +kernel
theorem dX3_conflict_83 : decode cX3_conflict 83 = .ok (.aload_n 0, 1) := by decide +kernel
theorem dX3_conflict_84 : decode cX3_conflict 84 = .ok (.getfield 29, 3) := by decide +kernel
theorem dX3_conflict_87 : decode cX3_conflict 87 = .ok (.iload_n 2, 1) := by decide +kernel
theorem dX3_conflict_88 : decode cX3_conflict 88 = .ok (.invokevirtual 106, 3) := by decide +kernel
theorem dX3_conflict_91 : decode cX3_conflict 91 = .ok (.iconst 2, 1) := by decide +kernel
theorem dX3_conflict_92 : decode cX3_conflict 92 = .ok (.if_icmp .ne 7, 3) := by decide +kernel
theorem dX3_conflict_95 : decode cX3_conflict 95 = .ok (.iconst 1, 1) := by decide +kernel
theorem dX3_conflict_96 : decode cX3_conflict 96 = .ok (.goto 4, 3) := by decide +kernel
theorem dX3_conflict_99 : decode cX3_conflict 99 = .ok (.iconst 0, 1) := by decide +kernel
theorem dX3_conflict_100 : decode cX3_conflict 100 = .ok (.istore_n 3, 1) := by decide +kernel
theorem dX3_conflict_101 : decode cX3_conflict 101 = .ok (.iload_n 3, 1) := by decide +kernel
theorem dX3_conflict_102 : decode cX3_conflict 102 = .ok (.ifCond .eq 18, 3) := by decide +kernel
theorem dX3_conflict_105 : decode cX3_conflict 105 = .ok (.aload_n 0, 1) := by decide +kernel
theorem dX3_conflict_106 : decode cX3_conflict 106 = .ok (.iload_n 1, 1) := by decide +kernel
theorem dX3_conflict_107 : decode cX3_conflict 107 = .ok (.iload_n 2, 1) := by decide +kernel
theorem dX3_conflict_108 : decode cX3_conflict 108 = .ok (.invokevirtual 109, 3) := by decide +kernel
theorem dX3_conflict_111 : decode cX3_conflict 111 = .ok (.ifCond .ne 9, 3) := by decide +kernel
theorem dX3_conflict_114 : decode cX3_conflict 114 = .ok (.iload_n 1, 1) := by decide +kernel
theorem dX3_conflict_115 : decode cX3_conflict 115 = .ok (.iload_n 2, 1) := by decide +kernel
theorem dX3_conflict_116 : decode cX3_conflict 116 = .ok (.invokestatic 113, 3) := by decide +kernel
theorem dX3_conflict_119 : decode cX3_conflict 119 = .ok (.ireturn, 1) := by decide +kernel
theorem dX3_conflict_120 : decode cX3_conflict 120 = .ok (.iinc 2 1, 3) := by decide +kernel
theorem dX3_conflict_123 : decode cX3_conflict 123 = .ok (.goto (-63), 3) := by decide +kernel
theorem dX3_conflict_126 : decode cX3_conflict 126 = .ok (.iinc 1 1, 3) := by decide +kernel
theorem dX3_conflict_129 : decode cX3_conflict 129 = .ok (.goto (-82), 3) := by decide +kernel
theorem dX3_conflict_132 : decode cX3_conflict 132 = .ok (.sipush (-999), 3) := by decide +kernel
theorem dX3_conflict_135 : decode cX3_conflict 135 = .ok (.ireturn, 1) := by decide +kernel
theorem dX3_canMeet_0 : decode cX3_canMeet 0 = .ok (.iconst 1, 1) := by decide +kernel
theorem dX3_canMeet_1 : decode cX3_canMeet 1 = .ok (.iload_n 1, 1) := by decide +kernel
theorem dX3_canMeet_2 : decode cX3_canMeet 2 = .ok (.ishl, 1) := by decide +kernel
theorem dX3_canMeet_3 : decode cX3_canMeet 3 = .ok (.iconst 1, 1) := by decide +kernel
theorem dX3_canMeet_4 : decode cX3_canMeet 4 = .ok (.iload_n 2, 1) := by decide +kernel
theorem dX3_canMeet_5 : decode cX3_canMeet 5 = .ok (.ishl, 1) := by decide +kernel
theorem dX3_canMeet_6 : decode cX3_canMeet 6 = .ok (.ior, 1) := by decide +kernel
theorem dX3_canMeet_7 : decode cX3_canMeet 7 = .ok (.istore_n 3, 1) := by decide +kernel
theorem dX3_canMeet_8 : decode cX3_canMeet 8 = .ok (.iconst 0, 1) := by decide +kernel
theorem dX3_canMeet_9 : decode cX3_canMeet 9 = .ok (.istore 4, 2) := by decide +kernel
theorem dX3_canMeet_11 : decode cX3_canMeet 11 = .ok (.iload 4, 2) := by decide +kernel
theorem dX3_canMeet_13 : decode cX3_canMeet 13 = .ok (.aload_n 0, 1) := by decide +kernel
theorem dX3_canMeet_14 : decode cX3_canMeet 14 = .ok (.getfield 22, 3) := by decide +kernel
theorem dX3_canMeet_17 : decode cX3_canMeet 17 = .ok (.if_icmp .ge 24, 3) := by decide +kernel
theorem dX3_canMeet_20 : decode cX3_canMeet 20 = .ok (.aload_n 0, 1) := by decide +kernel
theorem dX3_canMeet_21 : decode cX3_canMeet 21 = .ok (.getfield 18, 3) := by decide +kernel
theorem dX3_canMeet_24 : decode cX3_canMeet 24 = .ok (.iload 4, 2) := by decide +kernel
theorem dX3_canMeet_26 : decode cX3_canMeet 26 = .ok (.iaload, 1) := by decide +kernel
theorem dX3_canMeet_27 : decode cX3_canMeet 27 = .ok (.iload_n 3, 1) := by decide +kernel
theorem dX3_canMeet_28 : decode cX3_canMeet 28 = .ok (.iand, 1) := by decide +kernel
theorem dX3_canMeet_29 : decode cX3_canMeet 29 = .ok (.iload_n 3, 1) := by decide +kernel
theorem dX3_canMeet_30 : decode cX3_canMeet 30 = .ok (.if_icmp .ne 5, 3) := by decide +kernel
theorem dX3_canMeet_33 : decode cX3_canMeet 33 = .ok (.iconst 1, 1) := by decide +kernel
theorem dX3_canMeet_34 : decode cX3_canMeet 34 = .ok (.ireturn, 1) := by decide +kernel
theorem dX3_canMeet_35 : decode cX3_canMeet 35 = .ok (.iinc 4 1, 3) := by decide +kernel
theorem dX3_canMeet_38 : decode cX3_canMeet 38 = .ok (.goto (-27), 3) := by decide +kernel
theorem dX3_canMeet_41 : decode cX3_canMeet 41 = .ok (.iconst 0, 1) := by decide +kernel
theorem dX3_canMeet_42 : decode cX3_canMeet 42 = .ok (.ireturn, 1) := by decide +kernel
theorem dX3_told_0 : decode cX3_told 0 = .ok (.sipush (-1000), 3) := by decide +kernel
theorem dX3_told_3 : decode cX3_told 3 = .ok (.iload_n 0, 1) := by decide +kernel
theorem dX3_told_4 : decode cX3_told 4 = .ok (.bipush 16, 2) := by decide +kernel
theorem dX3_told_6 : decode cX3_told 6 = .ok (.imul, 1) := by decide +kernel
theorem dX3_told_7 : decode cX3_told 7 = .ok (.iload_n 1, 1) := by decide +kernel
theorem dX3_told_8 : decode cX3_told 8 = .ok (.iadd, 1) := by decide +kernel
theorem dX3_told_9 : decode cX3_told 9 = .ok (.isub, 1) := by decide +kernel
theorem dX3_told_10 : decode cX3_told 10 = .ok (.ireturn, 1) := by decide +kernel
theorem dX4_init_0 : decode cX4_init 0 = .ok (.aload_n 0, 1) := by decide +kernel
theorem dX4_init_1 : decode cX4_init 1 = .ok (.invokespecial 3, 3) := by decide +kernel
theorem dX4_init_4 : decode cX4_init 4 = .ok (.aload_n 0, 1) := by decide +kernel
theorem dX4_init_5 : decode cX4_init 5 = .ok (.bipush 12, 2) := by decide +kernel
theorem dX4_init_7 : decode cX4_init 7 = .ok (.newarray .int, 2) := by decide +kernel
theorem dX4_init_9 : decode cX4_init 9 = .ok (.putfield 9, 3) := by decide +kernel
theorem dX4_init_12 : decode cX4_init 12 = .ok (.aload_n 0, 1) := by decide +kernel
theorem dX4_init_13 : decode cX4_init 13 = .ok (.bipush 12, 2) := by decide +kernel
theorem dX4_init_15 : decode cX4_init 15 = .ok (.newarray .int, 2) := by decide +kernel
theorem dX4_init_17 : decode cX4_init 17 = .ok (.putfield 15, 3) := by decide +kernel
theorem dX4_init_20 : decode cX4_init 20 = .ok (.aload_n 0, 1) := by decide +kernel
theorem dX4_init_21 : decode cX4_init 21 = .ok (.bipush 12, 2) := by decide +kernel
theorem dX4_init_23 : decode cX4_init 23 = .ok (.newarray .int, 2) := by decide +kernel
theorem dX4_init_25 : decode cX4_init 25 = .ok (.putfield 18, 3) := by decide +kernel
theorem dX4_init_28 : decode cX4_init 28 = .ok (.aload_n 0, 1) := by decide +kernel
theorem dX4_init_29 : decode cX4_init 29 = .ok (.iconst 0, 1) := by decide +kernel
theorem dX4_init_30 : decode cX4_init 30 = .ok (.putfield 21, 3) := by decide +kernel
theorem dX4_init_33 : decode cX4_init 33 = .ok (.return_, 1) := by decide +kernel
theorem dX4_size_0 : decode cX4_size 0 = .ok (.aload_n 0, 1) := by decide +kernel
theorem dX4_size_1 : decode cX4_size 1 = .ok (.getfield 21, 3) := by decide +kernel
theorem dX4_size_4 : decode cX4_size 4 = .ok (.ireturn, 1) := by decide +kernel
theorem dX4_isFull_0 : decode cX4_isFull 0 = .ok (.aload_n 0, 1) := by decide +kernel
theorem dX4_isFull_1 : decode cX4_isFull 1 = .ok (.getfield 21, 3) := by decide +kernel
theorem dX4_isFull_4 : decode cX4_isFull 4 = .ok (.bipush 12, 2) := by decide +kernel
theorem dX4_isFull_6 : decode cX4_isFull 6 = .ok (.if_icmp .lt 7, 3) := by decide +kernel
theorem dX4_isFull_9 : decode cX4_isFull 9 = .ok (.iconst 1, 1) := by decide +kernel
theorem dX4_isFull_10 : decode cX4_isFull 10 = .ok (.goto 4, 3) := by decide +kernel
theorem dX4_isFull_13 : decode cX4_isFull 13 = .ok (.iconst 0, 1) := by decide +kernel
theorem dX4_isFull_14 : decode cX4_isFull 14 = .ok (.ireturn, 1) := by decide +kernel
theorem dX4_has_0 : decode cX4_has 0 = .ok (.iload_n 1, 1) := by decide +kernel
theorem dX4_has_1 : decode cX4_has 1 = .ok (.ifCond .lt 15, 3) := by decide +kernel
theorem dX4_has_4 : decode cX4_has 4 = .ok (.iload_n 1, 1) := by decide +kernel
theorem dX4_has_5 : decode cX4_has 5 = .ok (.aload_n 0, 1) := by decide +kernel
theorem dX4_has_6 : decode cX4_has 6 = .ok (.getfield 21, 3) := by decide +kernel
theorem dX4_has_9 : decode cX4_has 9 = .ok (.if_icmp .ge 7, 3) := by decide +kernel
theorem dX4_has_12 : decode cX4_has 12 = .ok (.iconst 1, 1) := by decide +kernel
theorem dX4_has_13 : decode cX4_has 13 = .ok (.goto 4, 3) := by decide +kernel
theorem dX4_has_16 : decode cX4_has 16 = .ok (.iconst 0, 1) := by decide +kernel
theorem dX4_has_17 : decode cX4_has 17 = .ok (.ireturn, 1) := by decide +kernel
theorem dX4_enter_0 : decode cX4_enter 0 = .ok (.aload_n 0, 1) := by decide +kernel
theorem dX4_enter_1 : decode cX4_enter 1 = .ok (.getfield 21, 3) := by decide +kernel
theorem dX4_enter_4 : decode cX4_enter 4 = .ok (.istore_n 3, 1) := by decide +kernel
theorem dX4_enter_5 : decode cX4_enter 5 = .ok (.aload_n 0, 1) := by decide +kernel
theorem dX4_enter_6 : decode cX4_enter 6 = .ok (.getfield 9, 3) := by decide +kernel
theorem dX4_enter_9 : decode cX4_enter 9 = .ok (.iload_n 3, 1) := by decide +kernel
theorem dX4_enter_10 : decode cX4_enter 10 = .ok (.iload_n 1, 1) := by decide +kernel
theorem dX4_enter_11 : decode cX4_enter 11 = .ok (.iastore, 1) := by decide +kernel
theorem dX4_enter_12 : decode cX4_enter 12 = .ok (.aload_n 0, 1) := by decide +kernel
theorem dX4_enter_13 : decode cX4_enter 13 = .ok (.getfield 15, 3) := by decide +kernel
theorem dX4_enter_16 : decode cX4_enter 16 = .ok (.iload_n 3, 1) := by decide +kernel
theorem dX4_enter_17 : decode cX4_enter 17 = .ok (.iload_n 1, 1) := by decide +kernel
theorem dX4_enter_18 : decode cX4_enter 18 = .ok (.iconst 1, 1) := by decide +kernel
theorem dX4_enter_19 : decode cX4_enter 19 = .ok (.if_icmp .ne 10, 3) := by decide +kernel
theorem dX4_enter_22 : decode cX4_enter 22 = .ok (.bipush 12, 2) := by decide +kernel
theorem dX4_enter_24 : decode cX4_enter 24 = .ok (.iload_n 2, 1) := by decide +kernel
theorem dX4_enter_25 : decode cX4_enter 25 = .ok (.iadd, 1) := by decide +kernel
theorem dX4_enter_26 : decode cX4_enter 26 = .ok (.goto 4, 3) := by decide +kernel
theorem dX4_enter_29 : decode cX4_enter 29 = .ok (.iload_n 3, 1) := by decide +kernel
theorem dX4_enter_30 : decode cX4_enter 30 = .ok (.iastore, 1) := by decide +kernel
theorem dX4_enter_31 : decode cX4_enter 31 = .ok (.aload_n 0, 1) := by decide +kernel
theorem dX4_enter_32 : decode cX4_enter 32 = .ok (.dup, 1) := by decide +kernel
theorem dX4_enter_33 : decode cX4_enter 33 = .ok (.getfield 21, 3) := by decide +kernel
theorem dX4_enter_36 : decode cX4_enter 36 = .ok (.iconst 1, 1) := by decide +kernel
theorem dX4_enter_37 : decode cX4_enter 37 = .ok (.iadd, 1) := by decide +kernel
theorem dX4_enter_38 : decode cX4_enter 38 = .ok (.putfield 21, 3) := by decide +kernel
theorem dX4_enter_41 : decode cX4_enter 41 = .ok (.iload_n 3, 1) := by decide +kernel
theorem dX4_enter_42 : decode cX4_enter 42 = .ok (.ireturn, 1) := by decide +kernel
theorem dX4_kindOf_0 : decode cX4_kindOf 0 = .ok (.aload_n 0, 1) := by decide +kernel
theorem dX4_kindOf_1 : decode cX4_kindOf 1 = .ok (.getfield 9, 3) := by decide +kernel
theorem dX4_kindOf_4 : decode cX4_kindOf 4 = .ok (.iload_n 1, 1) := by decide +kernel
theorem dX4_kindOf_5 : decode cX4_kindOf 5 = .ok (.iaload, 1) := by decide +kernel
theorem dX4_kindOf_6 : decode cX4_kindOf 6 = .ok (.ireturn, 1) := by decide +kernel
theorem dX4_slotOf_0 : decode cX4_slotOf 0 = .ok (.aload_n 0, 1) := by decide +kernel
theorem dX4_slotOf_1 : decode cX4_slotOf 1 = .ok (.getfield 15, 3) := by decide +kernel
theorem dX4_slotOf_4 : decode cX4_slotOf 4 = .ok (.iload_n 1, 1) := by decide +kernel
theorem dX4_slotOf_5 : decode cX4_slotOf 5 = .ok (.iaload, 1) := by decide +kernel
theorem dX4_slotOf_6 : decode cX4_slotOf 6 = .ok (.ireturn, 1) := by decide +kernel
theorem dX4_markOf_0 : decode cX4_markOf 0 = .ok (.aload_n 0, 1) := by decide +kernel
theorem dX4_markOf_1 : decode cX4_markOf 1 = .ok (.getfield 18, 3) := by decide +kernel
theorem dX4_markOf_4 : decode cX4_markOf 4 = .ok (.iload_n 1, 1) := by decide +kernel
theorem dX4_markOf_5 : decode cX4_markOf 5 = .ok (.iaload, 1) := by decide +kernel
theorem dX4_markOf_6 : decode cX4_markOf 6 = .ok (.ireturn, 1) := by decide +kernel
theorem dX4_putMark_0 : decode cX4_putMark 0 = .ok (.aload_n 0, 1) := by decide +kernel
theorem dX4_putMark_1 : decode cX4_putMark 1 = .ok (.getfield 18, 3) := by decide +kernel
theorem dX4_putMark_4 : decode cX4_putMark 4 = .ok (.iload_n 1, 1) := by decide +kernel
theorem dX4_putMark_5 : decode cX4_putMark 5 = .ok (.iaload, 1) := by decide +kernel
theorem dX4_putMark_6 : decode cX4_putMark 6 = .ok (.istore_n 3, 1) := by decide +kernel
theorem dX4_putMark_7 : decode cX4_putMark 7 = .ok (.aload_n 0, 1) := by decide +kernel
theorem dX4_putMark_8 : decode cX4_putMark 8 = .ok (.getfield 18, 3) := by decide +kernel
theorem dX4_putMark_11 : decode cX4_putMark 11 = .ok (.iload_n 1, 1) := by decide +kernel
theorem dX4_putMark_12 : decode cX4_putMark 12 = .ok (.iload_n 2, 1) := by decide +kernel
theorem dX4_putMark_13 : decode cX4_putMark 13 = .ok (.iastore, 1) := by decide +kernel
theorem dX4_putMark_14 : decode cX4_putMark 14 = .ok (.iload_n 3, 1) := by decide +kernel
theorem dX4_putMark_15 : decode cX4_putMark 15 = .ok (.ireturn, 1) := by decide +kernel
theorem dX4_markedLines_0 : decode cX4_markedLines 0 = .ok (.iconst 0, 1) := by decide +kernel
theorem dX4_markedLines_1 : decode cX4_markedLines 1 = .ok (.istore_n 1, 1) := by decide +kernel
theorem dX4_markedLines_2 : decode cX4_markedLines 2 = .ok (.iconst 0, 1) := by decide +kernel
theorem dX4_markedLines_3 : decode cX4_markedLines 3 = .ok (.istore_n 2, 1) := by decide +kernel
theorem dX4_markedLines_4 : decode cX4_markedLines 4 = .ok (.iload_n 2, 1) := by decide +kernel
theorem dX4_markedLines_5 : decode cX4_markedLines 5 = .ok (.aload_n 0, 1) := by decide +kernel
theorem dX4_markedLines_6 : decode cX4_markedLines 6 = .ok (.getfield 21, 3) := by decide +kernel
theorem dX4_markedLines_9 : decode cX4_markedLines 9 = .ok (.if_icmp .ge 24, 3) := by decide +kernel
theorem dX4_markedLines_12 : decode cX4_markedLines 12 = .ok (.aload_n 0, 1) := by decide +kernel
theorem dX4_markedLines_13 : decode cX4_markedLines 13 = .ok (.getfield 18, 3) := by decide +kernel
theorem dX4_markedLines_16 : decode cX4_markedLines 16 = .ok (.iload_n 2, 1) := by decide +kernel
theorem dX4_markedLines_17 : decode cX4_markedLines 17 = .ok (.iaload, 1) := by decide +kernel
theorem dX4_markedLines_18 : decode cX4_markedLines 18 = .ok (.ifCond .eq 9, 3) := by decide +kernel
theorem dX4_markedLines_21 : decode cX4_markedLines 21 = .ok (.iload_n 1, 1) := by decide +kernel
theorem dX4_markedLines_22 : decode cX4_markedLines 22 = .ok (.iconst 1, 1) := by decide +kernel
theorem dX4_markedLines_23 : decode cX4_markedLines 23 = .ok (.iload_n 2, 1) := by decide +kernel
theorem dX4_markedLines_24 : decode cX4_markedLines 24 = .ok (.ishl, 1) := by decide +kernel
theorem dX4_markedLines_25 : decode cX4_markedLines 25 = .ok (.ior, 1) := by decide +kernel
theorem dX4_markedLines_26 : decode cX4_markedLines 26 = .ok (.istore_n 1, 1) := by decide +kernel
theorem dX4_markedLines_27 : decode cX4_markedLines 27 = .ok (.iinc 2 1, 3) := by decide +kernel
theorem dX4_markedLines_30 : decode cX4_markedLines 30 = .ok (.goto (-26), 3) := by decide +kernel
theorem dX4_markedLines_33 : decode cX4_markedLines 33 = .ok (.iload_n 1, 1) := by decide +kernel
theorem dX4_markedLines_34 : decode cX4_markedLines 34 = .ok (.ireturn, 1) := by decide +kernel
theorem dX5_init_0 : decode cX5_init 0 = .ok (.aload_n 0, 1) := by decide +kernel
theorem dX5_init_1 : decode cX5_init 1 = .ok (.invokespecial 1, 3) := by decide +kernel
theorem dX5_init_4 : decode cX5_init 4 = .ok (.aload_n 0, 1) := by decide +kernel
theorem dX5_init_5 : decode cX5_init 5 = .ok (.getstatic 7, 3) := by decide +kernel
theorem dX5_init_8 : decode cX5_init 8 = .ok (.invokevirtual 13, 3) := by decide +kernel
theorem dX5_init_11 : decode cX5_init 11 = .ok (.checkcast 14, 3) := by decide +kernel
theorem dX5_init_14 : decode cX5_init 14 = .ok (.putfield 18, 3) := by decide +kernel
theorem dX5_init_17 : decode cX5_init 17 = .ok (.return_, 1) := by decide +kernel
theorem dX5_get_0 : decode cX5_get 0 = .ok (.aload_n 0, 1) := by decide +kernel
theorem dX5_get_1 : decode cX5_get 1 = .ok (.getfield 18, 3) := by decide +kernel
theorem dX5_get_4 : decode cX5_get 4 = .ok (.iload_n 1, 1) := by decide +kernel
theorem dX5_get_5 : decode cX5_get 5 = .ok (.iaload, 1) := by decide +kernel
theorem dX5_get_6 : decode cX5_get 6 = .ok (.ireturn, 1) := by decide +kernel
theorem dX5_admits_0 : decode cX5_admits 0 = .ok (.iload_n 1, 1) := by decide +kernel
theorem dX5_admits_1 : decode cX5_admits 1 = .ok (.ifCond .lt 30, 3) := by decide +kernel
theorem dX5_admits_4 : decode cX5_admits 4 = .ok (.iload_n 1, 1) := by decide +kernel
theorem dX5_admits_5 : decode cX5_admits 5 = .ok (.aload_n 0, 1) := by decide +kernel
theorem dX5_admits_6 : decode cX5_admits 6 = .ok (.getfield 18, 3) := by decide +kernel
theorem dX5_admits_9 : decode cX5_admits 9 = .ok (.arraylength, 1) := by decide +kernel
theorem dX5_admits_10 : decode cX5_admits 10 = .ok (.if_icmp .ge 21, 3) := by decide +kernel
theorem dX5_admits_13 : decode cX5_admits 13 = .ok (.iload_n 2, 1) := by decide +kernel
theorem dX5_admits_14 : decode cX5_admits 14 = .ok (.getstatic 21, 3) := by decide +kernel
theorem dX5_admits_17 : decode cX5_admits 17 = .ok (.iload_n 1, 1) := by decide +kernel
theorem dX5_admits_18 : decode cX5_admits 18 = .ok (.iaload, 1) := by decide +kernel
theorem dX5_admits_19 : decode cX5_admits 19 = .ok (.if_icmp .lt 12, 3) := by decide +kernel
theorem dX5_admits_22 : decode cX5_admits 22 = .ok (.iload_n 2, 1) := by decide +kernel
theorem dX5_admits_23 : decode cX5_admits 23 = .ok (.getstatic 24, 3) := by decide +kernel
theorem dX5_admits_26 : decode cX5_admits 26 = .ok (.iload_n 1, 1) := by decide +kernel
theorem dX5_admits_27 : decode cX5_admits 27 = .ok (.iaload, 1) := by decide +kernel
theorem dX5_admits_28 : decode cX5_admits 28 = .ok (.if_icmp .le 5, 3) := by decide +kernel
theorem dX5_admits_31 : decode cX5_admits 31 = .ok (.iconst 0, 1) := by decide +kernel
theorem dX5_admits_32 : decode cX5_admits 32 = .ok (.ireturn, 1) := by decide +kernel
theorem dX5_admits_33 : decode cX5_admits 33 = .ok (.iload_n 1, 1) := by decide +kernel
theorem dX5_admits_34 : decode cX5_admits 34 = .ok (.iconst 4, 1) := by decide +kernel
theorem dX5_admits_35 : decode cX5_admits 35 = .ok (.if_icmp .ne 19, 3) := by decide +kernel
theorem dX5_admits_38 : decode cX5_admits 38 = .ok (.aload_n 0, 1) := by decide +kernel
theorem dX5_admits_39 : decode cX5_admits 39 = .ok (.getfield 18, 3) := by decide +kernel
theorem dX5_admits_42 : decode cX5_admits 42 = .ok (.iconst 5, 1) := by decide +kernel
theorem dX5_admits_43 : decode cX5_admits 43 = .ok (.iaload, 1) := by decide +kernel
theorem dX5_admits_44 : decode cX5_admits 44 = .ok (.iload_n 2, 1) := by decide +kernel
theorem dX5_admits_45 : decode cX5_admits 45 = .ok (.if_icmp .gt 7, 3) := by decide +kernel
theorem dX5_admits_48 : decode cX5_admits 48 = .ok (.iconst 1, 1) := by decide +kernel
theorem dX5_admits_49 : decode cX5_admits 49 = .ok (.goto 4, 3) := by decide +kernel
theorem dX5_admits_52 : decode cX5_admits 52 = .ok (.iconst 0, 1) := by decide +kernel
theorem dX5_admits_53 : decode cX5_admits 53 = .ok (.ireturn, 1) := by decide +kernel
theorem dX5_admits_54 : decode cX5_admits 54 = .ok (.iload_n 1, 1) := by decide +kernel
theorem dX5_admits_55 : decode cX5_admits 55 = .ok (.iconst 5, 1) := by decide +kernel
theorem dX5_admits_56 : decode cX5_admits 56 = .ok (.if_icmp .ne 13, 3) := by decide +kernel
theorem dX5_admits_59 : decode cX5_admits 59 = .ok (.iload_n 2, 1) := by decide +kernel
theorem dX5_admits_60 : decode cX5_admits 60 = .ok (.aload_n 0, 1) := by decide +kernel
theorem dX5_admits_61 : decode cX5_admits 61 = .ok (.getfield 18, 3) := by decide +kernel
theorem dX5_admits_64 : decode cX5_admits 64 = .ok (.iconst 4, 1) := by decide +kernel
theorem dX5_admits_65 : decode cX5_admits 65 = .ok (.iaload, 1) := by decide +kernel
theorem dX5_admits_66 : decode cX5_admits 66 = .ok (.if_icmp .gt 7, 3) := by decide +kernel
theorem dX5_admits_69 : decode cX5_admits 69 = .ok (.iconst 1, 1) := by decide +kernel
theorem dX5_admits_70 : decode cX5_admits 70 = .ok (.goto 4, 3) := by decide +kernel
theorem dX5_admits_73 : decode cX5_admits 73 = .ok (.iconst 0, 1) := by decide +kernel
theorem dX5_admits_74 : decode cX5_admits 74 = .ok (.ireturn, 1) := by decide +kernel
theorem dX5_areMarks_0 : decode cX5_areMarks 0 = .ok (.iload_n 0, 1) := by decide +kernel
theorem dX5_areMarks_1 : decode cX5_areMarks 1 = .ok (.getstatic 21, 3) := by decide +kernel
theorem dX5_areMarks_4 : decode cX5_areMarks 4 = .ok (.iconst 4, 1) := by decide +kernel
theorem dX5_areMarks_5 : decode cX5_areMarks 5 = .ok (.iaload, 1) := by decide +kernel
theorem dX5_areMarks_6 : decode cX5_areMarks 6 = .ok (.if_icmp .lt 30, 3) := by decide +kernel
theorem dX5_areMarks_9 : decode cX5_areMarks 9 = .ok (.iload_n 0, 1) := by decide +kernel
theorem dX5_areMarks_10 : decode cX5_areMarks 10 = .ok (.getstatic 24, 3) := by decide +kernel
theorem dX5_areMarks_13 : decode cX5_areMarks 13 = .ok (.iconst 4, 1) := by decide +kernel
theorem dX5_areMarks_14 : decode cX5_areMarks 14 = .ok (.iaload, 1) := by decide +kernel
theorem dX5_areMarks_15 : decode cX5_areMarks 15 = .ok (.if_icmp .gt 21, 3) := by decide +kernel
theorem dX5_areMarks_18 : decode cX5_areMarks 18 = .ok (.iload_n 1, 1) := by decide +kernel
theorem dX5_areMarks_19 : decode cX5_areMarks 19 = .ok (.getstatic 21, 3) := by decide +kernel
theorem dX5_areMarks_22 : decode cX5_areMarks 22 = .ok (.iconst 5, 1) := by decide +kernel
theorem dX5_areMarks_23 : decode cX5_areMarks 23 = .ok (.iaload, 1) := by decide +kernel
theorem dX5_areMarks_24 : decode cX5_areMarks 24 = .ok (.if_icmp .lt 12, 3) := by decide +kernel
theorem dX5_areMarks_27 : decode cX5_areMarks 27 = .ok (.iload_n 1, 1) := by decide +kernel
theorem dX5_areMarks_28 : decode cX5_areMarks 28 = .ok (.iload_n 0, 1) := by decide +kernel
theorem dX5_areMarks_29 : decode cX5_areMarks 29 = .ok (.if_icmp .gt 7, 3) := by decide +kernel
theorem dX5_areMarks_32 : decode cX5_areMarks 32 = .ok (.iconst 1, 1) := by decide +kernel
theorem dX5_areMarks_33 : decode cX5_areMarks 33 = .ok (.goto 4, 3) := by decide +kernel
theorem dX5_areMarks_36 : decode cX5_areMarks 36 = .ok (.iconst 0, 1) := by decide +kernel
theorem dX5_areMarks_37 : decode cX5_areMarks 37 = .ok (.ireturn, 1) := by decide +kernel
theorem dX5_put_0 : decode cX5_put 0 = .ok (.aload_n 0, 1) := by decide +kernel
theorem dX5_put_1 : decode cX5_put 1 = .ok (.getfield 18, 3) := by decide +kernel
theorem dX5_put_4 : decode cX5_put 4 = .ok (.iload_n 1, 1) := by decide +kernel
theorem dX5_put_5 : decode cX5_put 5 = .ok (.iload_n 2, 1) := by decide +kernel
theorem dX5_put_6 : decode cX5_put 6 = .ok (.iastore, 1) := by decide +kernel
theorem dX5_put_7 : decode cX5_put 7 = .ok (.return_, 1) := by decide +kernel
theorem dX5_copyWithMarks_0 : decode cX5_copyWithMarks 0 = .ok (.aload_n 1, 1) := by decide +kernel
theorem dX5_copyWithMarks_1 : decode cX5_copyWithMarks 1 = .ok (.getfield 18, 3) := by decide +kernel
theorem dX5_copyWithMarks_4 : decode cX5_copyWithMarks 4 = .ok (.iconst 0, 1) := by decide +kernel
theorem dX5_copyWithMarks_5 : decode cX5_copyWithMarks 5 = .ok (.aload_n 0, 1) := by decide +kernel
theorem dX5_copyWithMarks_6 : decode cX5_copyWithMarks 6 = .ok (.getfield 18, 3) := by decide +kernel
theorem dX5_copyWithMarks_9 : decode cX5_copyWithMarks 9 = .ok (.iconst 0, 1) := by decide +kernel
theorem dX5_copyWithMarks_10 : decode cX5_copyWithMarks 10 = .ok (.aload_n 0, 1) := by decide +kernel
theorem dX5_copyWithMarks_11 : decode cX5_copyWithMarks 11 = .ok (.getfield 18, 3) := by decide +kernel
theorem dX5_copyWithMarks_14 : decode cX5_copyWithMarks 14 = .ok (.arraylength, 1) := by decide +kernel
theorem dX5_copyWithMarks_15 : decode cX5_copyWithMarks 15 = .ok (.invokestatic 27, 3) := by decide +kernel
theorem dX5_copyWithMarks_18 : decode cX5_copyWithMarks 18 = .ok (.aload_n 0, 1) := by decide +kernel
theorem dX5_copyWithMarks_19 : decode cX5_copyWithMarks 19 = .ok (.getfield 18, 3) := by decide +kernel
theorem dX5_copyWithMarks_22 : decode cX5_copyWithMarks 22 = .ok (.iconst 4, 1) := by decide +kernel
theorem dX5_copyWithMarks_23 : decode cX5_copyWithMarks 23 = .ok (.iload_n 2, 1) := by decide +kernel
theorem dX5_copyWithMarks_24 : decode cX5_copyWithMarks 24 = .ok (.iastore, 1) := by decide +kernel
theorem dX5_copyWithMarks_25 : decode cX5_copyWithMarks 25 = .ok (.aload_n 0, 1) := by decide +kernel
theorem dX5_copyWithMarks_26 : decode cX5_copyWithMarks 26 = .ok (.getfield 18, 3) := by decide +kernel
theorem dX5_copyWithMarks_29 : decode cX5_copyWithMarks 29 = .ok (.iconst 5, 1) := by decide +kernel
theorem dX5_copyWithMarks_30 : decode cX5_copyWithMarks 30 = .ok (.iload_n 3, 1) := by decide +kernel
theorem dX5_copyWithMarks_31 : decode cX5_copyWithMarks 31 = .ok (.iastore, 1) := by decide +kernel
theorem dX5_copyWithMarks_32 : decode cX5_copyWithMarks 32 = .ok (.return_, 1) := by decide +kernel
theorem dX5_fade_0 : decode cX5_fade 0 = .ok (.iconst 1, 1) := by decide +kernel
theorem dX5_fade_1 : decode cX5_fade 1 = .ok (.aload_n 0, 1) := by decide +kernel
theorem dX5_fade_2 : decode cX5_fade 2 = .ok (.getfield 18, 3) := by decide +kernel
theorem dX5_fade_5 : decode cX5_fade 5 = .ok (.iconst 3, 1) := by decide +kernel
theorem dX5_fade_6 : decode cX5_fade 6 = .ok (.iaload, 1) := by decide +kernel
theorem dX5_fade_7 : decode cX5_fade 7 = .ok (.invokestatic 33, 3) := by decide +kernel
theorem dX5_fade_10 : decode cX5_fade 10 = .ok (.istore_n 3, 1) := by decide +kernel
theorem dX5_fade_11 : decode cX5_fade 11 = .ok (.iload_n 2, 1) := by decide +kernel
theorem dX5_fade_12 : decode cX5_fade 12 = .ok (.iload_n 3, 1) := by decide +kernel
theorem dX5_fade_13 : decode cX5_fade 13 = .ok (.idiv, 1) := by decide +kernel
theorem dX5_fade_14 : decode cX5_fade 14 = .ok (.istore 4, 2) := by decide +kernel
theorem dX5_fade_16 : decode cX5_fade 16 = .ok (.iload 4, 2) := by decide +kernel
theorem dX5_fade_18 : decode cX5_fade 18 = .ok (.bipush 30, 2) := by decide +kernel
theorem dX5_fade_20 : decode cX5_fade 20 = .ok (.if_icmp .le 5, 3) := by decide +kernel
theorem dX5_fade_23 : decode cX5_fade 23 = .ok (.iconst 0, 1) := by decide +kernel
theorem dX5_fade_24 : decode cX5_fade 24 = .ok (.ireturn, 1) := by decide +kernel
theorem dX5_fade_25 : decode cX5_fade 25 = .ok (.iload_n 1, 1) := by decide +kernel
theorem dX5_fade_26 : decode cX5_fade 26 = .ok (.iload 4, 2) := by decide +kernel
theorem dX5_fade_28 : decode cX5_fade 28 = .ok (.ishr, 1) := by decide +kernel
theorem dX5_fade_29 : decode cX5_fade 29 = .ok (.istore 5, 2) := by decide +kernel
theorem dX5_fade_31 : decode cX5_fade 31 = .ok (.iload 5, 2) := by decide +kernel
theorem dX5_fade_33 : decode cX5_fade 33 = .ok (.iload 5, 2) := by decide +kernel
theorem dX5_fade_35 : decode cX5_fade 35 = .ok (.iload_n 2, 1) := by decide +kernel
theorem dX5_fade_36 : decode cX5_fade 36 = .ok (.iload_n 3, 1) := by decide +kernel
theorem dX5_fade_37 : decode cX5_fade 37 = .ok (.irem, 1) := by decide +kernel
theorem dX5_fade_38 : decode cX5_fade 38 = .ok (.imul, 1) := by decide +kernel
theorem dX5_fade_39 : decode cX5_fade 39 = .ok (.iconst 2, 1) := by decide +kernel
theorem dX5_fade_40 : decode cX5_fade 40 = .ok (.iload_n 3, 1) := by decide +kernel
theorem dX5_fade_41 : decode cX5_fade 41 = .ok (.imul, 1) := by decide +kernel
theorem dX5_fade_42 : decode cX5_fade 42 = .ok (.idiv, 1) := by decide +kernel
theorem dX5_fade_43 : decode cX5_fade 43 = .ok (.isub, 1) := by decide +kernel
theorem dX5_fade_44 : decode cX5_fade 44 = .ok (.ireturn, 1) := by decide +kernel
theorem dX5_ticksTillBelow_0 : decode cX5_ticksTillBelow 0 = .ok (.iload_n 1, 1) := by decide +kernel
theorem dX5_ticksTillBelow_1 : decode cX5_ticksTillBelow 1 = .ok (.iload_n 2, 1) := by decide +kernel
theorem dX5_ticksTillBelow_2 : decode cX5_ticksTillBelow 2 = .ok (.if_icmp .ge 5, 3) := by decide +kernel
theorem dX5_ticksTillBelow_5 : decode cX5_ticksTillBelow 5 = .ok (.iconst 0, 1) := by decide +kernel
theorem dX5_ticksTillBelow_6 : decode cX5_ticksTillBelow 6 = .ok (.ireturn, 1) := by decide +kernel
theorem dX5_ticksTillBelow_7 : decode cX5_ticksTillBelow 7 = .ok (.aload_n 0, 1) := by decide +kernel
theorem dX5_ticksTillBelow_8 : decode cX5_ticksTillBelow 8 = .ok (.getfield 18, 3) := by decide +kernel
theorem dX5_ticksTillBelow_11 : decode cX5_ticksTillBelow 11 = .ok (.iconst 3, 1) := by decide +kernel
theorem dX5_ticksTillBelow_12 : decode cX5_ticksTillBelow 12 = .ok (.iaload, 1) := by decide +kernel
theorem dX5_ticksTillBelow_13 : decode cX5_ticksTillBelow 13 = .ok (.istore_n 3, 1) := by decide +kernel
theorem dX5_ticksTillBelow_14 : decode cX5_ticksTillBelow 14 = .ok (.iload_n 1, 1) := by decide +kernel
theorem dX5_ticksTillBelow_15 : decode cX5_ticksTillBelow 15 = .ok (.istore 4, 2) := by decide +kernel
theorem dX5_ticksTillBelow_17 : decode cX5_ticksTillBelow 17 = .ok (.iconst 0, 1) := by decide +kernel
theorem dX5_ticksTillBelow_18 : decode cX5_ticksTillBelow 18 = .ok (.istore 5, 2) := by decide +kernel
theorem dX5_ticksTillBelow_20 : decode cX5_ticksTillBelow 20 = .ok (.iconst 0, 1) := by decide +kernel
theorem dX5_ticksTillBelow_21 : decode cX5_ticksTillBelow 21 = .ok (.istore 6, 2) := by decide +kernel
theorem dX5_ticksTillBelow_23 : decode cX5_ticksTillBelow 23 = .ok (.iload 6, 2) := by decide +kernel
theorem dX5_ticksTillBelow_25 : decode cX5_ticksTillBelow 25 = .ok (.bipush 30, 2) := by decide +kernel
theorem dX5_ticksTillBelow_27 : decode cX5_ticksTillBelow 27 = .ok (.if_icmp .ge 29, 3) := by decide +kernel
theorem dX5_ticksTillBelow_30 : decode cX5_ticksTillBelow 30 = .ok (.iload 4, 2) := by decide +kernel
theorem dX5_ticksTillBelow_32 : decode cX5_ticksTillBelow 32 = .ok (.iconst 2, 1) := by decide +kernel
theorem dX5_ticksTillBelow_33 : decode cX5_ticksTillBelow 33 = .ok (.idiv, 1) := by decide +kernel
theorem dX5_ticksTillBelow_34 : decode cX5_ticksTillBelow 34 = .ok (.iload_n 2, 1) := by decide +kernel
theorem dX5_ticksTillBelow_35 : decode cX5_ticksTillBelow 35 = .ok (.if_icmp .lt 21, 3) := by decide +kernel
theorem dX5_ticksTillBelow_38 : decode cX5_ticksTillBelow 38 = .ok (.iload 4, 2) := by decide +kernel
theorem dX5_ticksTillBelow_40 : decode cX5_ticksTillBelow 40 = .ok (.iconst 2, 1) := by decide +kernel
theorem dX5_ticksTillBelow_41 : decode cX5_ticksTillBelow 41 = .ok (.idiv, 1) := by decide +kernel
theorem dX5_ticksTillBelow_42 : decode cX5_ticksTillBelow 42 = .ok (.istore 4, 2) := by decide +kernel
theorem dX5_ticksTillBelow_44 : decode cX5_ticksTillBelow 44 = .ok (.iload 5, 2) := by decide +kernel
theorem dX5_ticksTillBelow_46 : decode cX5_ticksTillBelow 46 = .ok (.iload_n 3, 1) := by decide +kernel
theorem dX5_ticksTillBelow_47 : decode cX5_ticksTillBelow 47 = .ok (.iadd, 1) := by decide +kernel
theorem dX5_ticksTillBelow_48 : decode cX5_ticksTillBelow 48 = .ok (.istore 5, 2) := by decide +kernel
theorem dX5_ticksTillBelow_50 : decode cX5_ticksTillBelow 50 = .ok (.iinc 6 1, 3) := by decide +kernel
theorem dX5_ticksTillBelow_53 : decode cX5_ticksTillBelow 53 = .ok (.goto (-30), 3) := by decide +kernel
theorem dX5_ticksTillBelow_56 : decode cX5_ticksTillBelow 56 = .ok (.iload 4, 2) := by decide +kernel
theorem dX5_ticksTillBelow_58 : decode cX5_ticksTillBelow 58 = .ok (.iload_n 2, 1) := by decide +kernel
theorem dX5_ticksTillBelow_59 : decode cX5_ticksTillBelow 59 = .ok (.isub, 1) := by decide +kernel
theorem dX5_ticksTillBelow_60 : decode cX5_ticksTillBelow 60 = .ok (.iconst 1, 1) := by decide +kernel
theorem dX5_ticksTillBelow_61 : decode cX5_ticksTillBelow 61 = .ok (.iadd, 1) := by decide +kernel
theorem dX5_ticksTillBelow_62 : decode cX5_ticksTillBelow 62 = .ok (.istore 6, 2) := by decide +kernel
theorem dX5_ticksTillBelow_64 : decode cX5_ticksTillBelow 64 = .ok (.iconst 1, 1) := by decide +kernel
theorem dX5_ticksTillBelow_65 : decode cX5_ticksTillBelow 65 = .ok (.iload 4, 2) := by decide +kernel
theorem dX5_ticksTillBelow_67 : decode cX5_ticksTillBelow 67 = .ok (.invokestatic 33, 3) := by decide +kernel
theorem dX5_ticksTillBelow_70 : decode cX5_ticksTillBelow 70 = .ok (.istore 7, 2) := by decide +kernel
theorem dX5_ticksTillBelow_72 : decode cX5_ticksTillBelow 72 = .ok (.iload 6, 2) := by decide +kernel
theorem dX5_ticksTillBelow_74 : decode cX5_ticksTillBelow 74 = .ok (.iconst 2, 1) := by decide +kernel
theorem dX5_ticksTillBelow_75 : decode cX5_ticksTillBelow 75 = .ok (.imul, 1) := by decide +kernel
theorem dX5_ticksTillBelow_76 : decode cX5_ticksTillBelow 76 = .ok (.iload_n 3, 1) := by decide +kernel
theorem dX5_ticksTillBelow_77 : decode cX5_ticksTillBelow 77 = .ok (.imul, 1) := by decide +kernel
theorem dX5_ticksTillBelow_78 : decode cX5_ticksTillBelow 78 = .ok (.iload 7, 2) := by decide +kernel
theorem dX5_ticksTillBelow_80 : decode cX5_ticksTillBelow 80 = .ok (.iadd, 1) := by decide +kernel
theorem dX5_ticksTillBelow_81 : decode cX5_ticksTillBelow 81 = .ok (.iconst 1, 1) := by decide +kernel
theorem dX5_ticksTillBelow_82 : decode cX5_ticksTillBelow 82 = .ok (.isub, 1) := by decide +kernel
theorem dX5_ticksTillBelow_83 : decode cX5_ticksTillBelow 83 = .ok (.iload 7, 2) := by decide +kernel
theorem dX5_ticksTillBelow_85 : decode cX5_ticksTillBelow 85 = .ok (.idiv, 1) := by decide +kernel
theorem dX5_ticksTillBelow_86 : decode cX5_ticksTillBelow 86 = .ok (.istore 8, 2) := by decide +kernel
theorem dX5_ticksTillBelow_88 : decode cX5_ticksTillBelow 88 = .ok (.iload 5, 2) := by decide +kernel
theorem dX5_ticksTillBelow_90 : decode cX5_ticksTillBelow 90 = .ok (.iload_n 3, 1) := by decide +kernel
theorem dX5_ticksTillBelow_91 : decode cX5_ticksTillBelow 91 = .ok (.iload 8, 2) := by decide +kernel
theorem dX5_ticksTillBelow_93 : decode cX5_ticksTillBelow 93 = .ok (.invokestatic 39, 3) := by decide +kernel
theorem dX5_ticksTillBelow_96 : decode cX5_ticksTillBelow 96 = .ok (.iadd, 1) := by decide +kernel
theorem dX5_ticksTillBelow_97 : decode cX5_ticksTillBelow 97 = .ok (.ireturn, 1) := by decide +kernel
theorem dX6_init_0 : decode cX6_init 0 = .ok (.aload_n 0, 1) := by decide +kernel
theorem dX6_init_1 : decode cX6_init 1 = .ok (.invokespecial 1, 3) := by decide +kernel
theorem dX6_init_4 : decode cX6_init 4 = .ok (.aload_n 0, 1) := by decide +kernel
theorem dX6_init_5 : decode cX6_init 5 = .ok (.new 7, 3) := by decide +kernel
theorem dX6_init_8 : decode cX6_init 8 = .ok (.dup, 1) := by decide +kernel
theorem dX6_init_9 : decode cX6_init 9 = .ok (.invokespecial 9, 3) := by decide +kernel
theorem dX6_init_12 : decode cX6_init 12 = .ok (.putfield 10, 3) := by decide +kernel
theorem dX6_init_15 : decode cX6_init 15 = .ok (.aload_n 0, 1) := by decide +kernel
theorem dX6_init_16 : decode cX6_init 16 = .ok (.new 16, 3) := by decide +kernel
theorem dX6_init_19 : decode cX6_init 19 = .ok (.dup, 1) := by decide +kernel
theorem dX6_init_20 : decode cX6_init 20 = .ok (.invokespecial 18, 3) := by decide +kernel
theorem dX6_init_23 : decode cX6_init 23 = .ok (.putfield 19, 3) := by decide +kernel
theorem dX6_init_26 : decode cX6_init 26 = .ok (.aload_n 0, 1) := by decide +kernel
theorem dX6_init_27 : decode cX6_init 27 = .ok (.new 23, 3) := by decide +kernel
theorem dX6_init_30 : decode cX6_init 30 = .ok (.dup, 1) := by decide +kernel
theorem dX6_init_31 : decode cX6_init 31 = .ok (.invokespecial 25, 3) := by decide +kernel
theorem dX6_init_34 : decode cX6_init 34 = .ok (.putfield 26, 3) := by decide +kernel
theorem dX6_init_37 : decode cX6_init 37 = .ok (.aload_n 0, 1) := by decide +kernel
theorem dX6_init_38 : decode cX6_init 38 = .ok (.new 30, 3) := by decide +kernel
theorem dX6_init_41 : decode cX6_init 41 = .ok (.dup, 1) := by decide +kernel
theorem dX6_init_42 : decode cX6_init 42 = .ok (.aload_n 0, 1) := by decide +kernel
theorem dX6_init_43 : decode cX6_init 43 = .ok (.getfield 10, 3) := by decide +kernel
theorem dX6_init_46 : decode cX6_init 46 = .ok (.aload_n 0, 1) := by decide +kernel
theorem dX6_init_47 : decode cX6_init 47 = .ok (.getfield 19, 3) := by decide +kernel
theorem dX6_init_50 : decode cX6_init 50 = .ok (.invokespecial 32, 3) := by decide +kernel
theorem dX6_init_53 : decode cX6_init 53 = .ok (.putfield 35, 3) := by decide +kernel
theorem dX6_init_56 : decode cX6_init 56 = .ok (.aload_n 0, 1) := by decide +kernel
theorem dX6_init_57 : decode cX6_init 57 = .ok (.new 39, 3) := by decide +kernel
theorem dX6_init_60 : decode cX6_init 60 = .ok (.dup, 1) := by decide +kernel
theorem dX6_init_61 : decode cX6_init 61 = .ok (.aload_n 0, 1) := by decide +kernel
theorem dX6_init_62 : decode cX6_init 62 = .ok (.getfield 10, 3) := by decide +kernel
theorem dX6_init_65 : decode cX6_init 65 = .ok (.aload_n 0, 1) := by decide +kernel
theorem dX6_init_66 : decode cX6_init 66 = .ok (.getfield 19, 3) := by decide +kernel
theorem dX6_init_69 : decode cX6_init 69 = .ok (.aload_n 0, 1) := by decide +kernel
theorem dX6_init_70 : decode cX6_init 70 = .ok (.getfield 26, 3) := by decide +kernel
theorem dX6_init_73 : decode cX6_init 73 = .ok (.invokespecial 41, 3) := by decide +kernel
theorem dX6_init_76 : decode cX6_init 76 = .ok (.putfield 44, 3) := by decide +kernel
theorem dX6_init_79 : decode cX6_init 79 = .ok (.aload_n 0, 1) := by decide +kernel
theorem dX6_init_80 : decode cX6_init 80 = .ok (.new 48, 3) := by decide +kernel
theorem dX6_init_83 : decode cX6_init 83 = .ok (.dup, 1) := by decide +kernel
theorem dX6_init_84 : decode cX6_init 84 = .ok (.invokespecial 50, 3) := by decide +kernel
theorem dX6_init_87 : decode cX6_init 87 = .ok (.putfield 51, 3) := by decide +kernel
theorem dX6_init_90 : decode cX6_init 90 = .ok (.aload_n 0, 1) := by decide +kernel
theorem dX6_init_91 : decode cX6_init 91 = .ok (.iconst 0, 1) := by decide +kernel
theorem dX6_init_92 : decode cX6_init 92 = .ok (.putfield 55, 3) := by decide +kernel
theorem dX6_init_95 : decode cX6_init 95 = .ok (.return_, 1) := by decide +kernel
theorem dX6_line_0 : decode cX6_line 0 = .ok (.iload_n 1, 1) := by decide +kernel
theorem dX6_line_1 : decode cX6_line 1 = .ok (.ifCond .lt 8, 3) := by decide +kernel
theorem dX6_line_4 : decode cX6_line 4 = .ok (.iload_n 1, 1) := by decide +kernel
theorem dX6_line_5 : decode cX6_line 5 = .ok (.iconst 2, 1) := by decide +kernel
theorem dX6_line_6 : decode cX6_line 6 = .ok (.if_icmp .le 6, 3) := by decide +kernel
theorem dX6_line_9 : decode cX6_line 9 = .ok (.bipush (-2), 2) := by decide +kernel
theorem dX6_line_11 : decode cX6_line 11 = .ok (.ireturn, 1) := by decide +kernel
theorem dX6_line_12 : decode cX6_line 12 = .ok (.iload_n 1, 1) := by decide +kernel
theorem dX6_line_13 : decode cX6_line 13 = .ok (.iconst 1, 1) := by decide +kernel
theorem dX6_line_14 : decode cX6_line 14 = .ok (.if_icmp .ne 15, 3) := by decide +kernel
theorem dX6_line_17 : decode cX6_line 17 = .ok (.iload_n 2, 1) := by decide +kernel
theorem dX6_line_18 : decode cX6_line 18 = .ok (.ifCond .lt 8, 3) := by decide +kernel
theorem dX6_line_21 : decode cX6_line 21 = .ok (.iload_n 2, 1) := by decide +kernel
theorem dX6_line_22 : decode cX6_line 22 = .ok (.iconst 4, 1) := by decide +kernel
theorem dX6_line_23 : decode cX6_line 23 = .ok (.if_icmp .lt 6, 3) := by decide +kernel
theorem dX6_line_26 : decode cX6_line 26 = .ok (.bipush (-2), 2) := by decide +kernel
theorem dX6_line_28 : decode cX6_line 28 = .ok (.ireturn, 1) := by decide +kernel
theorem dX6_line_29 : decode cX6_line 29 = .ok (.aload_n 0, 1) := by decide +kernel
theorem dX6_line_30 : decode cX6_line 30 = .ok (.getfield 19, 3) := by decide +kernel
theorem dX6_line_33 : decode cX6_line 33 = .ok (.invokevirtual 59, 3) := by decide +kernel
theorem dX6_line_36 : decode cX6_line 36 = .ok (.ifCond .eq 6, 3) := by decide +kernel
theorem dX6_line_39 : decode cX6_line 39 = .ok (.bipush (-4), 2) := by decide +kernel
theorem dX6_line_41 : decode cX6_line 41 = .ok (.ireturn, 1) := by decide +kernel
theorem dX6_line_42 : decode cX6_line 42 = .ok (.aload_n 0, 1) := by decide +kernel
theorem dX6_line_43 : decode cX6_line 43 = .ok (.getfield 19, 3) := by decide +kernel
theorem dX6_line_46 : decode cX6_line 46 = .ok (.iload_n 1, 1) := by decide +kernel
theorem dX6_line_47 : decode cX6_line 47 = .ok (.iload_n 2, 1) := by decide +kernel
theorem dX6_line_48 : decode cX6_line 48 = .ok (.invokevirtual 63, 3) := by decide +kernel
theorem dX6_line_51 : decode cX6_line 51 = .ok (.istore_n 3, 1) := by decide +kernel
theorem dX6_line_52 : decode cX6_line 52 = .ok (.aload_n 0, 1) := by decide +kernel
theorem dX6_line_53 : decode cX6_line 53 = .ok (.getfield 35, 3) := by decide +kernel
theorem dX6_line_56 : decode cX6_line 56 = .ok (.iload_n 3, 1) := by decide +kernel
theorem dX6_line_57 : decode cX6_line 57 = .ok (.invokevirtual 67, 3) := by decide +kernel
theorem dX6_line_60 : decode cX6_line 60 = .ok (.iload_n 3, 1) := by decide +kernel
theorem dX6_line_61 : decode cX6_line 61 = .ok (.ireturn, 1) := by decide +kernel
theorem dX6_rule_0 : decode cX6_rule 0 = .ok (.aload_n 0, 1) := by decide +kernel
theorem dX6_rule_1 : decode cX6_rule 1 = .ok (.getfield 10, 3) := by decide +kernel
theorem dX6_rule_4 : decode cX6_rule 4 = .ok (.iload_n 1, 1) := by decide +kernel
theorem dX6_rule_5 : decode cX6_rule 5 = .ok (.iload_n 2, 1) := by decide +kernel
theorem dX6_rule_6 : decode cX6_rule 6 = .ok (.invokevirtual 71, 3) := by decide +kernel
theorem dX6_rule_9 : decode cX6_rule 9 = .ok (.ifCond .ne 6, 3) := by decide +kernel
theorem dX6_rule_12 : decode cX6_rule 12 = .ok (.bipush (-2), 2) := by decide +kernel
theorem dX6_rule_14 : decode cX6_rule 14 = .ok (.ireturn, 1) := by decide +kernel
theorem dX6_rule_15 : decode cX6_rule 15 = .ok (.aload_n 0, 1) := by decide +kernel
theorem dX6_rule_16 : decode cX6_rule 16 = .ok (.getfield 10, 3) := by decide +kernel
theorem dX6_rule_19 : decode cX6_rule 19 = .ok (.iload_n 1, 1) := by decide +kernel
theorem dX6_rule_20 : decode cX6_rule 20 = .ok (.invokevirtual 75, 3) := by decide +kernel
theorem dX6_rule_23 : decode cX6_rule 23 = .ok (.istore_n 3, 1) := by decide +kernel
theorem dX6_rule_24 : decode cX6_rule 24 = .ok (.aload_n 0, 1) := by decide +kernel
theorem dX6_rule_25 : decode cX6_rule 25 = .ok (.getfield 35, 3) := by decide +kernel
theorem dX6_rule_28 : decode cX6_rule 28 = .ok (.aload_n 0, 1) := by decide +kernel
theorem dX6_rule_29 : decode cX6_rule 29 = .ok (.getfield 55, 3) := by decide +kernel
theorem dX6_rule_32 : decode cX6_rule 32 = .ok (.invokevirtual 79, 3) := by decide +kernel
theorem dX6_rule_35 : decode cX6_rule 35 = .ok (.aload_n 0, 1) := by decide +kernel
theorem dX6_rule_36 : decode cX6_rule 36 = .ok (.getfield 10, 3) := by decide +kernel
theorem dX6_rule_39 : decode cX6_rule 39 = .ok (.iload_n 1, 1) := by decide +kernel
theorem dX6_rule_40 : decode cX6_rule 40 = .ok (.iload_n 2, 1) := by decide +kernel
theorem dX6_rule_41 : decode cX6_rule 41 = .ok (.invokevirtual 82, 3) := by decide +kernel
theorem dX6_rule_44 : decode cX6_rule 44 = .ok (.iload_n 3, 1) := by decide +kernel
theorem dX6_rule_45 : decode cX6_rule 45 = .ok (.ireturn, 1) := by decide +kernel
theorem dX6_faded_0 : decode cX6_faded 0 = .ok (.iload_n 1, 1) := by decide +kernel
theorem dX6_faded_1 : decode cX6_faded 1 = .ok (.ifCond .lt 19, 3) := by decide +kernel
theorem dX6_faded_4 : decode cX6_faded 4 = .ok (.iload_n 1, 1) := by decide +kernel
theorem dX6_faded_5 : decode cX6_faded 5 = .ok (.ldc 86, 2) := by decide +kernel
theorem dX6_faded_7 : decode cX6_faded 7 = .ok (.if_icmp .gt 13, 3) := by decide +kernel
theorem dX6_faded_10 : decode cX6_faded 10 = .ok (.iload_n 2, 1) := by decide +kernel
theorem dX6_faded_11 : decode cX6_faded 11 = .ok (.ifCond .lt 9, 3) := by decide +kernel
theorem dX6_faded_14 : decode cX6_faded 14 = .ok (.iload_n 2, 1) := by decide +kernel
theorem dX6_faded_15 : decode cX6_faded 15 = .ok (.ldc 86, 2) := by decide +kernel
theorem dX6_faded_17 : decode cX6_faded 17 = .ok (.if_icmp .le 6, 3) := by decide +kernel
theorem dX6_faded_20 : decode cX6_faded 20 = .ok (.bipush (-2), 2) := by decide +kernel
theorem dX6_faded_22 : decode cX6_faded 22 = .ok (.ireturn, 1) := by decide +kernel
theorem dX6_faded_23 : decode cX6_faded 23 = .ok (.aload_n 0, 1) := by decide +kernel
theorem dX6_faded_24 : decode cX6_faded 24 = .ok (.getfield 10, 3) := by decide +kernel
theorem dX6_faded_27 : decode cX6_faded 27 = .ok (.iload_n 1, 1) := by decide +kernel
theorem dX6_faded_28 : decode cX6_faded 28 = .ok (.iload_n 2, 1) := by decide +kernel
theorem dX6_faded_29 : decode cX6_faded 29 = .ok (.invokevirtual 87, 3) := by decide +kernel
theorem dX6_faded_32 : decode cX6_faded 32 = .ok (.ireturn, 1) := by decide +kernel
theorem dX6_change_0 : decode cX6_change 0 = .ok (.aload_n 0, 1) := by decide +kernel
theorem dX6_change_1 : decode cX6_change 1 = .ok (.getfield 19, 3) := by decide +kernel
theorem dX6_change_4 : decode cX6_change 4 = .ok (.iload_n 1, 1) := by decide +kernel
theorem dX6_change_5 : decode cX6_change 5 = .ok (.invokevirtual 90, 3) := by decide +kernel
theorem dX6_change_8 : decode cX6_change 8 = .ok (.ifCond .ne 6, 3) := by decide +kernel
theorem dX6_change_11 : decode cX6_change 11 = .ok (.bipush (-2), 2) := by decide +kernel
theorem dX6_change_13 : decode cX6_change 13 = .ok (.ireturn, 1) := by decide +kernel
theorem dX6_change_14 : decode cX6_change 14 = .ok (.aload_n 0, 1) := by decide +kernel
theorem dX6_change_15 : decode cX6_change 15 = .ok (.getfield 35, 3) := by decide +kernel
theorem dX6_change_18 : decode cX6_change 18 = .ok (.iload_n 1, 1) := by decide +kernel
theorem dX6_change_19 : decode cX6_change 19 = .ok (.invokevirtual 94, 3) := by decide +kernel
theorem dX6_change_22 : decode cX6_change 22 = .ok (.iload_n 2, 1) := by decide +kernel
theorem dX6_change_23 : decode cX6_change 23 = .ok (.if_icmp .ne 6, 3) := by decide +kernel
theorem dX6_change_26 : decode cX6_change 26 = .ok (.bipush (-3), 2) := by decide +kernel
theorem dX6_change_28 : decode cX6_change 28 = .ok (.ireturn, 1) := by decide +kernel
theorem dX6_change_29 : decode cX6_change 29 = .ok (.aload_n 0, 1) := by decide +kernel
theorem dX6_change_30 : decode cX6_change 30 = .ok (.iload_n 1, 1) := by decide +kernel
theorem dX6_change_31 : decode cX6_change 31 = .ok (.iload_n 2, 1) := by decide +kernel
theorem dX6_change_32 : decode cX6_change 32 = .ok (.ifCond .eq 7, 3) := by decide +kernel
theorem dX6_change_35 : decode cX6_change 35 = .ok (.iconst 1, 1) := by decide +kernel
theorem dX6_change_36 : decode cX6_change 36 = .ok (.goto 4, 3) := by decide +kernel
theorem dX6_change_39 : decode cX6_change 39 = .ok (.iconst 0, 1) := by decide +kernel
theorem dX6_change_40 : decode cX6_change 40 = .ok (.invokevirtual 97, 3) := by decide +kernel
theorem dX6_change_43 : decode cX6_change 43 = .ok (.ireturn, 1) := by decide +kernel
theorem dX6_echo_0 : decode cX6_echo 0 = .ok (.aload_n 0, 1) := by decide +kernel
theorem dX6_echo_1 : decode cX6_echo 1 = .ok (.getfield 19, 3) := by decide +kernel
theorem dX6_echo_4 : decode cX6_echo 4 = .ok (.iload_n 1, 1) := by decide +kernel
theorem dX6_echo_5 : decode cX6_echo 5 = .ok (.invokevirtual 90, 3) := by decide +kernel
theorem dX6_echo_8 : decode cX6_echo 8 = .ok (.ifCond .ne 6, 3) := by decide +kernel
theorem dX6_echo_11 : decode cX6_echo 11 = .ok (.bipush (-2), 2) := by decide +kernel
theorem dX6_echo_13 : decode cX6_echo 13 = .ok (.ireturn, 1) := by decide +kernel
theorem dX6_echo_14 : decode cX6_echo 14 = .ok (.aload_n 0, 1) := by decide +kernel
theorem dX6_echo_15 : decode cX6_echo 15 = .ok (.iload_n 1, 1) := by decide +kernel
theorem dX6_echo_16 : decode cX6_echo 16 = .ok (.iconst 2, 1) := by decide +kernel
theorem dX6_echo_17 : decode cX6_echo 17 = .ok (.invokevirtual 97, 3) := by decide +kernel
theorem dX6_echo_20 : decode cX6_echo 20 = .ok (.ireturn, 1) := by decide +kernel
theorem dX6_penaltyAfter_0 : decode cX6_penaltyAfter 0 = .ok (.aload_n 0, 1) := by decide +kernel
theorem dX6_penaltyAfter_1 : decode cX6_penaltyAfter 1 = .ok (.iload_n 1, 1) := by decide +kernel
theorem dX6_penaltyAfter_2 : decode cX6_penaltyAfter 2 = .ok (.iload_n 2, 1) := by decide +kernel
theorem dX6_penaltyAfter_3 : decode cX6_penaltyAfter 3 = .ok (.invokevirtual 100, 3) := by decide +kernel
theorem dX6_penaltyAfter_6 : decode cX6_penaltyAfter 6 = .ok (.ifCond .eq 18, 3) := by decide +kernel
theorem dX6_penaltyAfter_9 : decode cX6_penaltyAfter 9 = .ok (.aload_n 0, 1) := by decide +kernel
theorem dX6_penaltyAfter_10 : decode cX6_penaltyAfter 10 = .ok (.getfield 35, 3) := by decide +kernel
theorem dX6_penaltyAfter_13 : decode cX6_penaltyAfter 13 = .ok (.iload_n 1, 1) := by decide +kernel
theorem dX6_penaltyAfter_14 : decode cX6_penaltyAfter 14 = .ok (.aload_n 0, 1) := by decide +kernel
theorem dX6_penaltyAfter_15 : decode cX6_penaltyAfter 15 = .ok (.getfield 55, 3) := by decide +kernel
theorem dX6_penaltyAfter_18 : decode cX6_penaltyAfter 18 = .ok (.invokevirtual 103, 3) := by decide +kernel
theorem dX6_penaltyAfter_21 : decode cX6_penaltyAfter 21 = .ok (.goto 5, 3) := by decide +kernel
theorem dX6_penaltyAfter_24 : decode cX6_penaltyAfter 24 = .ok (.bipush (-4), 2) := by decide +kernel
theorem dX6_penaltyAfter_26 : decode cX6_penaltyAfter 26 = .ok (.ireturn, 1) := by decide +kernel
theorem dX6_happen_0 : decode cX6_happen 0 = .ok (.aload_n 0, 1) := by decide +kernel
theorem dX6_happen_1 : decode cX6_happen 1 = .ok (.getfield 26, 3) := by decide +kernel
theorem dX6_happen_4 : decode cX6_happen 4 = .ok (.invokevirtual 106, 3) := by decide +kernel
theorem dX6_happen_7 : decode cX6_happen 7 = .ok (.ifCond .eq 5, 3) := by decide +kernel
theorem dX6_happen_10 : decode cX6_happen 10 = .ok (.iconst 0, 1) := by decide +kernel
theorem dX6_happen_11 : decode cX6_happen 11 = .ok (.ireturn, 1) := by decide +kernel
theorem dX6_happen_12 : decode cX6_happen 12 = .ok (.aload_n 0, 1) := by decide +kernel
theorem dX6_happen_13 : decode cX6_happen 13 = .ok (.getfield 26, 3) := by decide +kernel
theorem dX6_happen_16 : decode cX6_happen 16 = .ok (.iload_n 1, 1) := by decide +kernel
theorem dX6_happen_17 : decode cX6_happen 17 = .ok (.iload_n 2, 1) := by decide +kernel
theorem dX6_happen_18 : decode cX6_happen 18 = .ok (.aload_n 0, 1) := by decide +kernel
theorem dX6_happen_19 : decode cX6_happen 19 = .ok (.getfield 55, 3) := by decide +kernel
theorem dX6_happen_22 : decode cX6_happen 22 = .ok (.invokevirtual 107, 3) := by decide +kernel
theorem dX6_happen_25 : decode cX6_happen 25 = .ok (.aload_n 0, 1) := by decide +kernel
theorem dX6_happen_26 : decode cX6_happen 26 = .ok (.getfield 35, 3) := by decide +kernel
theorem dX6_happen_29 : decode cX6_happen 29 = .ok (.iload_n 1, 1) := by decide +kernel
theorem dX6_happen_30 : decode cX6_happen 30 = .ok (.iload_n 2, 1) := by decide +kernel
theorem dX6_happen_31 : decode cX6_happen 31 = .ok (.aload_n 0, 1) := by decide +kernel
theorem dX6_happen_32 : decode cX6_happen 32 = .ok (.getfield 55, 3) := by decide +kernel
theorem dX6_happen_35 : decode cX6_happen 35 = .ok (.invokevirtual 111, 3) := by decide +kernel
theorem dX6_happen_38 : decode cX6_happen 38 = .ok (.iconst 1, 1) := by decide +kernel
theorem dX6_happen_39 : decode cX6_happen 39 = .ok (.ireturn, 1) := by decide +kernel
theorem dX6_tick_0 : decode cX6_tick 0 = .ok (.iload_n 1, 1) := by decide +kernel
theorem dX6_tick_1 : decode cX6_tick 1 = .ok (.iconst 1, 1) := by decide +kernel
theorem dX6_tick_2 : decode cX6_tick 2 = .ok (.if_icmp .lt 10, 3) := by decide +kernel
theorem dX6_tick_5 : decode cX6_tick 5 = .ok (.iload_n 1, 1) := by decide +kernel
theorem dX6_tick_6 : decode cX6_tick 6 = .ok (.sipush 200, 3) := by decide +kernel
theorem dX6_tick_9 : decode cX6_tick 9 = .ok (.if_icmp .le 6, 3) := by decide +kernel
theorem dX6_tick_12 : decode cX6_tick 12 = .ok (.bipush (-2), 2) := by decide +kernel
theorem dX6_tick_14 : decode cX6_tick 14 = .ok (.ireturn, 1) := by decide +kernel
theorem dX6_tick_15 : decode cX6_tick 15 = .ok (.aload_n 0, 1) := by decide +kernel
theorem dX6_tick_16 : decode cX6_tick 16 = .ok (.getfield 55, 3) := by decide +kernel
theorem dX6_tick_19 : decode cX6_tick 19 = .ok (.iload_n 1, 1) := by decide +kernel
theorem dX6_tick_20 : decode cX6_tick 20 = .ok (.iadd, 1) := by decide +kernel
theorem dX6_tick_21 : decode cX6_tick 21 = .ok (.sipush 2000, 3) := by decide +kernel
theorem dX6_tick_24 : decode cX6_tick 24 = .ok (.if_icmp .le 6, 3) := by decide +kernel
theorem dX6_tick_27 : decode cX6_tick 27 = .ok (.bipush (-4), 2) := by decide +kernel
theorem dX6_tick_29 : decode cX6_tick 29 = .ok (.ireturn, 1) := by decide +kernel
theorem dX6_tick_30 : decode cX6_tick 30 = .ok (.aload_n 0, 1) := by decide +kernel
theorem dX6_tick_31 : decode cX6_tick 31 = .ok (.dup, 1) := by decide +kernel
theorem dX6_tick_32 : decode cX6_tick 32 = .ok (.getfield 55, 3) := by decide +kernel
theorem dX6_tick_35 : decode cX6_tick 35 = .ok (.iload_n 1, 1) := by decide +kernel
theorem dX6_tick_36 : decode cX6_tick 36 = .ok (.iadd, 1) := by decide +kernel
theorem dX6_tick_37 : decode cX6_tick 37 = .ok (.putfield 55, 3) := by decide +kernel
theorem dX6_tick_40 : decode cX6_tick 40 = .ok (.aload_n 0, 1) := by decide +kernel
theorem dX6_tick_41 : decode cX6_tick 41 = .ok (.getfield 35, 3) := by decide +kernel
theorem dX6_tick_44 : decode cX6_tick 44 = .ok (.aload_n 0, 1) := by decide +kernel
theorem dX6_tick_45 : decode cX6_tick 45 = .ok (.getfield 55, 3) := by decide +kernel
theorem dX6_tick_48 : decode cX6_tick 48 = .ok (.invokevirtual 114, 3) := by decide +kernel
theorem dX6_tick_51 : decode cX6_tick 51 = .ok (.aload_n 0, 1) := by decide +kernel
theorem dX6_tick_52 : decode cX6_tick 52 = .ok (.getfield 55, 3) := by decide +kernel
theorem dX6_tick_55 : decode cX6_tick 55 = .ok (.ireturn, 1) := by decide +kernel
theorem dX6_about_0 : decode cX6_about 0 = .ok (.aload_n 0, 1) := by decide +kernel
theorem dX6_about_1 : decode cX6_about 1 = .ok (.getfield 19, 3) := by decide +kernel
theorem dX6_about_4 : decode cX6_about 4 = .ok (.iload_n 1, 1) := by decide +kernel
theorem dX6_about_5 : decode cX6_about 5 = .ok (.invokevirtual 90, 3) := by decide +kernel
theorem dX6_about_8 : decode cX6_about 8 = .ok (.ifCond .ne 6, 3) := by decide +kernel
theorem dX6_about_11 : decode cX6_about 11 = .ok (.bipush (-2), 2) := by decide +kernel
theorem dX6_about_13 : decode cX6_about 13 = .ok (.ireturn, 1) := by decide +kernel
theorem dX6_about_14 : decode cX6_about 14 = .ok (.iload_n 2, 1) := by decide +kernel
theorem dX6_about_15 : decode cX6_about 15 = .ok (.tableswitch 147 0 8 #[49, 62, 74, 86, 98, 107, 116, 125, 138], 49) := by decide +kernel
theorem dX6_about_64 : decode cX6_about 64 = .ok (.aload_n 0, 1) := by decide +kernel
theorem dX6_about_65 : decode cX6_about 65 = .ok (.getfield 35, 3) := by decide +kernel
theorem dX6_about_68 : decode cX6_about 68 = .ok (.iload_n 1, 1) := by decide +kernel
theorem dX6_about_69 : decode cX6_about 69 = .ok (.aload_n 0, 1) := by decide +kernel
theorem dX6_about_70 : decode cX6_about 70 = .ok (.getfield 55, 3) := by decide +kernel
theorem dX6_about_73 : decode cX6_about 73 = .ok (.invokevirtual 103, 3) := by decide +kernel
theorem dX6_about_76 : decode cX6_about 76 = .ok (.ireturn, 1) := by decide +kernel
theorem dX6_about_77 : decode cX6_about 77 = .ok (.aload_n 0, 1) := by decide +kernel
theorem dX6_about_78 : decode cX6_about 78 = .ok (.getfield 35, 3) := by decide +kernel
theorem dX6_about_81 : decode cX6_about 81 = .ok (.iload_n 1, 1) := by decide +kernel
theorem dX6_about_82 : decode cX6_about 82 = .ok (.invokevirtual 94, 3) := by decide +kernel
theorem dX6_about_85 : decode cX6_about 85 = .ok (.invokestatic 117, 3) := by decide +kernel
theorem dX6_about_88 : decode cX6_about 88 = .ok (.ireturn, 1) := by decide +kernel
theorem dX6_about_89 : decode cX6_about 89 = .ok (.aload_n 0, 1) := by decide +kernel
theorem dX6_about_90 : decode cX6_about 90 = .ok (.getfield 35, 3) := by decide +kernel
theorem dX6_about_93 : decode cX6_about 93 = .ok (.iload_n 1, 1) := by decide +kernel
theorem dX6_about_94 : decode cX6_about 94 = .ok (.invokevirtual 121, 3) := by decide +kernel
theorem dX6_about_97 : decode cX6_about 97 = .ok (.invokestatic 117, 3) := by decide +kernel
theorem dX6_about_100 : decode cX6_about 100 = .ok (.ireturn, 1) := by decide +kernel
theorem dX6_about_101 : decode cX6_about 101 = .ok (.aload_n 0, 1) := by decide +kernel
theorem dX6_about_102 : decode cX6_about 102 = .ok (.getfield 35, 3) := by decide +kernel
theorem dX6_about_105 : decode cX6_about 105 = .ok (.iload_n 1, 1) := by decide +kernel
theorem dX6_about_106 : decode cX6_about 106 = .ok (.invokevirtual 124, 3) := by decide +kernel
theorem dX6_about_109 : decode cX6_about 109 = .ok (.invokestatic 117, 3) := by decide +kernel
theorem dX6_about_112 : decode cX6_about 112 = .ok (.ireturn, 1) := by decide +kernel
theorem dX6_about_113 : decode cX6_about 113 = .ok (.aload_n 0, 1) := by decide +kernel
theorem dX6_about_114 : decode cX6_about 114 = .ok (.getfield 35, 3) := by decide +kernel
theorem dX6_about_117 : decode cX6_about 117 = .ok (.iload_n 1, 1) := by decide +kernel
theorem dX6_about_118 : decode cX6_about 118 = .ok (.invokevirtual 127, 3) := by decide +kernel
theorem dX6_about_121 : decode cX6_about 121 = .ok (.ireturn, 1) := by decide +kernel
theorem dX6_about_122 : decode cX6_about 122 = .ok (.aload_n 0, 1) := by decide +kernel
theorem dX6_about_123 : decode cX6_about 123 = .ok (.getfield 35, 3) := by decide +kernel
theorem dX6_about_126 : decode cX6_about 126 = .ok (.iload_n 1, 1) := by decide +kernel
theorem dX6_about_127 : decode cX6_about 127 = .ok (.invokevirtual 130, 3) := by decide +kernel
theorem dX6_about_130 : decode cX6_about 130 = .ok (.ireturn, 1) := by decide +kernel
theorem dX6_about_131 : decode cX6_about 131 = .ok (.aload_n 0, 1) := by decide +kernel
theorem dX6_about_132 : decode cX6_about 132 = .ok (.getfield 19, 3) := by decide +kernel
theorem dX6_about_135 : decode cX6_about 135 = .ok (.iload_n 1, 1) := by decide +kernel
theorem dX6_about_136 : decode cX6_about 136 = .ok (.invokevirtual 133, 3) := by decide +kernel
theorem dX6_about_139 : decode cX6_about 139 = .ok (.ireturn, 1) := by decide +kernel
theorem dX6_about_140 : decode cX6_about 140 = .ok (.aload_n 0, 1) := by decide +kernel
theorem dX6_about_141 : decode cX6_about 141 = .ok (.getfield 35, 3) := by decide +kernel
theorem dX6_about_144 : decode cX6_about 144 = .ok (.iload_n 1, 1) := by decide +kernel
theorem dX6_about_145 : decode cX6_about 145 = .ok (.aload_n 0, 1) := by decide +kernel
theorem dX6_about_146 : decode cX6_about 146 = .ok (.getfield 55, 3) := by decide +kernel
theorem dX6_about_149 : decode cX6_about 149 = .ok (.invokevirtual 136, 3) := by decide +kernel
theorem dX6_about_152 : decode cX6_about 152 = .ok (.ireturn, 1) := by decide +kernel
theorem dX6_about_153 : decode cX6_about 153 = .ok (.aload_n 0, 1) := by decide +kernel
theorem dX6_about_154 : decode cX6_about 154 = .ok (.getfield 19, 3) := by decide +kernel
theorem dX6_about_157 : decode cX6_about 157 = .ok (.iload_n 1, 1) := by decide +kernel
theorem dX6_about_158 : decode cX6_about 158 = .ok (.invokevirtual 139, 3) := by decide +kernel
theorem dX6_about_161 : decode cX6_about 161 = .ok (.ireturn, 1) := by decide +kernel
theorem dX6_about_162 : decode cX6_about 162 = .ok (.bipush (-2), 2) := by decide +kernel
theorem dX6_about_164 : decode cX6_about 164 = .ok (.ireturn, 1) := by decide +kernel
theorem dX6_asNumber_0 : decode cX6_asNumber 0 = .ok (.iload_n 0, 1) := by decide +kernel
theorem dX6_asNumber_1 : decode cX6_asNumber 1 = .ok (.ifCond .eq 7, 3) := by decide +kernel
theorem dX6_asNumber_4 : decode cX6_asNumber 4 = .ok (.iconst 1, 1) := by decide +kernel
theorem dX6_asNumber_5 : decode cX6_asNumber 5 = .ok (.goto 4, 3) := by decide +kernel
theorem dX6_asNumber_8 : decode cX6_asNumber 8 = .ok (.iconst 0, 1) := by decide +kernel
theorem dX6_asNumber_9 : decode cX6_asNumber 9 = .ok (.ireturn, 1) := by decide +kernel
theorem dX6_longest_0 : decode cX6_longest 0 = .ok (.aload_n 0, 1) := by decide +kernel
theorem dX6_longest_1 : decode cX6_longest 1 = .ok (.getfield 10, 3) := by decide +kernel
theorem dX6_longest_4 : decode cX6_longest 4 = .ok (.aload_n 0, 1) := by decide +kernel
theorem dX6_longest_5 : decode cX6_longest 5 = .ok (.getfield 10, 3) := by decide +kernel
theorem dX6_longest_8 : decode cX6_longest 8 = .ok (.bipush 6, 2) := by decide +kernel
theorem dX6_longest_10 : decode cX6_longest 10 = .ok (.invokevirtual 75, 3) := by decide +kernel
theorem dX6_longest_13 : decode cX6_longest 13 = .ok (.aload_n 0, 1) := by decide +kernel
theorem dX6_longest_14 : decode cX6_longest 14 = .ok (.getfield 10, 3) := by decide +kernel
theorem dX6_longest_17 : decode cX6_longest 17 = .ok (.iconst 5, 1) := by decide +kernel
theorem dX6_longest_18 : decode cX6_longest 18 = .ok (.invokevirtual 75, 3) := by decide +kernel
theorem dX6_longest_21 : decode cX6_longest 21 = .ok (.invokevirtual 142, 3) := by decide +kernel
theorem dX6_longest_24 : decode cX6_longest 24 = .ok (.ireturn, 1) := by decide +kernel
theorem dX6_event_0 : decode cX6_event 0 = .ok (.iload_n 1, 1) := by decide +kernel
theorem dX6_event_1 : decode cX6_event 1 = .ok (.ifCond .lt 12, 3) := by decide +kernel
theorem dX6_event_4 : decode cX6_event 4 = .ok (.iload_n 2, 1) := by decide +kernel
theorem dX6_event_5 : decode cX6_event 5 = .ok (.ifCond .lt 8, 3) := by decide +kernel
theorem dX6_event_8 : decode cX6_event 8 = .ok (.iload_n 2, 1) := by decide +kernel
theorem dX6_event_9 : decode cX6_event 9 = .ok (.iconst 2, 1) := by decide +kernel
theorem dX6_event_10 : decode cX6_event 10 = .ok (.if_icmp .le 6, 3) := by decide +kernel
theorem dX6_event_13 : decode cX6_event 13 = .ok (.bipush (-2), 2) := by decide +kernel
theorem dX6_event_15 : decode cX6_event 15 = .ok (.ireturn, 1) := by decide +kernel
theorem dX6_event_16 : decode cX6_event 16 = .ok (.iload_n 1, 1) := by decide +kernel
theorem dX6_event_17 : decode cX6_event 17 = .ok (.aload_n 0, 1) := by decide +kernel
theorem dX6_event_18 : decode cX6_event 18 = .ok (.getfield 26, 3) := by decide +kernel
theorem dX6_event_21 : decode cX6_event 21 = .ok (.invokevirtual 145, 3) := by decide +kernel
theorem dX6_event_24 : decode cX6_event 24 = .ok (.if_icmp .lt 5, 3) := by decide +kernel
theorem dX6_event_27 : decode cX6_event 27 = .ok (.iconst (-1), 1) := by decide +kernel
theorem dX6_event_28 : decode cX6_event 28 = .ok (.ireturn, 1) := by decide +kernel
theorem dX6_event_29 : decode cX6_event 29 = .ok (.iload_n 2, 1) := by decide +kernel
theorem dX6_event_30 : decode cX6_event 30 = .ok (.lookupswitch 44 #[(0, 26), (1, 35)], 26) := by decide +kernel
theorem dX6_event_56 : decode cX6_event 56 = .ok (.aload_n 0, 1) := by decide +kernel
theorem dX6_event_57 : decode cX6_event 57 = .ok (.getfield 26, 3) := by decide +kernel
theorem dX6_event_60 : decode cX6_event 60 = .ok (.iload_n 1, 1) := by decide +kernel
theorem dX6_event_61 : decode cX6_event 61 = .ok (.invokevirtual 149, 3) := by decide +kernel
theorem dX6_event_64 : decode cX6_event 64 = .ok (.ireturn, 1) := by decide +kernel
theorem dX6_event_65 : decode cX6_event 65 = .ok (.aload_n 0, 1) := by decide +kernel
theorem dX6_event_66 : decode cX6_event 66 = .ok (.getfield 26, 3) := by decide +kernel
theorem dX6_event_69 : decode cX6_event 69 = .ok (.iload_n 1, 1) := by decide +kernel
theorem dX6_event_70 : decode cX6_event 70 = .ok (.invokevirtual 152, 3) := by decide +kernel
theorem dX6_event_73 : decode cX6_event 73 = .ok (.ireturn, 1) := by decide +kernel
theorem dX6_event_74 : decode cX6_event 74 = .ok (.aload_n 0, 1) := by decide +kernel
theorem dX6_event_75 : decode cX6_event 75 = .ok (.getfield 26, 3) := by decide +kernel
theorem dX6_event_78 : decode cX6_event 78 = .ok (.iload_n 1, 1) := by decide +kernel
theorem dX6_event_79 : decode cX6_event 79 = .ok (.invokevirtual 155, 3) := by decide +kernel
theorem dX6_event_82 : decode cX6_event 82 = .ok (.ireturn, 1) := by decide +kernel
theorem dX6_again_0 : decode cX6_again 0 = .ok (.aload_n 0, 1) := by decide +kernel
theorem dX6_again_1 : decode cX6_again 1 = .ok (.getfield 19, 3) := by decide +kernel
theorem dX6_again_4 : decode cX6_again 4 = .ok (.iload_n 1, 1) := by decide +kernel
theorem dX6_again_5 : decode cX6_again 5 = .ok (.invokevirtual 90, 3) := by decide +kernel
theorem dX6_again_8 : decode cX6_again 8 = .ok (.ifCond .eq 22, 3) := by decide +kernel
theorem dX6_again_11 : decode cX6_again 11 = .ok (.iload_n 2, 1) := by decide +kernel
theorem dX6_again_12 : decode cX6_again 12 = .ok (.iload_n 3, 1) := by decide +kernel
theorem dX6_again_13 : decode cX6_again 13 = .ok (.invokestatic 158, 3) := by decide +kernel
theorem dX6_again_16 : decode cX6_again 16 = .ok (.ifCond .eq 14, 3) := by decide +kernel
theorem dX6_again_19 : decode cX6_again 19 = .ok (.iload 4, 2) := by decide +kernel
theorem dX6_again_21 : decode cX6_again 21 = .ok (.ifCond .lt 9, 3) := by decide +kernel
theorem dX6_again_24 : decode cX6_again 24 = .ok (.iload 4, 2) := by decide +kernel
theorem dX6_again_26 : decode cX6_again 26 = .ok (.iconst 1, 1) := by decide +kernel
theorem dX6_again_27 : decode cX6_again 27 = .ok (.if_icmp .le 6, 3) := by decide +kernel
theorem dX6_again_30 : decode cX6_again 30 = .ok (.bipush (-2), 2) := by decide +kernel
theorem dX6_again_32 : decode cX6_again 32 = .ok (.ireturn, 1) := by decide +kernel
theorem dX6_again_33 : decode cX6_again 33 = .ok (.aload_n 0, 1) := by decide +kernel
theorem dX6_again_34 : decode cX6_again 34 = .ok (.getfield 44, 3) := by decide +kernel
theorem dX6_again_37 : decode cX6_again 37 = .ok (.iload_n 2, 1) := by decide +kernel
theorem dX6_again_38 : decode cX6_again 38 = .ok (.iload_n 3, 1) := by decide +kernel
theorem dX6_again_39 : decode cX6_again 39 = .ok (.aload_n 0, 1) := by decide +kernel
theorem dX6_again_40 : decode cX6_again 40 = .ok (.getfield 55, 3) := by decide +kernel
theorem dX6_again_43 : decode cX6_again 43 = .ok (.invokevirtual 161, 3) := by decide +kernel
theorem dX6_again_46 : decode cX6_again 46 = .ok (.iload 4, 2) := by decide +kernel
theorem dX6_again_48 : decode cX6_again 48 = .ok (.ifCond .ne 14, 3) := by decide +kernel
theorem dX6_again_51 : decode cX6_again 51 = .ok (.aload_n 0, 1) := by decide +kernel
theorem dX6_again_52 : decode cX6_again 52 = .ok (.getfield 44, 3) := by decide +kernel
theorem dX6_again_55 : decode cX6_again 55 = .ok (.iload_n 1, 1) := by decide +kernel
theorem dX6_again_56 : decode cX6_again 56 = .ok (.invokevirtual 164, 3) := by decide +kernel
theorem dX6_again_59 : decode cX6_again 59 = .ok (.goto 11, 3) := by decide +kernel
theorem dX6_again_62 : decode cX6_again 62 = .ok (.aload_n 0, 1) := by decide +kernel
theorem dX6_again_63 : decode cX6_again 63 = .ok (.getfield 44, 3) := by decide +kernel
theorem dX6_again_66 : decode cX6_again 66 = .ok (.iload_n 1, 1) := by decide +kernel
theorem dX6_again_67 : decode cX6_again 67 = .ok (.invokevirtual 165, 3) := by decide +kernel
theorem dX6_again_70 : decode cX6_again 70 = .ok (.ireturn, 1) := by decide +kernel
theorem dX6_mark_0 : decode cX6_mark 0 = .ok (.aload_n 0, 1) := by decide +kernel
theorem dX6_mark_1 : decode cX6_mark 1 = .ok (.getfield 19, 3) := by decide +kernel
theorem dX6_mark_4 : decode cX6_mark 4 = .ok (.iload_n 1, 1) := by decide +kernel
theorem dX6_mark_5 : decode cX6_mark 5 = .ok (.invokevirtual 90, 3) := by decide +kernel
theorem dX6_mark_8 : decode cX6_mark 8 = .ok (.ifCond .eq 12, 3) := by decide +kernel
theorem dX6_mark_11 : decode cX6_mark 11 = .ok (.iload_n 2, 1) := by decide +kernel
theorem dX6_mark_12 : decode cX6_mark 12 = .ok (.ifCond .lt 8, 3) := by decide +kernel
theorem dX6_mark_15 : decode cX6_mark 15 = .ok (.iload_n 2, 1) := by decide +kernel
theorem dX6_mark_16 : decode cX6_mark 16 = .ok (.iconst 2, 1) := by decide +kernel
theorem dX6_mark_17 : decode cX6_mark 17 = .ok (.if_icmp .le 6, 3) := by decide +kernel
theorem dX6_mark_20 : decode cX6_mark 20 = .ok (.bipush (-2), 2) := by decide +kernel
theorem dX6_mark_22 : decode cX6_mark 22 = .ok (.ireturn, 1) := by decide +kernel
theorem dX6_mark_23 : decode cX6_mark 23 = .ok (.aload_n 0, 1) := by decide +kernel
theorem dX6_mark_24 : decode cX6_mark 24 = .ok (.getfield 19, 3) := by decide +kernel
theorem dX6_mark_27 : decode cX6_mark 27 = .ok (.iload_n 1, 1) := by decide +kernel
theorem dX6_mark_28 : decode cX6_mark 28 = .ok (.iload_n 2, 1) := by decide +kernel
theorem dX6_mark_29 : decode cX6_mark 29 = .ok (.invokevirtual 166, 3) := by decide +kernel
theorem dX6_mark_32 : decode cX6_mark 32 = .ok (.ireturn, 1) := by decide +kernel
theorem dX6_marks_0 : decode cX6_marks 0 = .ok (.iload_n 1, 1) := by decide +kernel
theorem dX6_marks_1 : decode cX6_marks 1 = .ok (.ifCond .lt 9, 3) := by decide +kernel
theorem dX6_marks_4 : decode cX6_marks 4 = .ok (.iload_n 1, 1) := by decide +kernel
theorem dX6_marks_5 : decode cX6_marks 5 = .ok (.bipush 100, 2) := by decide +kernel
theorem dX6_marks_7 : decode cX6_marks 7 = .ok (.if_icmp .le 6, 3) := by decide +kernel
theorem dX6_marks_10 : decode cX6_marks 10 = .ok (.bipush (-2), 2) := by decide +kernel
theorem dX6_marks_12 : decode cX6_marks 12 = .ok (.ireturn, 1) := by decide +kernel
theorem dX6_marks_13 : decode cX6_marks 13 = .ok (.aload_n 0, 1) := by decide +kernel
theorem dX6_marks_14 : decode cX6_marks 14 = .ok (.getfield 19, 3) := by decide +kernel
theorem dX6_marks_17 : decode cX6_marks 17 = .ok (.invokevirtual 169, 3) := by decide +kernel
theorem dX6_marks_20 : decode cX6_marks 20 = .ok (.ifCond .ne 6, 3) := by decide +kernel
theorem dX6_marks_23 : decode cX6_marks 23 = .ok (.bipush (-3), 2) := by decide +kernel
theorem dX6_marks_25 : decode cX6_marks 25 = .ok (.ireturn, 1) := by decide +kernel
theorem dX6_marks_26 : decode cX6_marks 26 = .ok (.aload_n 0, 1) := by decide +kernel
theorem dX6_marks_27 : decode cX6_marks 27 = .ok (.getfield 44, 3) := by decide +kernel
theorem dX6_marks_30 : decode cX6_marks 30 = .ok (.iload_n 1, 1) := by decide +kernel
theorem dX6_marks_31 : decode cX6_marks 31 = .ok (.aload_n 0, 1) := by decide +kernel
theorem dX6_marks_32 : decode cX6_marks 32 = .ok (.getfield 55, 3) := by decide +kernel
theorem dX6_marks_35 : decode cX6_marks 35 = .ok (.invokevirtual 172, 3) := by decide +kernel
theorem dX6_marks_38 : decode cX6_marks 38 = .ok (.ireturn, 1) := by decide +kernel
theorem dX6_way_0 : decode cX6_way 0 = .ok (.iload_n 1, 1) := by decide +kernel
theorem dX6_way_1 : decode cX6_way 1 = .ok (.invokestatic 175, 3) := by decide +kernel
theorem dX6_way_4 : decode cX6_way 4 = .ok (.ifCond .eq 15, 3) := by decide +kernel
theorem dX6_way_7 : decode cX6_way 7 = .ok (.iload_n 2, 1) := by decide +kernel
theorem dX6_way_8 : decode cX6_way 8 = .ok (.invokestatic 175, 3) := by decide +kernel
theorem dX6_way_11 : decode cX6_way 11 = .ok (.ifCond .eq 8, 3) := by decide +kernel
theorem dX6_way_14 : decode cX6_way 14 = .ok (.iload_n 1, 1) := by decide +kernel
theorem dX6_way_15 : decode cX6_way 15 = .ok (.iload_n 2, 1) := by decide +kernel
theorem dX6_way_16 : decode cX6_way 16 = .ok (.if_icmp .ne 6, 3) := by decide +kernel
theorem dX6_way_19 : decode cX6_way 19 = .ok (.bipush (-2), 2) := by decide +kernel
theorem dX6_way_21 : decode cX6_way 21 = .ok (.ireturn, 1) := by decide +kernel
theorem dX6_way_22 : decode cX6_way 22 = .ok (.aload_n 0, 1) := by decide +kernel
theorem dX6_way_23 : decode cX6_way 23 = .ok (.getfield 51, 3) := by decide +kernel
theorem dX6_way_26 : decode cX6_way 26 = .ok (.iload_n 1, 1) := by decide +kernel
theorem dX6_way_27 : decode cX6_way 27 = .ok (.iload_n 2, 1) := by decide +kernel
theorem dX6_way_28 : decode cX6_way 28 = .ok (.invokevirtual 178, 3) := by decide +kernel
theorem dX6_way_31 : decode cX6_way 31 = .ok (.iload_n 3, 1) := by decide +kernel
theorem dX6_way_32 : decode cX6_way 32 = .ok (.if_icmp .ne 6, 3) := by decide +kernel
theorem dX6_way_35 : decode cX6_way 35 = .ok (.bipush (-3), 2) := by decide +kernel
theorem dX6_way_37 : decode cX6_way 37 = .ok (.ireturn, 1) := by decide +kernel
theorem dX6_way_38 : decode cX6_way 38 = .ok (.aload_n 0, 1) := by decide +kernel
theorem dX6_way_39 : decode cX6_way 39 = .ok (.getfield 51, 3) := by decide +kernel
theorem dX6_way_42 : decode cX6_way 42 = .ok (.iload_n 1, 1) := by decide +kernel
theorem dX6_way_43 : decode cX6_way 43 = .ok (.iload_n 2, 1) := by decide +kernel
theorem dX6_way_44 : decode cX6_way 44 = .ok (.iload_n 3, 1) := by decide +kernel
theorem dX6_way_45 : decode cX6_way 45 = .ok (.invokevirtual 181, 3) := by decide +kernel
theorem dX6_way_48 : decode cX6_way 48 = .ok (.iconst 1, 1) := by decide +kernel
theorem dX6_way_49 : decode cX6_way 49 = .ok (.ireturn, 1) := by decide +kernel
theorem dX6_bind_0 : decode cX6_bind 0 = .ok (.aload_n 0, 1) := by decide +kernel
theorem dX6_bind_1 : decode cX6_bind 1 = .ok (.getfield 19, 3) := by decide +kernel
theorem dX6_bind_4 : decode cX6_bind 4 = .ok (.iload_n 1, 1) := by decide +kernel
theorem dX6_bind_5 : decode cX6_bind 5 = .ok (.invokevirtual 90, 3) := by decide +kernel
theorem dX6_bind_8 : decode cX6_bind 8 = .ok (.ifCond .eq 14, 3) := by decide +kernel
theorem dX6_bind_11 : decode cX6_bind 11 = .ok (.iload_n 2, 1) := by decide +kernel
theorem dX6_bind_12 : decode cX6_bind 12 = .ok (.invokestatic 175, 3) := by decide +kernel
theorem dX6_bind_15 : decode cX6_bind 15 = .ok (.ifCond .eq 7, 3) := by decide +kernel
theorem dX6_bind_18 : decode cX6_bind 18 = .ok (.iload_n 2, 1) := by decide +kernel
theorem dX6_bind_19 : decode cX6_bind 19 = .ok (.ifCond .ne 6, 3) := by decide +kernel
theorem dX6_bind_22 : decode cX6_bind 22 = .ok (.bipush (-2), 2) := by decide +kernel
theorem dX6_bind_24 : decode cX6_bind 24 = .ok (.ireturn, 1) := by decide +kernel
theorem dX6_bind_25 : decode cX6_bind 25 = .ok (.iload_n 3, 1) := by decide +kernel
theorem dX6_bind_26 : decode cX6_bind 26 = .ok (.invokestatic 175, 3) := by decide +kernel
theorem dX6_bind_29 : decode cX6_bind 29 = .ok (.ifCond .eq 8, 3) := by decide +kernel
theorem dX6_bind_32 : decode cX6_bind 32 = .ok (.iload_n 3, 1) := by decide +kernel
theorem dX6_bind_33 : decode cX6_bind 33 = .ok (.iload_n 2, 1) := by decide +kernel
theorem dX6_bind_34 : decode cX6_bind 34 = .ok (.if_icmp .ne 6, 3) := by decide +kernel
theorem dX6_bind_37 : decode cX6_bind 37 = .ok (.bipush (-2), 2) := by decide +kernel
theorem dX6_bind_39 : decode cX6_bind 39 = .ok (.ireturn, 1) := by decide +kernel
theorem dX6_bind_40 : decode cX6_bind 40 = .ok (.aload_n 0, 1) := by decide +kernel
theorem dX6_bind_41 : decode cX6_bind 41 = .ok (.getfield 51, 3) := by decide +kernel
theorem dX6_bind_44 : decode cX6_bind 44 = .ok (.iload_n 2, 1) := by decide +kernel
theorem dX6_bind_45 : decode cX6_bind 45 = .ok (.iload_n 3, 1) := by decide +kernel
theorem dX6_bind_46 : decode cX6_bind 46 = .ok (.iload_n 1, 1) := by decide +kernel
theorem dX6_bind_47 : decode cX6_bind 47 = .ok (.invokevirtual 185, 3) := by decide +kernel
theorem dX6_bind_50 : decode cX6_bind 50 = .ok (.iconst 1, 1) := by decide +kernel
theorem dX6_bind_51 : decode cX6_bind 51 = .ok (.ireturn, 1) := by decide +kernel
theorem dX6_flood_0 : decode cX6_flood 0 = .ok (.iconst 0, 1) := by decide +kernel
theorem dX6_flood_1 : decode cX6_flood 1 = .ok (.istore_n 2, 1) := by decide +kernel
theorem dX6_flood_2 : decode cX6_flood 2 = .ok (.iconst 0, 1) := by decide +kernel
theorem dX6_flood_3 : decode cX6_flood 3 = .ok (.istore_n 3, 1) := by decide +kernel
theorem dX6_flood_4 : decode cX6_flood 4 = .ok (.aload_n 0, 1) := by decide +kernel
theorem dX6_flood_5 : decode cX6_flood 5 = .ok (.getfield 51, 3) := by decide +kernel
theorem dX6_flood_8 : decode cX6_flood 8 = .ok (.iload_n 1, 1) := by decide +kernel
theorem dX6_flood_9 : decode cX6_flood 9 = .ok (.invokevirtual 188, 3) := by decide +kernel
theorem dX6_flood_12 : decode cX6_flood 12 = .ok (.iload_n 3, 1) := by decide +kernel
theorem dX6_flood_13 : decode cX6_flood 13 = .ok (.sipush 2000, 3) := by decide +kernel
theorem dX6_flood_16 : decode cX6_flood 16 = .ok (.if_icmp .ge 46, 3) := by decide +kernel
theorem dX6_flood_19 : decode cX6_flood 19 = .ok (.aload_n 0, 1) := by decide +kernel
theorem dX6_flood_20 : decode cX6_flood 20 = .ok (.getfield 51, 3) := by decide +kernel
theorem dX6_flood_23 : decode cX6_flood 23 = .ok (.invokevirtual 192, 3) := by decide +kernel
theorem dX6_flood_26 : decode cX6_flood 26 = .ok (.ifCond .eq 36, 3) := by decide +kernel
theorem dX6_flood_29 : decode cX6_flood 29 = .ok (.aload_n 0, 1) := by decide +kernel
theorem dX6_flood_30 : decode cX6_flood 30 = .ok (.getfield 51, 3) := by decide +kernel
theorem dX6_flood_33 : decode cX6_flood 33 = .ok (.invokevirtual 195, 3) := by decide +kernel
theorem dX6_flood_36 : decode cX6_flood 36 = .ok (.istore 4, 2) := by decide +kernel
theorem dX6_flood_38 : decode cX6_flood 38 = .ok (.iload 4, 2) := by decide +kernel
theorem dX6_flood_40 : decode cX6_flood 40 = .ok (.iconst (-1), 1) := by decide +kernel
theorem dX6_flood_41 : decode cX6_flood 41 = .ok (.if_icmp .eq 15, 3) := by decide +kernel
theorem dX6_flood_44 : decode cX6_flood 44 = .ok (.aload_n 0, 1) := by decide +kernel
theorem dX6_flood_45 : decode cX6_flood 45 = .ok (.iload 4, 2) := by decide +kernel
theorem dX6_flood_47 : decode cX6_flood 47 = .ok (.iconst 2, 1) := by decide +kernel
theorem dX6_flood_48 : decode cX6_flood 48 = .ok (.invokevirtual 100, 3) := by decide +kernel
theorem dX6_flood_51 : decode cX6_flood 51 = .ok (.ifCond .ne 5, 3) := by decide +kernel
theorem dX6_flood_54 : decode cX6_flood 54 = .ok (.iconst 1, 1) := by decide +kernel
theorem dX6_flood_55 : decode cX6_flood 55 = .ok (.istore_n 2, 1) := by decide +kernel
theorem dX6_flood_56 : decode cX6_flood 56 = .ok (.iinc 3 1, 3) := by decide +kernel
theorem dX6_flood_59 : decode cX6_flood 59 = .ok (.goto (-47), 3) := by decide +kernel
theorem dX6_flood_62 : decode cX6_flood 62 = .ok (.iload_n 2, 1) := by decide +kernel
theorem dX6_flood_63 : decode cX6_flood 63 = .ok (.ifCond .eq 8, 3) := by decide +kernel
theorem dX6_flood_66 : decode cX6_flood 66 = .ok (.bipush (-4), 2) := by decide +kernel
theorem dX6_flood_68 : decode cX6_flood 68 = .ok (.goto 4, 3) := by decide +kernel
theorem dX6_flood_71 : decode cX6_flood 71 = .ok (.iload_n 3, 1) := by decide +kernel
theorem dX6_flood_72 : decode cX6_flood 72 = .ok (.ireturn, 1) := by decide +kernel
theorem dX6_own_0 : decode cX6_own 0 = .ok (.iload_n 1, 1) := by decide +kernel
theorem dX6_own_1 : decode cX6_own 1 = .ok (.invokestatic 175, 3) := by decide +kernel
theorem dX6_own_4 : decode cX6_own 4 = .ok (.ifCond .eq 7, 3) := by decide +kernel
theorem dX6_own_7 : decode cX6_own 7 = .ok (.iload_n 2, 1) := by decide +kernel
theorem dX6_own_8 : decode cX6_own 8 = .ok (.ifCond .ge 6, 3) := by decide +kernel
theorem dX6_own_11 : decode cX6_own 11 = .ok (.bipush (-2), 2) := by decide +kernel
theorem dX6_own_13 : decode cX6_own 13 = .ok (.ireturn, 1) := by decide +kernel
theorem dX6_own_14 : decode cX6_own 14 = .ok (.aload_n 0, 1) := by decide +kernel
theorem dX6_own_15 : decode cX6_own 15 = .ok (.getfield 51, 3) := by decide +kernel
theorem dX6_own_18 : decode cX6_own 18 = .ok (.iload_n 1, 1) := by decide +kernel
theorem dX6_own_19 : decode cX6_own 19 = .ok (.iload_n 2, 1) := by decide +kernel
theorem dX6_own_20 : decode cX6_own 20 = .ok (.invokevirtual 198, 3) := by decide +kernel
theorem dX6_own_23 : decode cX6_own 23 = .ok (.ireturn, 1) := by decide +kernel
theorem dX6_echoes_0 : decode cX6_echoes 0 = .ok (.iload_n 1, 1) := by decide +kernel
theorem dX6_echoes_1 : decode cX6_echoes 1 = .ok (.invokestatic 175, 3) := by decide +kernel
theorem dX6_echoes_4 : decode cX6_echoes 4 = .ok (.ifCond .ne 6, 3) := by decide +kernel
theorem dX6_echoes_7 : decode cX6_echoes 7 = .ok (.bipush (-2), 2) := by decide +kernel
theorem dX6_echoes_9 : decode cX6_echoes 9 = .ok (.ireturn, 1) := by decide +kernel
theorem dX6_echoes_10 : decode cX6_echoes 10 = .ok (.aload_n 0, 1) := by decide +kernel
theorem dX6_echoes_11 : decode cX6_echoes 11 = .ok (.getfield 51, 3) := by decide +kernel
theorem dX6_echoes_14 : decode cX6_echoes 14 = .ok (.iload_n 1, 1) := by decide +kernel
theorem dX6_echoes_15 : decode cX6_echoes 15 = .ok (.invokevirtual 201, 3) := by decide +kernel
theorem dX6_echoes_18 : decode cX6_echoes 18 = .ok (.ireturn, 1) := by decide +kernel
theorem dX6_count_0 : decode cX6_count 0 = .ok (.iload_n 1, 1) := by decide +kernel
theorem dX6_count_1 : decode cX6_count 1 = .ok (.tableswitch 84 0 5 #[39, 47, 55, 60, 68, 76], 39) := by decide +kernel
theorem dX6_count_40 : decode cX6_count 40 = .ok (.aload_n 0, 1) := by decide +kernel
theorem dX6_count_41 : decode cX6_count 41 = .ok (.getfield 19, 3) := by decide +kernel
theorem dX6_count_44 : decode cX6_count 44 = .ok (.invokevirtual 204, 3) := by decide +kernel
theorem dX6_count_47 : decode cX6_count 47 = .ok (.ireturn, 1) := by decide +kernel
theorem dX6_count_48 : decode cX6_count 48 = .ok (.aload_n 0, 1) := by decide +kernel
theorem dX6_count_49 : decode cX6_count 49 = .ok (.getfield 26, 3) := by decide +kernel
theorem dX6_count_52 : decode cX6_count 52 = .ok (.invokevirtual 145, 3) := by decide +kernel
theorem dX6_count_55 : decode cX6_count 55 = .ok (.ireturn, 1) := by decide +kernel
theorem dX6_count_56 : decode cX6_count 56 = .ok (.aload_n 0, 1) := by decide +kernel
theorem dX6_count_57 : decode cX6_count 57 = .ok (.getfield 55, 3) := by decide +kernel
theorem dX6_count_60 : decode cX6_count 60 = .ok (.ireturn, 1) := by decide +kernel
theorem dX6_count_61 : decode cX6_count 61 = .ok (.aload_n 0, 1) := by decide +kernel
theorem dX6_count_62 : decode cX6_count 62 = .ok (.getfield 35, 3) := by decide +kernel
theorem dX6_count_65 : decode cX6_count 65 = .ok (.invokevirtual 205, 3) := by decide +kernel
theorem dX6_count_68 : decode cX6_count 68 = .ok (.ireturn, 1) := by decide +kernel
theorem dX6_count_69 : decode cX6_count 69 = .ok (.aload_n 0, 1) := by decide +kernel
theorem dX6_count_70 : decode cX6_count 70 = .ok (.getfield 51, 3) := by decide +kernel
theorem dX6_count_73 : decode cX6_count 73 = .ok (.invokevirtual 208, 3) := by decide +kernel
theorem dX6_count_76 : decode cX6_count 76 = .ok (.ireturn, 1) := by decide +kernel
theorem dX6_count_77 : decode cX6_count 77 = .ok (.aload_n 0, 1) := by decide +kernel
theorem dX6_count_78 : decode cX6_count 78 = .ok (.getfield 51, 3) := by decide +kernel
theorem dX6_count_81 : decode cX6_count 81 = .ok (.invokevirtual 211, 3) := by decide +kernel
theorem dX6_count_84 : decode cX6_count 84 = .ok (.ireturn, 1) := by decide +kernel
theorem dX6_count_85 : decode cX6_count 85 = .ok (.bipush (-2), 2) := by decide +kernel
theorem dX6_count_87 : decode cX6_count 87 = .ok (.ireturn, 1) := by decide +kernel
theorem dX6_digest_0 : decode cX6_digest 0 = .ok (.ldc2_w 214, 3) := by decide +kernel
theorem dX6_digest_3 : decode cX6_digest 3 = .ok (.lstore_n 1, 1) := by decide +kernel
theorem dX6_digest_4 : decode cX6_digest 4 = .ok (.iconst 0, 1) := by decide +kernel
theorem dX6_digest_5 : decode cX6_digest 5 = .ok (.istore_n 3, 1) := by decide +kernel
theorem dX6_digest_6 : decode cX6_digest 6 = .ok (.iload_n 3, 1) := by decide +kernel
theorem dX6_digest_7 : decode cX6_digest 7 = .ok (.iconst 5, 1) := by decide +kernel
theorem dX6_digest_8 : decode cX6_digest 8 = .ok (.if_icmp .gt 22, 3) := by decide +kernel
theorem dX6_digest_11 : decode cX6_digest 11 = .ok (.ldc2_w 216, 3) := by decide +kernel
theorem dX6_digest_14 : decode cX6_digest 14 = .ok (.lload_n 1, 1) := by decide +kernel
theorem dX6_digest_15 : decode cX6_digest 15 = .ok (.lmul, 1) := by decide +kernel
theorem dX6_digest_16 : decode cX6_digest 16 = .ok (.aload_n 0, 1) := by decide +kernel
theorem dX6_digest_17 : decode cX6_digest 17 = .ok (.iload_n 3, 1) := by decide +kernel
theorem dX6_digest_18 : decode cX6_digest 18 = .ok (.invokevirtual 218, 3) := by decide +kernel
theorem dX6_digest_21 : decode cX6_digest 21 = .ok (.i2l, 1) := by decide +kernel
theorem dX6_digest_22 : decode cX6_digest 22 = .ok (.ladd, 1) := by decide +kernel
theorem dX6_digest_23 : decode cX6_digest 23 = .ok (.lstore_n 1, 1) := by decide +kernel
theorem dX6_digest_24 : decode cX6_digest 24 = .ok (.iinc 3 1, 3) := by decide +kernel
theorem dX6_digest_27 : decode cX6_digest 27 = .ok (.goto (-21), 3) := by decide +kernel
theorem dX6_digest_30 : decode cX6_digest 30 = .ok (.iconst 0, 1) := by decide +kernel
theorem dX6_digest_31 : decode cX6_digest 31 = .ok (.istore_n 3, 1) := by decide +kernel
theorem dX6_digest_32 : decode cX6_digest 32 = .ok (.iload_n 3, 1) := by decide +kernel
theorem dX6_digest_33 : decode cX6_digest 33 = .ok (.aload_n 0, 1) := by decide +kernel
theorem dX6_digest_34 : decode cX6_digest 34 = .ok (.getfield 19, 3) := by decide +kernel
theorem dX6_digest_37 : decode cX6_digest 37 = .ok (.invokevirtual 204, 3) := by decide +kernel
theorem dX6_digest_40 : decode cX6_digest 40 = .ok (.if_icmp .ge 40, 3) := by decide +kernel
theorem dX6_digest_43 : decode cX6_digest 43 = .ok (.iconst 0, 1) := by decide +kernel
theorem dX6_digest_44 : decode cX6_digest 44 = .ok (.istore 4, 2) := by decide +kernel
theorem dX6_digest_46 : decode cX6_digest 46 = .ok (.iload 4, 2) := by decide +kernel
theorem dX6_digest_48 : decode cX6_digest 48 = .ok (.bipush 8, 2) := by decide +kernel
theorem dX6_digest_50 : decode cX6_digest 50 = .ok (.if_icmp .gt 24, 3) := by decide +kernel
theorem dX6_digest_53 : decode cX6_digest 53 = .ok (.ldc2_w 216, 3) := by decide +kernel
theorem dX6_digest_56 : decode cX6_digest 56 = .ok (.lload_n 1, 1) := by decide +kernel
theorem dX6_digest_57 : decode cX6_digest 57 = .ok (.lmul, 1) := by decide +kernel
theorem dX6_digest_58 : decode cX6_digest 58 = .ok (.aload_n 0, 1) := by decide +kernel
theorem dX6_digest_59 : decode cX6_digest 59 = .ok (.iload_n 3, 1) := by decide +kernel
theorem dX6_digest_60 : decode cX6_digest 60 = .ok (.iload 4, 2) := by decide +kernel
theorem dX6_digest_62 : decode cX6_digest 62 = .ok (.invokevirtual 221, 3) := by decide +kernel
theorem dX6_digest_65 : decode cX6_digest 65 = .ok (.i2l, 1) := by decide +kernel
theorem dX6_digest_66 : decode cX6_digest 66 = .ok (.ladd, 1) := by decide +kernel
theorem dX6_digest_67 : decode cX6_digest 67 = .ok (.lstore_n 1, 1) := by decide +kernel
theorem dX6_digest_68 : decode cX6_digest 68 = .ok (.iinc 4 1, 3) := by decide +kernel
theorem dX6_digest_71 : decode cX6_digest 71 = .ok (.goto (-25), 3) := by decide +kernel
theorem dX6_digest_74 : decode cX6_digest 74 = .ok (.iinc 3 1, 3) := by decide +kernel
theorem dX6_digest_77 : decode cX6_digest 77 = .ok (.goto (-45), 3) := by decide +kernel
theorem dX6_digest_80 : decode cX6_digest 80 = .ok (.iconst 0, 1) := by decide +kernel
theorem dX6_digest_81 : decode cX6_digest 81 = .ok (.istore_n 3, 1) := by decide +kernel
theorem dX6_digest_82 : decode cX6_digest 82 = .ok (.iload_n 3, 1) := by decide +kernel
theorem dX6_digest_83 : decode cX6_digest 83 = .ok (.aload_n 0, 1) := by decide +kernel
theorem dX6_digest_84 : decode cX6_digest 84 = .ok (.getfield 26, 3) := by decide +kernel
theorem dX6_digest_87 : decode cX6_digest 87 = .ok (.invokevirtual 145, 3) := by decide +kernel
theorem dX6_digest_90 : decode cX6_digest 90 = .ok (.if_icmp .ge 39, 3) := by decide +kernel
theorem dX6_digest_93 : decode cX6_digest 93 = .ok (.iconst 0, 1) := by decide +kernel
theorem dX6_digest_94 : decode cX6_digest 94 = .ok (.istore 4, 2) := by decide +kernel
theorem dX6_digest_96 : decode cX6_digest 96 = .ok (.iload 4, 2) := by decide +kernel
theorem dX6_digest_98 : decode cX6_digest 98 = .ok (.iconst 2, 1) := by decide +kernel
theorem dX6_digest_99 : decode cX6_digest 99 = .ok (.if_icmp .gt 24, 3) := by decide +kernel
theorem dX6_digest_102 : decode cX6_digest 102 = .ok (.ldc2_w 216, 3) := by decide +kernel
theorem dX6_digest_105 : decode cX6_digest 105 = .ok (.lload_n 1, 1) := by decide +kernel
theorem dX6_digest_106 : decode cX6_digest 106 = .ok (.lmul, 1) := by decide +kernel
theorem dX6_digest_107 : decode cX6_digest 107 = .ok (.aload_n 0, 1) := by decide +kernel
theorem dX6_digest_108 : decode cX6_digest 108 = .ok (.iload_n 3, 1) := by decide +kernel
theorem dX6_digest_109 : decode cX6_digest 109 = .ok (.iload 4, 2) := by decide +kernel
theorem dX6_digest_111 : decode cX6_digest 111 = .ok (.invokevirtual 224, 3) := by decide +kernel
theorem dX6_digest_114 : decode cX6_digest 114 = .ok (.i2l, 1) := by decide +kernel
theorem dX6_digest_115 : decode cX6_digest 115 = .ok (.ladd, 1) := by decide +kernel
theorem dX6_digest_116 : decode cX6_digest 116 = .ok (.lstore_n 1, 1) := by decide +kernel
theorem dX6_digest_117 : decode cX6_digest 117 = .ok (.iinc 4 1, 3) := by decide +kernel
theorem dX6_digest_120 : decode cX6_digest 120 = .ok (.goto (-24), 3) := by decide +kernel
theorem dX6_digest_123 : decode cX6_digest 123 = .ok (.iinc 3 1, 3) := by decide +kernel
theorem dX6_digest_126 : decode cX6_digest 126 = .ok (.goto (-44), 3) := by decide +kernel
theorem dX6_digest_129 : decode cX6_digest 129 = .ok (.iconst 0, 1) := by decide +kernel
theorem dX6_digest_130 : decode cX6_digest 130 = .ok (.istore_n 3, 1) := by decide +kernel
theorem dX6_digest_131 : decode cX6_digest 131 = .ok (.iload_n 3, 1) := by decide +kernel
theorem dX6_digest_132 : decode cX6_digest 132 = .ok (.iconst 5, 1) := by decide +kernel
theorem dX6_digest_133 : decode cX6_digest 133 = .ok (.if_icmp .ge 66, 3) := by decide +kernel
theorem dX6_digest_136 : decode cX6_digest 136 = .ok (.iconst 0, 1) := by decide +kernel
theorem dX6_digest_137 : decode cX6_digest 137 = .ok (.istore 4, 2) := by decide +kernel
theorem dX6_digest_139 : decode cX6_digest 139 = .ok (.iload 4, 2) := by decide +kernel
theorem dX6_digest_141 : decode cX6_digest 141 = .ok (.iconst 5, 1) := by decide +kernel
theorem dX6_digest_142 : decode cX6_digest 142 = .ok (.if_icmp .ge 41, 3) := by decide +kernel
theorem dX6_digest_145 : decode cX6_digest 145 = .ok (.aload_n 0, 1) := by decide +kernel
theorem dX6_digest_146 : decode cX6_digest 146 = .ok (.getfield 51, 3) := by decide +kernel
theorem dX6_digest_149 : decode cX6_digest 149 = .ok (.iload_n 3, 1) := by decide +kernel
theorem dX6_digest_150 : decode cX6_digest 150 = .ok (.iload 4, 2) := by decide +kernel
theorem dX6_digest_152 : decode cX6_digest 152 = .ok (.invokevirtual 198, 3) := by decide +kernel
theorem dX6_digest_155 : decode cX6_digest 155 = .ok (.iconst (-1), 1) := by decide +kernel
theorem dX6_digest_156 : decode cX6_digest 156 = .ok (.if_icmp .eq 27, 3) := by decide +kernel
theorem dX6_digest_159 : decode cX6_digest 159 = .ok (.ldc2_w 216, 3) := by decide +kernel
theorem dX6_digest_162 : decode cX6_digest 162 = .ok (.lload_n 1, 1) := by decide +kernel
theorem dX6_digest_163 : decode cX6_digest 163 = .ok (.lmul, 1) := by decide +kernel
theorem dX6_digest_164 : decode cX6_digest 164 = .ok (.aload_n 0, 1) := by decide +kernel
theorem dX6_digest_165 : decode cX6_digest 165 = .ok (.getfield 51, 3) := by decide +kernel
theorem dX6_digest_168 : decode cX6_digest 168 = .ok (.iload_n 3, 1) := by decide +kernel
theorem dX6_digest_169 : decode cX6_digest 169 = .ok (.iload 4, 2) := by decide +kernel
theorem dX6_digest_171 : decode cX6_digest 171 = .ok (.invokevirtual 198, 3) := by decide +kernel
theorem dX6_digest_174 : decode cX6_digest 174 = .ok (.i2l, 1) := by decide +kernel
theorem dX6_digest_175 : decode cX6_digest 175 = .ok (.ladd, 1) := by decide +kernel
theorem dX6_digest_176 : decode cX6_digest 176 = .ok (.lstore_n 1, 1) := by decide +kernel
theorem dX6_digest_177 : decode cX6_digest 177 = .ok (.iinc 4 1, 3) := by decide +kernel
theorem dX6_digest_180 : decode cX6_digest 180 = .ok (.goto (-41), 3) := by decide +kernel
theorem dX6_digest_183 : decode cX6_digest 183 = .ok (.ldc2_w 216, 3) := by decide +kernel
theorem dX6_digest_186 : decode cX6_digest 186 = .ok (.lload_n 1, 1) := by decide +kernel
theorem dX6_digest_187 : decode cX6_digest 187 = .ok (.lmul, 1) := by decide +kernel
theorem dX6_digest_188 : decode cX6_digest 188 = .ok (.ldc2_w 227, 3) := by decide +kernel
theorem dX6_digest_191 : decode cX6_digest 191 = .ok (.ladd, 1) := by decide +kernel
theorem dX6_digest_192 : decode cX6_digest 192 = .ok (.lstore_n 1, 1) := by decide +kernel
theorem dX6_digest_193 : decode cX6_digest 193 = .ok (.iinc 3 1, 3) := by decide +kernel
theorem dX6_digest_196 : decode cX6_digest 196 = .ok (.goto (-65), 3) := by decide +kernel
theorem dX6_digest_199 : decode cX6_digest 199 = .ok (.lload_n 1, 1) := by decide +kernel
theorem dX6_digest_200 : decode cX6_digest 200 = .ok (.lreturn, 1) := by decide +kernel
end
section
theorem dX7_in_0 : decode cX7_in 0 = .ok (.iload_n 0, 1) := by decide +kernel
theorem dX7_in_1 : decode cX7_in 1 = .ok (.iload_n 1, 1) := by decide +kernel
theorem dX7_in_2 : decode cX7_in 2 = .ok (.if_icmp .lt 12, 3) := by decide +kernel
theorem dX7_in_5 : decode cX7_in 5 = .ok (.iload_n 0, 1) := by decide +kernel
theorem dX7_in_6 : decode cX7_in 6 = .ok (.iload_n 2, 1) := by decide +kernel
theorem dX7_in_7 : decode cX7_in 7 = .ok (.if_icmp .gt 7, 3) := by decide +kernel
theorem dX7_in_10 : decode cX7_in 10 = .ok (.iconst 1, 1) := by decide +kernel
theorem dX7_in_11 : decode cX7_in 11 = .ok (.goto 4, 3) := by decide +kernel
theorem dX7_in_14 : decode cX7_in 14 = .ok (.iconst 0, 1) := by decide +kernel
theorem dX7_in_15 : decode cX7_in 15 = .ok (.ireturn, 1) := by decide +kernel
theorem dX7_init_0 : decode cX7_init 0 = .ok (.aload_n 0, 1) := by decide +kernel
theorem dX7_init_1 : decode cX7_init 1 = .ok (.invokespecial 1, 3) := by decide +kernel
theorem dX7_init_4 : decode cX7_init 4 = .ok (.aload_n 0, 1) := by decide +kernel
theorem dX7_init_5 : decode cX7_init 5 = .ok (.bipush 8, 2) := by decide +kernel
theorem dX7_init_7 : decode cX7_init 7 = .ok (.newarray .int, 2) := by decide +kernel
theorem dX7_init_9 : decode cX7_init 9 = .ok (.dup, 1) := by decide +kernel
theorem dX7_init_10 : decode cX7_init 10 = .ok (.iconst 0, 1) := by decide +kernel
theorem dX7_init_11 : decode cX7_init 11 = .ok (.sipush 1000, 3) := by decide +kernel
theorem dX7_init_14 : decode cX7_init 14 = .ok (.iastore, 1) := by decide +kernel
theorem dX7_init_15 : decode cX7_init 15 = .ok (.dup, 1) := by decide +kernel
theorem dX7_init_16 : decode cX7_init 16 = .ok (.iconst 1, 1) := by decide +kernel
theorem dX7_init_17 : decode cX7_init 17 = .ok (.iconst 0, 1) := by decide +kernel
theorem dX7_init_18 : decode cX7_init 18 = .ok (.iastore, 1) := by decide +kernel
theorem dX7_init_19 : decode cX7_init 19 = .ok (.dup, 1) := by decide +kernel
theorem dX7_init_20 : decode cX7_init 20 = .ok (.iconst 2, 1) := by decide +kernel
theorem dX7_init_21 : decode cX7_init 21 = .ok (.sipush 500, 3) := by decide +kernel
theorem dX7_init_24 : decode cX7_init 24 = .ok (.iastore, 1) := by decide +kernel
theorem dX7_init_25 : decode cX7_init 25 = .ok (.dup, 1) := by decide +kernel
theorem dX7_init_26 : decode cX7_init 26 = .ok (.iconst 3, 1) := by decide +kernel
theorem dX7_init_27 : decode cX7_init 27 = .ok (.bipush 60, 2) := by decide +kernel
theorem dX7_init_29 : decode cX7_init 29 = .ok (.iastore, 1) := by decide +kernel
theorem dX7_init_30 : decode cX7_init 30 = .ok (.dup, 1) := by decide +kernel
theorem dX7_init_31 : decode cX7_init 31 = .ok (.iconst 4, 1) := by decide +kernel
theorem dX7_init_32 : decode cX7_init 32 = .ok (.sipush 3000, 3) := by decide +kernel
theorem dX7_init_35 : decode cX7_init 35 = .ok (.iastore, 1) := by decide +kernel
theorem dX7_init_36 : decode cX7_init 36 = .ok (.dup, 1) := by decide +kernel
theorem dX7_init_37 : decode cX7_init 37 = .ok (.iconst 5, 1) := by decide +kernel
theorem dX7_init_38 : decode cX7_init 38 = .ok (.sipush 750, 3) := by decide +kernel
theorem dX7_init_41 : decode cX7_init 41 = .ok (.iastore, 1) := by decide +kernel
theorem dX7_init_42 : decode cX7_init 42 = .ok (.dup, 1) := by decide +kernel
theorem dX7_init_43 : decode cX7_init 43 = .ok (.bipush 6, 2) := by decide +kernel
theorem dX7_init_45 : decode cX7_init 45 = .ok (.sipush 12000, 3) := by decide +kernel
theorem dX7_init_48 : decode cX7_init 48 = .ok (.iastore, 1) := by decide +kernel
theorem dX7_init_49 : decode cX7_init 49 = .ok (.dup, 1) := by decide +kernel
theorem dX7_init_50 : decode cX7_init 50 = .ok (.bipush 7, 2) := by decide +kernel
theorem dX7_init_52 : decode cX7_init 52 = .ok (.bipush 120, 2) := by decide +kernel
theorem dX7_init_54 : decode cX7_init 54 = .ok (.iastore, 1) := by decide +kernel
theorem dX7_init_55 : decode cX7_init 55 = .ok (.putfield 7, 3) := by decide +kernel
theorem dX7_init_58 : decode cX7_init 58 = .ok (.aload_n 0, 1) := by decide +kernel
theorem dX7_init_59 : decode cX7_init 59 = .ok (.bipush 12, 2) := by decide +kernel
theorem dX7_init_61 : decode cX7_init 61 = .ok (.newarray .int, 2) := by decide +kernel
theorem dX7_init_63 : decode cX7_init 63 = .ok (.putfield 13, 3) := by decide +kernel
theorem dX7_init_66 : decode cX7_init 66 = .ok (.aload_n 0, 1) := by decide +kernel
theorem dX7_init_67 : decode cX7_init 67 = .ok (.bipush 12, 2) := by decide +kernel
theorem dX7_init_69 : decode cX7_init 69 = .ok (.newarray .int, 2) := by decide +kernel
theorem dX7_init_71 : decode cX7_init 71 = .ok (.putfield 16, 3) := by decide +kernel
theorem dX7_init_74 : decode cX7_init 74 = .ok (.aload_n 0, 1) := by decide +kernel
theorem dX7_init_75 : decode cX7_init 75 = .ok (.bipush 12, 2) := by decide +kernel
theorem dX7_init_77 : decode cX7_init 77 = .ok (.newarray .int, 2) := by decide +kernel
theorem dX7_init_79 : decode cX7_init 79 = .ok (.putfield 19, 3) := by decide +kernel
theorem dX7_init_82 : decode cX7_init 82 = .ok (.aload_n 0, 1) := by decide +kernel
theorem dX7_init_83 : decode cX7_init 83 = .ok (.iconst 2, 1) := by decide +kernel
theorem dX7_init_84 : decode cX7_init 84 = .ok (.newarray .int, 2) := by decide +kernel
theorem dX7_init_86 : decode cX7_init 86 = .ok (.putfield 22, 3) := by decide +kernel
theorem dX7_init_89 : decode cX7_init 89 = .ok (.aload_n 0, 1) := by decide +kernel
theorem dX7_init_90 : decode cX7_init 90 = .ok (.iconst 2, 1) := by decide +kernel
theorem dX7_init_91 : decode cX7_init 91 = .ok (.newarray .int, 2) := by decide +kernel
theorem dX7_init_93 : decode cX7_init 93 = .ok (.putfield 25, 3) := by decide +kernel
theorem dX7_init_96 : decode cX7_init 96 = .ok (.aload_n 0, 1) := by decide +kernel
theorem dX7_init_97 : decode cX7_init 97 = .ok (.iconst 2, 1) := by decide +kernel
theorem dX7_init_98 : decode cX7_init 98 = .ok (.newarray .int, 2) := by decide +kernel
theorem dX7_init_100 : decode cX7_init 100 = .ok (.putfield 28, 3) := by decide +kernel
theorem dX7_init_103 : decode cX7_init 103 = .ok (.aload_n 0, 1) := by decide +kernel
theorem dX7_init_104 : decode cX7_init 104 = .ok (.bipush 32, 2) := by decide +kernel
theorem dX7_init_106 : decode cX7_init 106 = .ok (.newarray .int, 2) := by decide +kernel
theorem dX7_init_108 : decode cX7_init 108 = .ok (.putfield 31, 3) := by decide +kernel
theorem dX7_init_111 : decode cX7_init 111 = .ok (.aload_n 0, 1) := by decide +kernel
theorem dX7_init_112 : decode cX7_init 112 = .ok (.bipush 32, 2) := by decide +kernel
theorem dX7_init_114 : decode cX7_init 114 = .ok (.newarray .int, 2) := by decide +kernel
theorem dX7_init_116 : decode cX7_init 116 = .ok (.putfield 34, 3) := by decide +kernel
theorem dX7_init_119 : decode cX7_init 119 = .ok (.aload_n 0, 1) := by decide +kernel
theorem dX7_init_120 : decode cX7_init 120 = .ok (.bipush 32, 2) := by decide +kernel
theorem dX7_init_122 : decode cX7_init 122 = .ok (.newarray .boolean, 2) := by decide +kernel
theorem dX7_init_124 : decode cX7_init 124 = .ok (.putfield 37, 3) := by decide +kernel
theorem dX7_init_127 : decode cX7_init 127 = .ok (.aload_n 0, 1) := by decide +kernel
theorem dX7_init_128 : decode cX7_init 128 = .ok (.bipush 24, 2) := by decide +kernel
theorem dX7_init_130 : decode cX7_init 130 = .ok (.newarray .boolean, 2) := by decide +kernel
theorem dX7_init_132 : decode cX7_init 132 = .ok (.putfield 41, 3) := by decide +kernel
theorem dX7_init_135 : decode cX7_init 135 = .ok (.aload_n 0, 1) := by decide +kernel
theorem dX7_init_136 : decode cX7_init 136 = .ok (.bipush 24, 2) := by decide +kernel
theorem dX7_init_138 : decode cX7_init 138 = .ok (.newarray .boolean, 2) := by decide +kernel
theorem dX7_init_140 : decode cX7_init 140 = .ok (.putfield 44, 3) := by decide +kernel
theorem dX7_init_143 : decode cX7_init 143 = .ok (.aload_n 0, 1) := by decide +kernel
theorem dX7_init_144 : decode cX7_init 144 = .ok (.bipush 24, 2) := by decide +kernel
theorem dX7_init_146 : decode cX7_init 146 = .ok (.newarray .int, 2) := by decide +kernel
theorem dX7_init_148 : decode cX7_init 148 = .ok (.putfield 47, 3) := by decide +kernel
theorem dX7_init_151 : decode cX7_init 151 = .ok (.aload_n 0, 1) := by decide +kernel
theorem dX7_init_152 : decode cX7_init 152 = .ok (.bipush 24, 2) := by decide +kernel
theorem dX7_init_154 : decode cX7_init 154 = .ok (.newarray .int, 2) := by decide +kernel
theorem dX7_init_156 : decode cX7_init 156 = .ok (.putfield 50, 3) := by decide +kernel
theorem dX7_init_159 : decode cX7_init 159 = .ok (.aload_n 0, 1) := by decide +kernel
theorem dX7_init_160 : decode cX7_init 160 = .ok (.bipush 24, 2) := by decide +kernel
theorem dX7_init_162 : decode cX7_init 162 = .ok (.newarray .int, 2) := by decide +kernel
theorem dX7_init_164 : decode cX7_init 164 = .ok (.putfield 53, 3) := by decide +kernel
theorem dX7_init_167 : decode cX7_init 167 = .ok (.aload_n 0, 1) := by decide +kernel
theorem dX7_init_168 : decode cX7_init 168 = .ok (.sipush 300, 3) := by decide +kernel
theorem dX7_init_171 : decode cX7_init 171 = .ok (.newarray .int, 2) := by decide +kernel
theorem dX7_init_173 : decode cX7_init 173 = .ok (.putfield 56, 3) := by decide +kernel
theorem dX7_init_176 : decode cX7_init 176 = .ok (.aload_n 0, 1) := by decide +kernel
theorem dX7_init_177 : decode cX7_init 177 = .ok (.sipush 300, 3) := by decide +kernel
theorem dX7_init_180 : decode cX7_init 180 = .ok (.newarray .int, 2) := by decide +kernel
theorem dX7_init_182 : decode cX7_init 182 = .ok (.putfield 59, 3) := by decide +kernel
theorem dX7_init_185 : decode cX7_init 185 = .ok (.aload_n 0, 1) := by decide +kernel
theorem dX7_init_186 : decode cX7_init 186 = .ok (.sipush 300, 3) := by decide +kernel
theorem dX7_init_189 : decode cX7_init 189 = .ok (.newarray .int, 2) := by decide +kernel
theorem dX7_init_191 : decode cX7_init 191 = .ok (.putfield 62, 3) := by decide +kernel
theorem dX7_init_194 : decode cX7_init 194 = .ok (.aload_n 0, 1) := by decide +kernel
theorem dX7_init_195 : decode cX7_init 195 = .ok (.sipush 5040, 3) := by decide +kernel
theorem dX7_init_198 : decode cX7_init 198 = .ok (.newarray .boolean, 2) := by decide +kernel
theorem dX7_init_200 : decode cX7_init 200 = .ok (.putfield 65, 3) := by decide +kernel
theorem dX7_init_203 : decode cX7_init 203 = .ok (.aload_n 0, 1) := by decide +kernel
theorem dX7_init_204 : decode cX7_init 204 = .ok (.bipush 25, 2) := by decide +kernel
theorem dX7_init_206 : decode cX7_init 206 = .ok (.newarray .boolean, 2) := by decide +kernel
theorem dX7_init_208 : decode cX7_init 208 = .ok (.putfield 68, 3) := by decide +kernel
theorem dX7_init_211 : decode cX7_init 211 = .ok (.aload_n 0, 1) := by decide +kernel
theorem dX7_init_212 : decode cX7_init 212 = .ok (.bipush 25, 2) := by decide +kernel
theorem dX7_init_214 : decode cX7_init 214 = .ok (.newarray .int, 2) := by decide +kernel
theorem dX7_init_216 : decode cX7_init 216 = .ok (.dup, 1) := by decide +kernel
theorem dX7_init_217 : decode cX7_init 217 = .ok (.iconst 0, 1) := by decide +kernel
theorem dX7_init_218 : decode cX7_init 218 = .ok (.iconst (-1), 1) := by decide +kernel
theorem dX7_init_219 : decode cX7_init 219 = .ok (.iastore, 1) := by decide +kernel
theorem dX7_init_220 : decode cX7_init 220 = .ok (.dup, 1) := by decide +kernel
theorem dX7_init_221 : decode cX7_init 221 = .ok (.iconst 1, 1) := by decide +kernel
theorem dX7_init_222 : decode cX7_init 222 = .ok (.iconst (-1), 1) := by decide +kernel
theorem dX7_init_223 : decode cX7_init 223 = .ok (.iastore, 1) := by decide +kernel
theorem dX7_init_224 : decode cX7_init 224 = .ok (.dup, 1) := by decide +kernel
theorem dX7_init_225 : decode cX7_init 225 = .ok (.iconst 2, 1) := by decide +kernel
theorem dX7_init_226 : decode cX7_init 226 = .ok (.iconst (-1), 1) := by decide +kernel
theorem dX7_init_227 : decode cX7_init 227 = .ok (.iastore, 1) := by decide +kernel
theorem dX7_init_228 : decode cX7_init 228 = .ok (.dup, 1) := by decide +kernel
theorem dX7_init_229 : decode cX7_init 229 = .ok (.iconst 3, 1) := by decide +kernel
theorem dX7_init_230 : decode cX7_init 230 = .ok (.iconst (-1), 1) := by decide +kernel
theorem dX7_init_231 : decode cX7_init 231 = .ok (.iastore, 1) := by decide +kernel
theorem dX7_init_232 : decode cX7_init 232 = .ok (.dup, 1) := by decide +kernel
theorem dX7_init_233 : decode cX7_init 233 = .ok (.iconst 4, 1) := by decide +kernel
theorem dX7_init_234 : decode cX7_init 234 = .ok (.iconst (-1), 1) := by decide +kernel
theorem dX7_init_235 : decode cX7_init 235 = .ok (.iastore, 1) := by decide +kernel
theorem dX7_init_236 : decode cX7_init 236 = .ok (.dup, 1) := by decide +kernel
theorem dX7_init_237 : decode cX7_init 237 = .ok (.iconst 5, 1) := by decide +kernel
theorem dX7_init_238 : decode cX7_init 238 = .ok (.iconst (-1), 1) := by decide +kernel
theorem dX7_init_239 : decode cX7_init 239 = .ok (.iastore, 1) := by decide +kernel
theorem dX7_init_240 : decode cX7_init 240 = .ok (.dup, 1) := by decide +kernel
theorem dX7_init_241 : decode cX7_init 241 = .ok (.bipush 6, 2) := by decide +kernel
theorem dX7_init_243 : decode cX7_init 243 = .ok (.iconst (-1), 1) := by decide +kernel
theorem dX7_init_244 : decode cX7_init 244 = .ok (.iastore, 1) := by decide +kernel
theorem dX7_init_245 : decode cX7_init 245 = .ok (.dup, 1) := by decide +kernel
theorem dX7_init_246 : decode cX7_init 246 = .ok (.bipush 7, 2) := by decide +kernel
theorem dX7_init_248 : decode cX7_init 248 = .ok (.iconst (-1), 1) := by decide +kernel
theorem dX7_init_249 : decode cX7_init 249 = .ok (.iastore, 1) := by decide +kernel
theorem dX7_init_250 : decode cX7_init 250 = .ok (.dup, 1) := by decide +kernel
theorem dX7_init_251 : decode cX7_init 251 = .ok (.bipush 8, 2) := by decide +kernel
theorem dX7_init_253 : decode cX7_init 253 = .ok (.iconst (-1), 1) := by decide +kernel
theorem dX7_init_254 : decode cX7_init 254 = .ok (.iastore, 1) := by decide +kernel
theorem dX7_init_255 : decode cX7_init 255 = .ok (.dup, 1) := by decide +kernel
theorem dX7_init_256 : decode cX7_init 256 = .ok (.bipush 9, 2) := by decide +kernel
theorem dX7_init_258 : decode cX7_init 258 = .ok (.iconst (-1), 1) := by decide +kernel
theorem dX7_init_259 : decode cX7_init 259 = .ok (.iastore, 1) := by decide +kernel
theorem dX7_init_260 : decode cX7_init 260 = .ok (.dup, 1) := by decide +kernel
theorem dX7_init_261 : decode cX7_init 261 = .ok (.bipush 10, 2) := by decide +kernel
theorem dX7_init_263 : decode cX7_init 263 = .ok (.iconst (-1), 1) := by decide +kernel
theorem dX7_init_264 : decode cX7_init 264 = .ok (.iastore, 1) := by decide +kernel
theorem dX7_init_265 : decode cX7_init 265 = .ok (.dup, 1) := by decide +kernel
theorem dX7_init_266 : decode cX7_init 266 = .ok (.bipush 11, 2) := by decide +kernel
theorem dX7_init_268 : decode cX7_init 268 = .ok (.iconst (-1), 1) := by decide +kernel
theorem dX7_init_269 : decode cX7_init 269 = .ok (.iastore, 1) := by decide +kernel
theorem dX7_init_270 : decode cX7_init 270 = .ok (.dup, 1) := by decide +kernel
theorem dX7_init_271 : decode cX7_init 271 = .ok (.bipush 12, 2) := by decide +kernel
theorem dX7_init_273 : decode cX7_init 273 = .ok (.iconst (-1), 1) := by decide +kernel
theorem dX7_init_274 : decode cX7_init 274 = .ok (.iastore, 1) := by decide +kernel
theorem dX7_init_275 : decode cX7_init 275 = .ok (.dup, 1) := by decide +kernel
theorem dX7_init_276 : decode cX7_init 276 = .ok (.bipush 13, 2) := by decide +kernel
theorem dX7_init_278 : decode cX7_init 278 = .ok (.iconst (-1), 1) := by decide +kernel
theorem dX7_init_279 : decode cX7_init 279 = .ok (.iastore, 1) := by decide +kernel
theorem dX7_init_280 : decode cX7_init 280 = .ok (.dup, 1) := by decide +kernel
theorem dX7_init_281 : decode cX7_init 281 = .ok (.bipush 14, 2) := by decide +kernel
theorem dX7_init_283 : decode cX7_init 283 = .ok (.iconst (-1), 1) := by decide +kernel
theorem dX7_init_284 : decode cX7_init 284 = .ok (.iastore, 1) := by decide +kernel
theorem dX7_init_285 : decode cX7_init 285 = .ok (.dup, 1) := by decide +kernel
theorem dX7_init_286 : decode cX7_init 286 = .ok (.bipush 15, 2) := by decide +kernel
theorem dX7_init_288 : decode cX7_init 288 = .ok (.iconst (-1), 1) := by decide +kernel
theorem dX7_init_289 : decode cX7_init 289 = .ok (.iastore, 1) := by decide +kernel
theorem dX7_init_290 : decode cX7_init 290 = .ok (.dup, 1) := by decide +kernel
theorem dX7_init_291 : decode cX7_init 291 = .ok (.bipush 16, 2) := by decide +kernel
theorem dX7_init_293 : decode cX7_init 293 = .ok (.iconst (-1), 1) := by decide +kernel
theorem dX7_init_294 : decode cX7_init 294 = .ok (.iastore, 1) := by decide +kernel
theorem dX7_init_295 : decode cX7_init 295 = .ok (.dup, 1) := by decide +kernel
theorem dX7_init_296 : decode cX7_init 296 = .ok (.bipush 17, 2) := by decide +kernel
theorem dX7_init_298 : decode cX7_init 298 = .ok (.iconst (-1), 1) := by decide +kernel
theorem dX7_init_299 : decode cX7_init 299 = .ok (.iastore, 1) := by decide +kernel
theorem dX7_init_300 : decode cX7_init 300 = .ok (.dup, 1) := by decide +kernel
theorem dX7_init_301 : decode cX7_init 301 = .ok (.bipush 18, 2) := by decide +kernel
theorem dX7_init_303 : decode cX7_init 303 = .ok (.iconst (-1), 1) := by decide +kernel
theorem dX7_init_304 : decode cX7_init 304 = .ok (.iastore, 1) := by decide +kernel
theorem dX7_init_305 : decode cX7_init 305 = .ok (.dup, 1) := by decide +kernel
theorem dX7_init_306 : decode cX7_init 306 = .ok (.bipush 19, 2) := by decide +kernel
theorem dX7_init_308 : decode cX7_init 308 = .ok (.iconst (-1), 1) := by decide +kernel
theorem dX7_init_309 : decode cX7_init 309 = .ok (.iastore, 1) := by decide +kernel
theorem dX7_init_310 : decode cX7_init 310 = .ok (.dup, 1) := by decide +kernel
theorem dX7_init_311 : decode cX7_init 311 = .ok (.bipush 20, 2) := by decide +kernel
theorem dX7_init_313 : decode cX7_init 313 = .ok (.iconst (-1), 1) := by decide +kernel
theorem dX7_init_314 : decode cX7_init 314 = .ok (.iastore, 1) := by decide +kernel
theorem dX7_init_315 : decode cX7_init 315 = .ok (.dup, 1) := by decide +kernel
theorem dX7_init_316 : decode cX7_init 316 = .ok (.bipush 21, 2) := by decide +kernel
theorem dX7_init_318 : decode cX7_init 318 = .ok (.iconst (-1), 1) := by decide +kernel
theorem dX7_init_319 : decode cX7_init 319 = .ok (.iastore, 1) := by decide +kernel
theorem dX7_init_320 : decode cX7_init 320 = .ok (.dup, 1) := by decide +kernel
theorem dX7_init_321 : decode cX7_init 321 = .ok (.bipush 22, 2) := by decide +kernel
theorem dX7_init_323 : decode cX7_init 323 = .ok (.iconst (-1), 1) := by decide +kernel
theorem dX7_init_324 : decode cX7_init 324 = .ok (.iastore, 1) := by decide +kernel
theorem dX7_init_325 : decode cX7_init 325 = .ok (.dup, 1) := by decide +kernel
theorem dX7_init_326 : decode cX7_init 326 = .ok (.bipush 23, 2) := by decide +kernel
theorem dX7_init_328 : decode cX7_init 328 = .ok (.iconst (-1), 1) := by decide +kernel
theorem dX7_init_329 : decode cX7_init 329 = .ok (.iastore, 1) := by decide +kernel
theorem dX7_init_330 : decode cX7_init 330 = .ok (.dup, 1) := by decide +kernel
theorem dX7_init_331 : decode cX7_init 331 = .ok (.bipush 24, 2) := by decide +kernel
theorem dX7_init_333 : decode cX7_init 333 = .ok (.iconst (-1), 1) := by decide +kernel
theorem dX7_init_334 : decode cX7_init 334 = .ok (.iastore, 1) := by decide +kernel
theorem dX7_init_335 : decode cX7_init 335 = .ok (.putfield 71, 3) := by decide +kernel
theorem dX7_init_338 : decode cX7_init 338 = .ok (.aload_n 0, 1) := by decide +kernel
theorem dX7_init_339 : decode cX7_init 339 = .ok (.bipush 125, 2) := by decide +kernel
theorem dX7_init_341 : decode cX7_init 341 = .ok (.newarray .int, 2) := by decide +kernel
theorem dX7_init_343 : decode cX7_init 343 = .ok (.putfield 74, 3) := by decide +kernel
theorem dX7_init_346 : decode cX7_init 346 = .ok (.aload_n 0, 1) := by decide +kernel
theorem dX7_init_347 : decode cX7_init 347 = .ok (.bipush 25, 2) := by decide +kernel
theorem dX7_init_349 : decode cX7_init 349 = .ok (.newarray .int, 2) := by decide +kernel
theorem dX7_init_351 : decode cX7_init 351 = .ok (.putfield 77, 3) := by decide +kernel
theorem dX7_init_354 : decode cX7_init 354 = .ok (.aload_n 0, 1) := by decide +kernel
theorem dX7_init_355 : decode cX7_init 355 = .ok (.bipush 25, 2) := by decide +kernel
theorem dX7_init_357 : decode cX7_init 357 = .ok (.newarray .int, 2) := by decide +kernel
theorem dX7_init_359 : decode cX7_init 359 = .ok (.putfield 80, 3) := by decide +kernel
theorem dX7_init_362 : decode cX7_init 362 = .ok (.aload_n 0, 1) := by decide +kernel
theorem dX7_init_363 : decode cX7_init 363 = .ok (.iconst 5, 1) := by decide +kernel
theorem dX7_init_364 : decode cX7_init 364 = .ok (.newarray .int, 2) := by decide +kernel
theorem dX7_init_366 : decode cX7_init 366 = .ok (.putfield 83, 3) := by decide +kernel
theorem dX7_init_369 : decode cX7_init 369 = .ok (.aload_n 0, 1) := by decide +kernel
theorem dX7_init_370 : decode cX7_init 370 = .ok (.iconst 5, 1) := by decide +kernel
theorem dX7_init_371 : decode cX7_init 371 = .ok (.newarray .int, 2) := by decide +kernel
theorem dX7_init_373 : decode cX7_init 373 = .ok (.putfield 86, 3) := by decide +kernel
theorem dX7_init_376 : decode cX7_init 376 = .ok (.aload_n 0, 1) := by decide +kernel
theorem dX7_init_377 : decode cX7_init 377 = .ok (.iconst 5, 1) := by decide +kernel
theorem dX7_init_378 : decode cX7_init 378 = .ok (.newarray .int, 2) := by decide +kernel
theorem dX7_init_380 : decode cX7_init 380 = .ok (.putfield 89, 3) := by decide +kernel
theorem dX7_init_383 : decode cX7_init 383 = .ok (.aload_n 0, 1) := by decide +kernel
theorem dX7_init_384 : decode cX7_init 384 = .ok (.sipush 8200, 3) := by decide +kernel
theorem dX7_init_387 : decode cX7_init 387 = .ok (.newarray .int, 2) := by decide +kernel
theorem dX7_init_389 : decode cX7_init 389 = .ok (.putfield 92, 3) := by decide +kernel
theorem dX7_init_392 : decode cX7_init 392 = .ok (.aload_n 0, 1) := by decide +kernel
theorem dX7_init_393 : decode cX7_init 393 = .ok (.sipush 8200, 3) := by decide +kernel
theorem dX7_init_396 : decode cX7_init 396 = .ok (.newarray .int, 2) := by decide +kernel
theorem dX7_init_398 : decode cX7_init 398 = .ok (.putfield 95, 3) := by decide +kernel
theorem dX7_init_401 : decode cX7_init 401 = .ok (.aload_n 0, 1) := by decide +kernel
theorem dX7_init_402 : decode cX7_init 402 = .ok (.sipush 8200, 3) := by decide +kernel
theorem dX7_init_405 : decode cX7_init 405 = .ok (.newarray .int, 2) := by decide +kernel
theorem dX7_init_407 : decode cX7_init 407 = .ok (.putfield 98, 3) := by decide +kernel
theorem dX7_init_410 : decode cX7_init 410 = .ok (.aload_n 0, 1) := by decide +kernel
theorem dX7_init_411 : decode cX7_init 411 = .ok (.ldc 101, 2) := by decide +kernel
theorem dX7_init_413 : decode cX7_init 413 = .ok (.newarray .int, 2) := by decide +kernel
theorem dX7_init_415 : decode cX7_init 415 = .ok (.putfield 102, 3) := by decide +kernel
theorem dX7_init_418 : decode cX7_init 418 = .ok (.aload_n 0, 1) := by decide +kernel
theorem dX7_init_419 : decode cX7_init 419 = .ok (.invokevirtual 105, 3) := by decide +kernel
theorem dX7_init_422 : decode cX7_init 422 = .ok (.return_, 1) := by decide +kernel
theorem dX7_takesMarks_0 : decode cX7_takesMarks 0 = .ok (.aload_n 0, 1) := by decide +kernel
theorem dX7_takesMarks_1 : decode cX7_takesMarks 1 = .ok (.getfield 25, 3) := by decide +kernel
theorem dX7_takesMarks_4 : decode cX7_takesMarks 4 = .ok (.iconst 0, 1) := by decide +kernel
theorem dX7_takesMarks_5 : decode cX7_takesMarks 5 = .ok (.aload_n 0, 1) := by decide +kernel
theorem dX7_takesMarks_6 : decode cX7_takesMarks 6 = .ok (.getfield 7, 3) := by decide +kernel
theorem dX7_takesMarks_9 : decode cX7_takesMarks 9 = .ok (.iconst 4, 1) := by decide +kernel
theorem dX7_takesMarks_10 : decode cX7_takesMarks 10 = .ok (.iaload, 1) := by decide +kernel
theorem dX7_takesMarks_11 : decode cX7_takesMarks 11 = .ok (.iastore, 1) := by decide +kernel
theorem dX7_takesMarks_12 : decode cX7_takesMarks 12 = .ok (.aload_n 0, 1) := by decide +kernel
theorem dX7_takesMarks_13 : decode cX7_takesMarks 13 = .ok (.getfield 28, 3) := by decide +kernel
theorem dX7_takesMarks_16 : decode cX7_takesMarks 16 = .ok (.iconst 0, 1) := by decide +kernel
theorem dX7_takesMarks_17 : decode cX7_takesMarks 17 = .ok (.aload_n 0, 1) := by decide +kernel
theorem dX7_takesMarks_18 : decode cX7_takesMarks 18 = .ok (.getfield 7, 3) := by decide +kernel
theorem dX7_takesMarks_21 : decode cX7_takesMarks 21 = .ok (.iconst 5, 1) := by decide +kernel
theorem dX7_takesMarks_22 : decode cX7_takesMarks 22 = .ok (.iaload, 1) := by decide +kernel
theorem dX7_takesMarks_23 : decode cX7_takesMarks 23 = .ok (.iastore, 1) := by decide +kernel
theorem dX7_takesMarks_24 : decode cX7_takesMarks 24 = .ok (.return_, 1) := by decide +kernel
theorem dX7_fades_0 : decode cX7_fades 0 = .ok (.iload_n 1, 1) := by decide +kernel
theorem dX7_fades_1 : decode cX7_fades 1 = .ok (.istore_n 3, 1) := by decide +kernel
theorem dX7_fades_2 : decode cX7_fades 2 = .ok (.iload_n 2, 1) := by decide +kernel
theorem dX7_fades_3 : decode cX7_fades 3 = .ok (.aload_n 0, 1) := by decide +kernel
theorem dX7_fades_4 : decode cX7_fades 4 = .ok (.getfield 7, 3) := by decide +kernel
theorem dX7_fades_7 : decode cX7_fades 7 = .ok (.iconst 3, 1) := by decide +kernel
theorem dX7_fades_8 : decode cX7_fades 8 = .ok (.iaload, 1) := by decide +kernel
theorem dX7_fades_9 : decode cX7_fades 9 = .ok (.idiv, 1) := by decide +kernel
theorem dX7_fades_10 : decode cX7_fades 10 = .ok (.istore 4, 2) := by decide +kernel
theorem dX7_fades_12 : decode cX7_fades 12 = .ok (.iload 4, 2) := by decide +kernel
theorem dX7_fades_14 : decode cX7_fades 14 = .ok (.ifCond .le 17, 3) := by decide +kernel
theorem dX7_fades_17 : decode cX7_fades 17 = .ok (.iload_n 3, 1) := by decide +kernel
theorem dX7_fades_18 : decode cX7_fades 18 = .ok (.ifCond .le 13, 3) := by decide +kernel
theorem dX7_fades_21 : decode cX7_fades 21 = .ok (.iload_n 3, 1) := by decide +kernel
theorem dX7_fades_22 : decode cX7_fades 22 = .ok (.iconst 2, 1) := by decide +kernel
theorem dX7_fades_23 : decode cX7_fades 23 = .ok (.idiv, 1) := by decide +kernel
theorem dX7_fades_24 : decode cX7_fades 24 = .ok (.istore_n 3, 1) := by decide +kernel
theorem dX7_fades_25 : decode cX7_fades 25 = .ok (.iinc 4 (-1), 3) := by decide +kernel
theorem dX7_fades_28 : decode cX7_fades 28 = .ok (.goto (-16), 3) := by decide +kernel
theorem dX7_fades_31 : decode cX7_fades 31 = .ok (.iload_n 3, 1) := by decide +kernel
theorem dX7_fades_32 : decode cX7_fades 32 = .ok (.iload_n 3, 1) := by decide +kernel
theorem dX7_fades_33 : decode cX7_fades 33 = .ok (.iload_n 2, 1) := by decide +kernel
theorem dX7_fades_34 : decode cX7_fades 34 = .ok (.aload_n 0, 1) := by decide +kernel
theorem dX7_fades_35 : decode cX7_fades 35 = .ok (.getfield 7, 3) := by decide +kernel
theorem dX7_fades_38 : decode cX7_fades 38 = .ok (.iconst 3, 1) := by decide +kernel
theorem dX7_fades_39 : decode cX7_fades 39 = .ok (.iaload, 1) := by decide +kernel
theorem dX7_fades_40 : decode cX7_fades 40 = .ok (.irem, 1) := by decide +kernel
theorem dX7_fades_41 : decode cX7_fades 41 = .ok (.imul, 1) := by decide +kernel
theorem dX7_fades_42 : decode cX7_fades 42 = .ok (.iconst 2, 1) := by decide +kernel
theorem dX7_fades_43 : decode cX7_fades 43 = .ok (.aload_n 0, 1) := by decide +kernel
theorem dX7_fades_44 : decode cX7_fades 44 = .ok (.getfield 7, 3) := by decide +kernel
theorem dX7_fades_47 : decode cX7_fades 47 = .ok (.iconst 3, 1) := by decide +kernel
theorem dX7_fades_48 : decode cX7_fades 48 = .ok (.iaload, 1) := by decide +kernel
theorem dX7_fades_49 : decode cX7_fades 49 = .ok (.imul, 1) := by decide +kernel
theorem dX7_fades_50 : decode cX7_fades 50 = .ok (.idiv, 1) := by decide +kernel
theorem dX7_fades_51 : decode cX7_fades 51 = .ok (.isub, 1) := by decide +kernel
theorem dX7_fades_52 : decode cX7_fades 52 = .ok (.ireturn, 1) := by decide +kernel
theorem dX7_bearer_0 : decode cX7_bearer 0 = .ok (.bipush 16, 2) := by decide +kernel
theorem dX7_bearer_2 : decode cX7_bearer 2 = .ok (.iload_n 1, 1) := by decide +kernel
theorem dX7_bearer_3 : decode cX7_bearer 3 = .ok (.imul, 1) := by decide +kernel
theorem dX7_bearer_4 : decode cX7_bearer 4 = .ok (.aload_n 0, 1) := by decide +kernel
theorem dX7_bearer_5 : decode cX7_bearer 5 = .ok (.getfield 13, 3) := by decide +kernel
theorem dX7_bearer_8 : decode cX7_bearer 8 = .ok (.iload_n 2, 1) := by decide +kernel
theorem dX7_bearer_9 : decode cX7_bearer 9 = .ok (.iaload, 1) := by decide +kernel
theorem dX7_bearer_10 : decode cX7_bearer 10 = .ok (.iconst 1, 1) := by decide +kernel
theorem dX7_bearer_11 : decode cX7_bearer 11 = .ok (.if_icmp .ne 15, 3) := by decide +kernel
theorem dX7_bearer_14 : decode cX7_bearer 14 = .ok (.bipush 12, 2) := by decide +kernel
theorem dX7_bearer_16 : decode cX7_bearer 16 = .ok (.aload_n 0, 1) := by decide +kernel
theorem dX7_bearer_17 : decode cX7_bearer 17 = .ok (.getfield 16, 3) := by decide +kernel
theorem dX7_bearer_20 : decode cX7_bearer 20 = .ok (.iload_n 2, 1) := by decide +kernel
theorem dX7_bearer_21 : decode cX7_bearer 21 = .ok (.iaload, 1) := by decide +kernel
theorem dX7_bearer_22 : decode cX7_bearer 22 = .ok (.iadd, 1) := by decide +kernel
theorem dX7_bearer_23 : decode cX7_bearer 23 = .ok (.goto 4, 3) := by decide +kernel
theorem dX7_bearer_26 : decode cX7_bearer 26 = .ok (.iload_n 2, 1) := by decide +kernel
theorem dX7_bearer_27 : decode cX7_bearer 27 = .ok (.iadd, 1) := by decide +kernel
theorem dX7_bearer_28 : decode cX7_bearer 28 = .ok (.ireturn, 1) := by decide +kernel
theorem dX7_penaltyNow_0 : decode cX7_penaltyNow 0 = .ok (.aload_n 0, 1) := by decide +kernel
theorem dX7_penaltyNow_1 : decode cX7_penaltyNow 1 = .ok (.iload_n 1, 1) := by decide +kernel
theorem dX7_penaltyNow_2 : decode cX7_penaltyNow 2 = .ok (.iload_n 2, 1) := by decide +kernel
theorem dX7_penaltyNow_3 : decode cX7_penaltyNow 3 = .ok (.invokevirtual 108, 3) := by decide +kernel
theorem dX7_penaltyNow_6 : decode cX7_penaltyNow 6 = .ok (.istore_n 3, 1) := by decide +kernel
theorem dX7_penaltyNow_7 : decode cX7_penaltyNow 7 = .ok (.aload_n 0, 1) := by decide +kernel
theorem dX7_penaltyNow_8 : decode cX7_penaltyNow 8 = .ok (.aload_n 0, 1) := by decide +kernel
theorem dX7_penaltyNow_9 : decode cX7_penaltyNow 9 = .ok (.getfield 31, 3) := by decide +kernel
theorem dX7_penaltyNow_12 : decode cX7_penaltyNow 12 = .ok (.iload_n 3, 1) := by decide +kernel
theorem dX7_penaltyNow_13 : decode cX7_penaltyNow 13 = .ok (.iaload, 1) := by decide +kernel
theorem dX7_penaltyNow_14 : decode cX7_penaltyNow 14 = .ok (.aload_n 0, 1) := by decide +kernel
theorem dX7_penaltyNow_15 : decode cX7_penaltyNow 15 = .ok (.getfield 22, 3) := by decide +kernel
theorem dX7_penaltyNow_18 : decode cX7_penaltyNow 18 = .ok (.iload_n 1, 1) := by decide +kernel
theorem dX7_penaltyNow_19 : decode cX7_penaltyNow 19 = .ok (.iaload, 1) := by decide +kernel
theorem dX7_penaltyNow_20 : decode cX7_penaltyNow 20 = .ok (.aload_n 0, 1) := by decide +kernel
theorem dX7_penaltyNow_21 : decode cX7_penaltyNow 21 = .ok (.getfield 34, 3) := by decide +kernel
theorem dX7_penaltyNow_24 : decode cX7_penaltyNow 24 = .ok (.iload_n 3, 1) := by decide +kernel
theorem dX7_penaltyNow_25 : decode cX7_penaltyNow 25 = .ok (.iaload, 1) := by decide +kernel
theorem dX7_penaltyNow_26 : decode cX7_penaltyNow 26 = .ok (.isub, 1) := by decide +kernel
theorem dX7_penaltyNow_27 : decode cX7_penaltyNow 27 = .ok (.invokevirtual 112, 3) := by decide +kernel
theorem dX7_penaltyNow_30 : decode cX7_penaltyNow 30 = .ok (.ireturn, 1) := by decide +kernel
theorem dX7_isSeen_0 : decode cX7_isSeen 0 = .ok (.aload_n 0, 1) := by decide +kernel
theorem dX7_isSeen_1 : decode cX7_isSeen 1 = .ok (.getfield 41, 3) := by decide +kernel
theorem dX7_isSeen_4 : decode cX7_isSeen 4 = .ok (.bipush 12, 2) := by decide +kernel
theorem dX7_isSeen_6 : decode cX7_isSeen 6 = .ok (.iload_n 1, 1) := by decide +kernel
theorem dX7_isSeen_7 : decode cX7_isSeen 7 = .ok (.imul, 1) := by decide +kernel
theorem dX7_isSeen_8 : decode cX7_isSeen 8 = .ok (.iload_n 2, 1) := by decide +kernel
theorem dX7_isSeen_9 : decode cX7_isSeen 9 = .ok (.iadd, 1) := by decide +kernel
theorem dX7_isSeen_10 : decode cX7_isSeen 10 = .ok (.baload, 1) := by decide +kernel
theorem dX7_isSeen_11 : decode cX7_isSeen 11 = .ok (.ifCond .eq 21, 3) := by decide +kernel
theorem dX7_isSeen_14 : decode cX7_isSeen 14 = .ok (.aload_n 0, 1) := by decide +kernel
theorem dX7_isSeen_15 : decode cX7_isSeen 15 = .ok (.getfield 37, 3) := by decide +kernel
theorem dX7_isSeen_18 : decode cX7_isSeen 18 = .ok (.aload_n 0, 1) := by decide +kernel
theorem dX7_isSeen_19 : decode cX7_isSeen 19 = .ok (.iload_n 1, 1) := by decide +kernel
theorem dX7_isSeen_20 : decode cX7_isSeen 20 = .ok (.iload_n 2, 1) := by decide +kernel
theorem dX7_isSeen_21 : decode cX7_isSeen 21 = .ok (.invokevirtual 108, 3) := by decide +kernel
theorem dX7_isSeen_24 : decode cX7_isSeen 24 = .ok (.baload, 1) := by decide +kernel
theorem dX7_isSeen_25 : decode cX7_isSeen 25 = .ok (.ifCond .ne 7, 3) := by decide +kernel
theorem dX7_isSeen_28 : decode cX7_isSeen 28 = .ok (.iconst 1, 1) := by decide +kernel
theorem dX7_isSeen_29 : decode cX7_isSeen 29 = .ok (.goto 4, 3) := by decide +kernel
theorem dX7_isSeen_32 : decode cX7_isSeen 32 = .ok (.iconst 0, 1) := by decide +kernel
theorem dX7_isSeen_33 : decode cX7_isSeen 33 = .ok (.ireturn, 1) := by decide +kernel
theorem dX7_looks_0 : decode cX7_looks 0 = .ok (.iconst 0, 1) := by decide +kernel
theorem dX7_looks_1 : decode cX7_looks 1 = .ok (.istore_n 2, 1) := by decide +kernel
theorem dX7_looks_2 : decode cX7_looks 2 = .ok (.iload_n 2, 1) := by decide +kernel
theorem dX7_looks_3 : decode cX7_looks 3 = .ok (.aload_n 0, 1) := by decide +kernel
theorem dX7_looks_4 : decode cX7_looks 4 = .ok (.getfield 115, 3) := by decide +kernel
theorem dX7_looks_7 : decode cX7_looks 7 = .ok (.if_icmp .ge 62, 3) := by decide +kernel
theorem dX7_looks_10 : decode cX7_looks 10 = .ok (.aload_n 0, 1) := by decide +kernel
theorem dX7_looks_11 : decode cX7_looks 11 = .ok (.iload_n 1, 1) := by decide +kernel
theorem dX7_looks_12 : decode cX7_looks 12 = .ok (.iload_n 2, 1) := by decide +kernel
theorem dX7_looks_13 : decode cX7_looks 13 = .ok (.invokevirtual 119, 3) := by decide +kernel
theorem dX7_looks_16 : decode cX7_looks 16 = .ok (.istore_n 3, 1) := by decide +kernel
theorem dX7_looks_17 : decode cX7_looks 17 = .ok (.aload_n 0, 1) := by decide +kernel
theorem dX7_looks_18 : decode cX7_looks 18 = .ok (.getfield 47, 3) := by decide +kernel
theorem dX7_looks_21 : decode cX7_looks 21 = .ok (.bipush 12, 2) := by decide +kernel
theorem dX7_looks_23 : decode cX7_looks 23 = .ok (.iload_n 1, 1) := by decide +kernel
theorem dX7_looks_24 : decode cX7_looks 24 = .ok (.imul, 1) := by decide +kernel
theorem dX7_looks_25 : decode cX7_looks 25 = .ok (.iload_n 2, 1) := by decide +kernel
theorem dX7_looks_26 : decode cX7_looks 26 = .ok (.iadd, 1) := by decide +kernel
theorem dX7_looks_27 : decode cX7_looks 27 = .ok (.dup2, 1) := by decide +kernel
theorem dX7_looks_28 : decode cX7_looks 28 = .ok (.iaload, 1) := by decide +kernel
theorem dX7_looks_29 : decode cX7_looks 29 = .ok (.iload_n 3, 1) := by decide +kernel
theorem dX7_looks_30 : decode cX7_looks 30 = .ok (.aload_n 0, 1) := by decide +kernel
theorem dX7_looks_31 : decode cX7_looks 31 = .ok (.getfield 44, 3) := by decide +kernel
theorem dX7_looks_34 : decode cX7_looks 34 = .ok (.bipush 12, 2) := by decide +kernel
theorem dX7_looks_36 : decode cX7_looks 36 = .ok (.iload_n 1, 1) := by decide +kernel
theorem dX7_looks_37 : decode cX7_looks 37 = .ok (.imul, 1) := by decide +kernel
theorem dX7_looks_38 : decode cX7_looks 38 = .ok (.iload_n 2, 1) := by decide +kernel
theorem dX7_looks_39 : decode cX7_looks 39 = .ok (.iadd, 1) := by decide +kernel
theorem dX7_looks_40 : decode cX7_looks 40 = .ok (.baload, 1) := by decide +kernel
theorem dX7_looks_41 : decode cX7_looks 41 = .ok (.if_icmp .eq 7, 3) := by decide +kernel
theorem dX7_looks_44 : decode cX7_looks 44 = .ok (.iconst 1, 1) := by decide +kernel
theorem dX7_looks_45 : decode cX7_looks 45 = .ok (.goto 4, 3) := by decide +kernel
theorem dX7_looks_48 : decode cX7_looks 48 = .ok (.iconst 0, 1) := by decide +kernel
theorem dX7_looks_49 : decode cX7_looks 49 = .ok (.iadd, 1) := by decide +kernel
theorem dX7_looks_50 : decode cX7_looks 50 = .ok (.iastore, 1) := by decide +kernel
theorem dX7_looks_51 : decode cX7_looks 51 = .ok (.aload_n 0, 1) := by decide +kernel
theorem dX7_looks_52 : decode cX7_looks 52 = .ok (.getfield 44, 3) := by decide +kernel
theorem dX7_looks_55 : decode cX7_looks 55 = .ok (.bipush 12, 2) := by decide +kernel
theorem dX7_looks_57 : decode cX7_looks 57 = .ok (.iload_n 1, 1) := by decide +kernel
theorem dX7_looks_58 : decode cX7_looks 58 = .ok (.imul, 1) := by decide +kernel
theorem dX7_looks_59 : decode cX7_looks 59 = .ok (.iload_n 2, 1) := by decide +kernel
theorem dX7_looks_60 : decode cX7_looks 60 = .ok (.iadd, 1) := by decide +kernel
theorem dX7_looks_61 : decode cX7_looks 61 = .ok (.iload_n 3, 1) := by decide +kernel
theorem dX7_looks_62 : decode cX7_looks 62 = .ok (.bastore, 1) := by decide +kernel
theorem dX7_looks_63 : decode cX7_looks 63 = .ok (.iinc 2 1, 3) := by decide +kernel
theorem dX7_looks_66 : decode cX7_looks 66 = .ok (.goto (-64), 3) := by decide +kernel
theorem dX7_looks_69 : decode cX7_looks 69 = .ok (.return_, 1) := by decide +kernel
theorem dX7_begins_0 : decode cX7_begins 0 = .ok (.bipush 12, 2) := by decide +kernel
theorem dX7_begins_2 : decode cX7_begins 2 = .ok (.iload_n 1, 1) := by decide +kernel
theorem dX7_begins_3 : decode cX7_begins 3 = .ok (.imul, 1) := by decide +kernel
theorem dX7_begins_4 : decode cX7_begins 4 = .ok (.iload_n 2, 1) := by decide +kernel
theorem dX7_begins_5 : decode cX7_begins 5 = .ok (.iadd, 1) := by decide +kernel
theorem dX7_begins_6 : decode cX7_begins 6 = .ok (.istore_n 3, 1) := by decide +kernel
theorem dX7_begins_7 : decode cX7_begins 7 = .ok (.aload_n 0, 1) := by decide +kernel
theorem dX7_begins_8 : decode cX7_begins 8 = .ok (.getfield 41, 3) := by decide +kernel
theorem dX7_begins_11 : decode cX7_begins 11 = .ok (.iload_n 3, 1) := by decide +kernel
theorem dX7_begins_12 : decode cX7_begins 12 = .ok (.iconst 1, 1) := by decide +kernel
theorem dX7_begins_13 : decode cX7_begins 13 = .ok (.bastore, 1) := by decide +kernel
theorem dX7_begins_14 : decode cX7_begins 14 = .ok (.aload_n 0, 1) := by decide +kernel
theorem dX7_begins_15 : decode cX7_begins 15 = .ok (.getfield 47, 3) := by decide +kernel
theorem dX7_begins_18 : decode cX7_begins 18 = .ok (.iload_n 3, 1) := by decide +kernel
theorem dX7_begins_19 : decode cX7_begins 19 = .ok (.iconst 0, 1) := by decide +kernel
theorem dX7_begins_20 : decode cX7_begins 20 = .ok (.iastore, 1) := by decide +kernel
theorem dX7_begins_21 : decode cX7_begins 21 = .ok (.aload_n 0, 1) := by decide +kernel
theorem dX7_begins_22 : decode cX7_begins 22 = .ok (.getfield 50, 3) := by decide +kernel
theorem dX7_begins_25 : decode cX7_begins 25 = .ok (.iload_n 3, 1) := by decide +kernel
theorem dX7_begins_26 : decode cX7_begins 26 = .ok (.iconst 0, 1) := by decide +kernel
theorem dX7_begins_27 : decode cX7_begins 27 = .ok (.iastore, 1) := by decide +kernel
theorem dX7_begins_28 : decode cX7_begins 28 = .ok (.aload_n 0, 1) := by decide +kernel
theorem dX7_begins_29 : decode cX7_begins 29 = .ok (.getfield 53, 3) := by decide +kernel
theorem dX7_begins_32 : decode cX7_begins 32 = .ok (.iload_n 3, 1) := by decide +kernel
theorem dX7_begins_33 : decode cX7_begins 33 = .ok (.ldc 123, 2) := by decide +kernel
theorem dX7_begins_35 : decode cX7_begins 35 = .ok (.iastore, 1) := by decide +kernel
theorem dX7_begins_36 : decode cX7_begins 36 = .ok (.aload_n 0, 1) := by decide +kernel
theorem dX7_begins_37 : decode cX7_begins 37 = .ok (.getfield 44, 3) := by decide +kernel
theorem dX7_begins_40 : decode cX7_begins 40 = .ok (.iload_n 3, 1) := by decide +kernel
theorem dX7_begins_41 : decode cX7_begins 41 = .ok (.aload_n 0, 1) := by decide +kernel
theorem dX7_begins_42 : decode cX7_begins 42 = .ok (.iload_n 1, 1) := by decide +kernel
theorem dX7_begins_43 : decode cX7_begins 43 = .ok (.iload_n 2, 1) := by decide +kernel
theorem dX7_begins_44 : decode cX7_begins 44 = .ok (.invokevirtual 119, 3) := by decide +kernel
theorem dX7_begins_47 : decode cX7_begins 47 = .ok (.bastore, 1) := by decide +kernel
theorem dX7_begins_48 : decode cX7_begins 48 = .ok (.return_, 1) := by decide +kernel
theorem dX7_line_0 : decode cX7_line 0 = .ok (.iload_n 1, 1) := by decide +kernel
theorem dX7_line_1 : decode cX7_line 1 = .ok (.iconst 0, 1) := by decide +kernel
theorem dX7_line_2 : decode cX7_line 2 = .ok (.iconst 2, 1) := by decide +kernel
theorem dX7_line_3 : decode cX7_line 3 = .ok (.invokestatic 124, 3) := by decide +kernel
theorem dX7_line_6 : decode cX7_line 6 = .ok (.ifCond .eq 17, 3) := by decide +kernel
theorem dX7_line_9 : decode cX7_line 9 = .ok (.iload_n 1, 1) := by decide +kernel
theorem dX7_line_10 : decode cX7_line 10 = .ok (.iconst 1, 1) := by decide +kernel
theorem dX7_line_11 : decode cX7_line 11 = .ok (.if_icmp .ne 15, 3) := by decide +kernel
theorem dX7_line_14 : decode cX7_line 14 = .ok (.iload_n 2, 1) := by decide +kernel
theorem dX7_line_15 : decode cX7_line 15 = .ok (.iconst 0, 1) := by decide +kernel
theorem dX7_line_16 : decode cX7_line 16 = .ok (.iconst 3, 1) := by decide +kernel
theorem dX7_line_17 : decode cX7_line 17 = .ok (.invokestatic 124, 3) := by decide +kernel
theorem dX7_line_20 : decode cX7_line 20 = .ok (.ifCond .ne 6, 3) := by decide +kernel
theorem dX7_line_23 : decode cX7_line 23 = .ok (.bipush (-2), 2) := by decide +kernel
theorem dX7_line_25 : decode cX7_line 25 = .ok (.ireturn, 1) := by decide +kernel
theorem dX7_line_26 : decode cX7_line 26 = .ok (.aload_n 0, 1) := by decide +kernel
theorem dX7_line_27 : decode cX7_line 27 = .ok (.getfield 115, 3) := by decide +kernel
theorem dX7_line_30 : decode cX7_line 30 = .ok (.bipush 12, 2) := by decide +kernel
theorem dX7_line_32 : decode cX7_line 32 = .ok (.if_icmp .ne 6, 3) := by decide +kernel
theorem dX7_line_35 : decode cX7_line 35 = .ok (.bipush (-4), 2) := by decide +kernel
theorem dX7_line_37 : decode cX7_line 37 = .ok (.ireturn, 1) := by decide +kernel
theorem dX7_line_38 : decode cX7_line 38 = .ok (.aload_n 0, 1) := by decide +kernel
theorem dX7_line_39 : decode cX7_line 39 = .ok (.getfield 13, 3) := by decide +kernel
theorem dX7_line_42 : decode cX7_line 42 = .ok (.aload_n 0, 1) := by decide +kernel
theorem dX7_line_43 : decode cX7_line 43 = .ok (.getfield 115, 3) := by decide +kernel
theorem dX7_line_46 : decode cX7_line 46 = .ok (.iload_n 1, 1) := by decide +kernel
theorem dX7_line_47 : decode cX7_line 47 = .ok (.iastore, 1) := by decide +kernel
theorem dX7_line_48 : decode cX7_line 48 = .ok (.aload_n 0, 1) := by decide +kernel
theorem dX7_line_49 : decode cX7_line 49 = .ok (.getfield 16, 3) := by decide +kernel
theorem dX7_line_52 : decode cX7_line 52 = .ok (.aload_n 0, 1) := by decide +kernel
theorem dX7_line_53 : decode cX7_line 53 = .ok (.getfield 115, 3) := by decide +kernel
theorem dX7_line_56 : decode cX7_line 56 = .ok (.iload_n 2, 1) := by decide +kernel
theorem dX7_line_57 : decode cX7_line 57 = .ok (.iastore, 1) := by decide +kernel
theorem dX7_line_58 : decode cX7_line 58 = .ok (.aload_n 0, 1) := by decide +kernel
theorem dX7_line_59 : decode cX7_line 59 = .ok (.iconst 0, 1) := by decide +kernel
theorem dX7_line_60 : decode cX7_line 60 = .ok (.aload_n 0, 1) := by decide +kernel
theorem dX7_line_61 : decode cX7_line 61 = .ok (.getfield 115, 3) := by decide +kernel
theorem dX7_line_64 : decode cX7_line 64 = .ok (.invokevirtual 128, 3) := by decide +kernel
theorem dX7_line_67 : decode cX7_line 67 = .ok (.aload_n 0, 1) := by decide +kernel
theorem dX7_line_68 : decode cX7_line 68 = .ok (.dup, 1) := by decide +kernel
theorem dX7_line_69 : decode cX7_line 69 = .ok (.getfield 115, 3) := by decide +kernel
theorem dX7_line_72 : decode cX7_line 72 = .ok (.iconst 1, 1) := by decide +kernel
theorem dX7_line_73 : decode cX7_line 73 = .ok (.iadd, 1) := by decide +kernel
theorem dX7_line_74 : decode cX7_line 74 = .ok (.putfield 115, 3) := by decide +kernel
theorem dX7_line_77 : decode cX7_line 77 = .ok (.aload_n 0, 1) := by decide +kernel
theorem dX7_line_78 : decode cX7_line 78 = .ok (.getfield 115, 3) := by decide +kernel
theorem dX7_line_81 : decode cX7_line 81 = .ok (.iconst 1, 1) := by decide +kernel
theorem dX7_line_82 : decode cX7_line 82 = .ok (.isub, 1) := by decide +kernel
theorem dX7_line_83 : decode cX7_line 83 = .ok (.ireturn, 1) := by decide +kernel
theorem dX7_least_0 : decode cX7_least 0 = .ok (.iload_n 0, 1) := by decide +kernel
theorem dX7_least_1 : decode cX7_least 1 = .ok (.iconst 3, 1) := by decide +kernel
theorem dX7_least_2 : decode cX7_least 2 = .ok (.if_icmp .lt 9, 3) := by decide +kernel
theorem dX7_least_5 : decode cX7_least 5 = .ok (.iload_n 0, 1) := by decide +kernel
theorem dX7_least_6 : decode cX7_least 6 = .ok (.bipush 7, 2) := by decide +kernel
theorem dX7_least_8 : decode cX7_least 8 = .ok (.if_icmp .ne 7, 3) := by decide +kernel
theorem dX7_least_11 : decode cX7_least 11 = .ok (.iconst 0, 1) := by decide +kernel
theorem dX7_least_12 : decode cX7_least 12 = .ok (.goto 4, 3) := by decide +kernel
theorem dX7_least_15 : decode cX7_least 15 = .ok (.iconst 1, 1) := by decide +kernel
theorem dX7_least_16 : decode cX7_least 16 = .ok (.ireturn, 1) := by decide +kernel
theorem dX7_most_0 : decode cX7_most 0 = .ok (.iload_n 0, 1) := by decide +kernel
theorem dX7_most_1 : decode cX7_most 1 = .ok (.iconst 3, 1) := by decide +kernel
theorem dX7_most_2 : decode cX7_most 2 = .ok (.if_icmp .ge 9, 3) := by decide +kernel
theorem dX7_most_5 : decode cX7_most 5 = .ok (.sipush 10000, 3) := by decide +kernel
theorem dX7_most_8 : decode cX7_most 8 = .ok (.goto 40, 3) := by decide +kernel
theorem dX7_most_11 : decode cX7_most 11 = .ok (.iload_n 0, 1) := by decide +kernel
theorem dX7_most_12 : decode cX7_most 12 = .ok (.iconst 3, 1) := by decide +kernel
theorem dX7_most_13 : decode cX7_most 13 = .ok (.if_icmp .ne 9, 3) := by decide +kernel
theorem dX7_most_16 : decode cX7_most 16 = .ok (.sipush 500, 3) := by decide +kernel
theorem dX7_most_19 : decode cX7_most 19 = .ok (.goto 29, 3) := by decide +kernel
theorem dX7_most_22 : decode cX7_most 22 = .ok (.iload_n 0, 1) := by decide +kernel
theorem dX7_most_23 : decode cX7_most 23 = .ok (.bipush 6, 2) := by decide +kernel
theorem dX7_most_25 : decode cX7_most 25 = .ok (.if_icmp .ne 8, 3) := by decide +kernel
theorem dX7_most_28 : decode cX7_most 28 = .ok (.ldc 132, 2) := by decide +kernel
theorem dX7_most_30 : decode cX7_most 30 = .ok (.goto 18, 3) := by decide +kernel
theorem dX7_most_33 : decode cX7_most 33 = .ok (.iload_n 0, 1) := by decide +kernel
theorem dX7_most_34 : decode cX7_most 34 = .ok (.bipush 7, 2) := by decide +kernel
theorem dX7_most_36 : decode cX7_most 36 = .ok (.if_icmp .ne 9, 3) := by decide +kernel
theorem dX7_most_39 : decode cX7_most 39 = .ok (.sipush 1000, 3) := by decide +kernel
theorem dX7_most_42 : decode cX7_most 42 = .ok (.goto 6, 3) := by decide +kernel
theorem dX7_most_45 : decode cX7_most 45 = .ok (.sipush 20000, 3) := by decide +kernel
theorem dX7_most_48 : decode cX7_most 48 = .ok (.ireturn, 1) := by decide +kernel
theorem dX7_rule_0 : decode cX7_rule 0 = .ok (.iload_n 1, 1) := by decide +kernel
theorem dX7_rule_1 : decode cX7_rule 1 = .ok (.iconst 0, 1) := by decide +kernel
theorem dX7_rule_2 : decode cX7_rule 2 = .ok (.bipush 7, 2) := by decide +kernel
theorem dX7_rule_4 : decode cX7_rule 4 = .ok (.invokestatic 124, 3) := by decide +kernel
theorem dX7_rule_7 : decode cX7_rule 7 = .ok (.ifCond .eq 48, 3) := by decide +kernel
theorem dX7_rule_10 : decode cX7_rule 10 = .ok (.iload_n 2, 1) := by decide +kernel
theorem dX7_rule_11 : decode cX7_rule 11 = .ok (.iload_n 1, 1) := by decide +kernel
theorem dX7_rule_12 : decode cX7_rule 12 = .ok (.invokestatic 133, 3) := by decide +kernel
theorem dX7_rule_15 : decode cX7_rule 15 = .ok (.iload_n 1, 1) := by decide +kernel
theorem dX7_rule_16 : decode cX7_rule 16 = .ok (.invokestatic 137, 3) := by decide +kernel
theorem dX7_rule_19 : decode cX7_rule 19 = .ok (.invokestatic 124, 3) := by decide +kernel
theorem dX7_rule_22 : decode cX7_rule 22 = .ok (.ifCond .eq 33, 3) := by decide +kernel
theorem dX7_rule_25 : decode cX7_rule 25 = .ok (.iload_n 1, 1) := by decide +kernel
theorem dX7_rule_26 : decode cX7_rule 26 = .ok (.iconst 4, 1) := by decide +kernel
theorem dX7_rule_27 : decode cX7_rule 27 = .ok (.if_icmp .ne 13, 3) := by decide +kernel
theorem dX7_rule_30 : decode cX7_rule 30 = .ok (.iload_n 2, 1) := by decide +kernel
theorem dX7_rule_31 : decode cX7_rule 31 = .ok (.aload_n 0, 1) := by decide +kernel
theorem dX7_rule_32 : decode cX7_rule 32 = .ok (.getfield 7, 3) := by decide +kernel
theorem dX7_rule_35 : decode cX7_rule 35 = .ok (.iconst 5, 1) := by decide +kernel
theorem dX7_rule_36 : decode cX7_rule 36 = .ok (.iaload, 1) := by decide +kernel
theorem dX7_rule_37 : decode cX7_rule 37 = .ok (.if_icmp .lt 18, 3) := by decide +kernel
theorem dX7_rule_40 : decode cX7_rule 40 = .ok (.iload_n 1, 1) := by decide +kernel
theorem dX7_rule_41 : decode cX7_rule 41 = .ok (.iconst 5, 1) := by decide +kernel
theorem dX7_rule_42 : decode cX7_rule 42 = .ok (.if_icmp .ne 16, 3) := by decide +kernel
theorem dX7_rule_45 : decode cX7_rule 45 = .ok (.iload_n 2, 1) := by decide +kernel
theorem dX7_rule_46 : decode cX7_rule 46 = .ok (.aload_n 0, 1) := by decide +kernel
theorem dX7_rule_47 : decode cX7_rule 47 = .ok (.getfield 7, 3) := by decide +kernel
theorem dX7_rule_50 : decode cX7_rule 50 = .ok (.iconst 4, 1) := by decide +kernel
theorem dX7_rule_51 : decode cX7_rule 51 = .ok (.iaload, 1) := by decide +kernel
theorem dX7_rule_52 : decode cX7_rule 52 = .ok (.if_icmp .le 6, 3) := by decide +kernel
theorem dX7_rule_55 : decode cX7_rule 55 = .ok (.bipush (-2), 2) := by decide +kernel
theorem dX7_rule_57 : decode cX7_rule 57 = .ok (.ireturn, 1) := by decide +kernel
theorem dX7_rule_58 : decode cX7_rule 58 = .ok (.iconst 0, 1) := by decide +kernel
theorem dX7_rule_59 : decode cX7_rule 59 = .ok (.istore_n 3, 1) := by decide +kernel
theorem dX7_rule_60 : decode cX7_rule 60 = .ok (.iload_n 3, 1) := by decide +kernel
theorem dX7_rule_61 : decode cX7_rule 61 = .ok (.bipush 16, 2) := by decide +kernel
theorem dX7_rule_63 : decode cX7_rule 63 = .ok (.if_icmp .ge 50, 3) := by decide +kernel
theorem dX7_rule_66 : decode cX7_rule 66 = .ok (.aload_n 0, 1) := by decide +kernel
theorem dX7_rule_67 : decode cX7_rule 67 = .ok (.getfield 31, 3) := by decide +kernel
theorem dX7_rule_70 : decode cX7_rule 70 = .ok (.iload_n 3, 1) := by decide +kernel
theorem dX7_rule_71 : decode cX7_rule 71 = .ok (.aload_n 0, 1) := by decide +kernel
theorem dX7_rule_72 : decode cX7_rule 72 = .ok (.aload_n 0, 1) := by decide +kernel
theorem dX7_rule_73 : decode cX7_rule 73 = .ok (.getfield 31, 3) := by decide +kernel
theorem dX7_rule_76 : decode cX7_rule 76 = .ok (.iload_n 3, 1) := by decide +kernel
theorem dX7_rule_77 : decode cX7_rule 77 = .ok (.iaload, 1) := by decide +kernel
theorem dX7_rule_78 : decode cX7_rule 78 = .ok (.aload_n 0, 1) := by decide +kernel
theorem dX7_rule_79 : decode cX7_rule 79 = .ok (.getfield 22, 3) := by decide +kernel
theorem dX7_rule_82 : decode cX7_rule 82 = .ok (.iconst 0, 1) := by decide +kernel
theorem dX7_rule_83 : decode cX7_rule 83 = .ok (.iaload, 1) := by decide +kernel
theorem dX7_rule_84 : decode cX7_rule 84 = .ok (.aload_n 0, 1) := by decide +kernel
theorem dX7_rule_85 : decode cX7_rule 85 = .ok (.getfield 34, 3) := by decide +kernel
theorem dX7_rule_88 : decode cX7_rule 88 = .ok (.iload_n 3, 1) := by decide +kernel
theorem dX7_rule_89 : decode cX7_rule 89 = .ok (.iaload, 1) := by decide +kernel
theorem dX7_rule_90 : decode cX7_rule 90 = .ok (.isub, 1) := by decide +kernel
theorem dX7_rule_91 : decode cX7_rule 91 = .ok (.invokevirtual 112, 3) := by decide +kernel
theorem dX7_rule_94 : decode cX7_rule 94 = .ok (.iastore, 1) := by decide +kernel
theorem dX7_rule_95 : decode cX7_rule 95 = .ok (.aload_n 0, 1) := by decide +kernel
theorem dX7_rule_96 : decode cX7_rule 96 = .ok (.getfield 34, 3) := by decide +kernel
theorem dX7_rule_99 : decode cX7_rule 99 = .ok (.iload_n 3, 1) := by decide +kernel
theorem dX7_rule_100 : decode cX7_rule 100 = .ok (.aload_n 0, 1) := by decide +kernel
theorem dX7_rule_101 : decode cX7_rule 101 = .ok (.getfield 22, 3) := by decide +kernel
theorem dX7_rule_104 : decode cX7_rule 104 = .ok (.iconst 0, 1) := by decide +kernel
theorem dX7_rule_105 : decode cX7_rule 105 = .ok (.iaload, 1) := by decide +kernel
theorem dX7_rule_106 : decode cX7_rule 106 = .ok (.iastore, 1) := by decide +kernel
theorem dX7_rule_107 : decode cX7_rule 107 = .ok (.iinc 3 1, 3) := by decide +kernel
theorem dX7_rule_110 : decode cX7_rule 110 = .ok (.goto (-50), 3) := by decide +kernel
theorem dX7_rule_113 : decode cX7_rule 113 = .ok (.aload_n 0, 1) := by decide +kernel
theorem dX7_rule_114 : decode cX7_rule 114 = .ok (.getfield 7, 3) := by decide +kernel
theorem dX7_rule_117 : decode cX7_rule 117 = .ok (.iload_n 1, 1) := by decide +kernel
theorem dX7_rule_118 : decode cX7_rule 118 = .ok (.iaload, 1) := by decide +kernel
theorem dX7_rule_119 : decode cX7_rule 119 = .ok (.istore_n 3, 1) := by decide +kernel
theorem dX7_rule_120 : decode cX7_rule 120 = .ok (.aload_n 0, 1) := by decide +kernel
theorem dX7_rule_121 : decode cX7_rule 121 = .ok (.getfield 7, 3) := by decide +kernel
theorem dX7_rule_124 : decode cX7_rule 124 = .ok (.iload_n 1, 1) := by decide +kernel
theorem dX7_rule_125 : decode cX7_rule 125 = .ok (.iload_n 2, 1) := by decide +kernel
theorem dX7_rule_126 : decode cX7_rule 126 = .ok (.iastore, 1) := by decide +kernel
theorem dX7_rule_127 : decode cX7_rule 127 = .ok (.aload_n 0, 1) := by decide +kernel
theorem dX7_rule_128 : decode cX7_rule 128 = .ok (.invokevirtual 105, 3) := by decide +kernel
theorem dX7_rule_131 : decode cX7_rule 131 = .ok (.iload_n 3, 1) := by decide +kernel
theorem dX7_rule_132 : decode cX7_rule 132 = .ok (.ireturn, 1) := by decide +kernel
theorem dX7_faded_0 : decode cX7_faded 0 = .ok (.iload_n 1, 1) := by decide +kernel
theorem dX7_faded_1 : decode cX7_faded 1 = .ok (.iconst 0, 1) := by decide +kernel
theorem dX7_faded_2 : decode cX7_faded 2 = .ok (.ldc 132, 2) := by decide +kernel
theorem dX7_faded_4 : decode cX7_faded 4 = .ok (.invokestatic 124, 3) := by decide +kernel
theorem dX7_faded_7 : decode cX7_faded 7 = .ok (.ifCond .eq 22, 3) := by decide +kernel
theorem dX7_faded_10 : decode cX7_faded 10 = .ok (.iload_n 2, 1) := by decide +kernel
theorem dX7_faded_11 : decode cX7_faded 11 = .ok (.iconst 0, 1) := by decide +kernel
theorem dX7_faded_12 : decode cX7_faded 12 = .ok (.ldc 132, 2) := by decide +kernel
theorem dX7_faded_14 : decode cX7_faded 14 = .ok (.invokestatic 124, 3) := by decide +kernel
theorem dX7_faded_17 : decode cX7_faded 17 = .ok (.ifCond .eq 12, 3) := by decide +kernel
theorem dX7_faded_20 : decode cX7_faded 20 = .ok (.aload_n 0, 1) := by decide +kernel
theorem dX7_faded_21 : decode cX7_faded 21 = .ok (.iload_n 1, 1) := by decide +kernel
theorem dX7_faded_22 : decode cX7_faded 22 = .ok (.iload_n 2, 1) := by decide +kernel
theorem dX7_faded_23 : decode cX7_faded 23 = .ok (.invokevirtual 112, 3) := by decide +kernel
theorem dX7_faded_26 : decode cX7_faded 26 = .ok (.goto 5, 3) := by decide +kernel
theorem dX7_faded_29 : decode cX7_faded 29 = .ok (.bipush (-2), 2) := by decide +kernel
theorem dX7_faded_31 : decode cX7_faded 31 = .ok (.ireturn, 1) := by decide +kernel
theorem dX7_happens_0 : decode cX7_happens 0 = .ok (.bipush 12, 2) := by decide +kernel
theorem dX7_happens_2 : decode cX7_happens 2 = .ok (.iload_n 1, 1) := by decide +kernel
theorem dX7_happens_3 : decode cX7_happens 3 = .ok (.imul, 1) := by decide +kernel
theorem dX7_happens_4 : decode cX7_happens 4 = .ok (.iload_n 2, 1) := by decide +kernel
theorem dX7_happens_5 : decode cX7_happens 5 = .ok (.iadd, 1) := by decide +kernel
theorem dX7_happens_6 : decode cX7_happens 6 = .ok (.istore 4, 2) := by decide +kernel
theorem dX7_happens_8 : decode cX7_happens 8 = .ok (.aload_n 0, 1) := by decide +kernel
theorem dX7_happens_9 : decode cX7_happens 9 = .ok (.iload_n 1, 1) := by decide +kernel
theorem dX7_happens_10 : decode cX7_happens 10 = .ok (.iload_n 2, 1) := by decide +kernel
theorem dX7_happens_11 : decode cX7_happens 11 = .ok (.invokevirtual 108, 3) := by decide +kernel
theorem dX7_happens_14 : decode cX7_happens 14 = .ok (.istore 5, 2) := by decide +kernel
theorem dX7_happens_16 : decode cX7_happens 16 = .ok (.aload_n 0, 1) := by decide +kernel
theorem dX7_happens_17 : decode cX7_happens 17 = .ok (.getfield 22, 3) := by decide +kernel
theorem dX7_happens_20 : decode cX7_happens 20 = .ok (.iload_n 1, 1) := by decide +kernel
theorem dX7_happens_21 : decode cX7_happens 21 = .ok (.iaload, 1) := by decide +kernel
theorem dX7_happens_22 : decode cX7_happens 22 = .ok (.istore 6, 2) := by decide +kernel
theorem dX7_happens_24 : decode cX7_happens 24 = .ok (.aload_n 0, 1) := by decide +kernel
theorem dX7_happens_25 : decode cX7_happens 25 = .ok (.getfield 13, 3) := by decide +kernel
theorem dX7_happens_28 : decode cX7_happens 28 = .ok (.iload_n 2, 1) := by decide +kernel
theorem dX7_happens_29 : decode cX7_happens 29 = .ok (.iaload, 1) := by decide +kernel
theorem dX7_happens_30 : decode cX7_happens 30 = .ok (.iconst 2, 1) := by decide +kernel
theorem dX7_happens_31 : decode cX7_happens 31 = .ok (.if_icmp .ne 31, 3) := by decide +kernel
theorem dX7_happens_34 : decode cX7_happens 34 = .ok (.iload_n 3, 1) := by decide +kernel
theorem dX7_happens_35 : decode cX7_happens 35 = .ok (.ifCond .ne 27, 3) := by decide +kernel
theorem dX7_happens_38 : decode cX7_happens 38 = .ok (.aload_n 0, 1) := by decide +kernel
theorem dX7_happens_39 : decode cX7_happens 39 = .ok (.getfield 53, 3) := by decide +kernel
theorem dX7_happens_42 : decode cX7_happens 42 = .ok (.iload 4, 2) := by decide +kernel
theorem dX7_happens_44 : decode cX7_happens 44 = .ok (.iaload, 1) := by decide +kernel
theorem dX7_happens_45 : decode cX7_happens 45 = .ok (.iload 6, 2) := by decide +kernel
theorem dX7_happens_47 : decode cX7_happens 47 = .ok (.aload_n 0, 1) := by decide +kernel
theorem dX7_happens_48 : decode cX7_happens 48 = .ok (.getfield 7, 3) := by decide +kernel
theorem dX7_happens_51 : decode cX7_happens 51 = .ok (.bipush 7, 2) := by decide +kernel
theorem dX7_happens_53 : decode cX7_happens 53 = .ok (.iaload, 1) := by decide +kernel
theorem dX7_happens_54 : decode cX7_happens 54 = .ok (.isub, 1) := by decide +kernel
theorem dX7_happens_55 : decode cX7_happens 55 = .ok (.if_icmp .ge 7, 3) := by decide +kernel
theorem dX7_happens_58 : decode cX7_happens 58 = .ok (.iconst 1, 1) := by decide +kernel
theorem dX7_happens_59 : decode cX7_happens 59 = .ok (.goto 4, 3) := by decide +kernel
theorem dX7_happens_62 : decode cX7_happens 62 = .ok (.iconst 0, 1) := by decide +kernel
theorem dX7_happens_63 : decode cX7_happens 63 = .ok (.istore 7, 2) := by decide +kernel
theorem dX7_happens_65 : decode cX7_happens 65 = .ok (.aload_n 0, 1) := by decide +kernel
theorem dX7_happens_66 : decode cX7_happens 66 = .ok (.iload_n 1, 1) := by decide +kernel
theorem dX7_happens_67 : decode cX7_happens 67 = .ok (.iload_n 2, 1) := by decide +kernel
theorem dX7_happens_68 : decode cX7_happens 68 = .ok (.invokevirtual 140, 3) := by decide +kernel
theorem dX7_happens_71 : decode cX7_happens 71 = .ok (.iload 7, 2) := by decide +kernel
theorem dX7_happens_73 : decode cX7_happens 73 = .ok (.ifCond .eq 7, 3) := by decide +kernel
theorem dX7_happens_76 : decode cX7_happens 76 = .ok (.iconst 0, 1) := by decide +kernel
theorem dX7_happens_77 : decode cX7_happens 77 = .ok (.goto 9, 3) := by decide +kernel
theorem dX7_happens_80 : decode cX7_happens 80 = .ok (.aload_n 0, 1) := by decide +kernel
theorem dX7_happens_81 : decode cX7_happens 81 = .ok (.getfield 7, 3) := by decide +kernel
theorem dX7_happens_84 : decode cX7_happens 84 = .ok (.iload_n 3, 1) := by decide +kernel
theorem dX7_happens_85 : decode cX7_happens 85 = .ok (.iaload, 1) := by decide +kernel
theorem dX7_happens_86 : decode cX7_happens 86 = .ok (.iadd, 1) := by decide +kernel
theorem dX7_happens_87 : decode cX7_happens 87 = .ok (.istore 8, 2) := by decide +kernel
theorem dX7_happens_89 : decode cX7_happens 89 = .ok (.aload_n 0, 1) := by decide +kernel
theorem dX7_happens_90 : decode cX7_happens 90 = .ok (.getfield 31, 3) := by decide +kernel
theorem dX7_happens_93 : decode cX7_happens 93 = .ok (.iload 5, 2) := by decide +kernel
theorem dX7_happens_95 : decode cX7_happens 95 = .ok (.iload 8, 2) := by decide +kernel
theorem dX7_happens_97 : decode cX7_happens 97 = .ok (.aload_n 0, 1) := by decide +kernel
theorem dX7_happens_98 : decode cX7_happens 98 = .ok (.getfield 7, 3) := by decide +kernel
theorem dX7_happens_101 : decode cX7_happens 101 = .ok (.bipush 6, 2) := by decide +kernel
theorem dX7_happens_103 : decode cX7_happens 103 = .ok (.iaload, 1) := by decide +kernel
theorem dX7_happens_104 : decode cX7_happens 104 = .ok (.if_icmp .le 13, 3) := by decide +kernel
theorem dX7_happens_107 : decode cX7_happens 107 = .ok (.aload_n 0, 1) := by decide +kernel
theorem dX7_happens_108 : decode cX7_happens 108 = .ok (.getfield 7, 3) := by decide +kernel
theorem dX7_happens_111 : decode cX7_happens 111 = .ok (.bipush 6, 2) := by decide +kernel
theorem dX7_happens_113 : decode cX7_happens 113 = .ok (.iaload, 1) := by decide +kernel
theorem dX7_happens_114 : decode cX7_happens 114 = .ok (.goto 5, 3) := by decide +kernel
theorem dX7_happens_117 : decode cX7_happens 117 = .ok (.iload 8, 2) := by decide +kernel
theorem dX7_happens_119 : decode cX7_happens 119 = .ok (.iastore, 1) := by decide +kernel
theorem dX7_happens_120 : decode cX7_happens 120 = .ok (.aload_n 0, 1) := by decide +kernel
theorem dX7_happens_121 : decode cX7_happens 121 = .ok (.getfield 34, 3) := by decide +kernel
theorem dX7_happens_124 : decode cX7_happens 124 = .ok (.iload 5, 2) := by decide +kernel
theorem dX7_happens_126 : decode cX7_happens 126 = .ok (.iload 6, 2) := by decide +kernel
theorem dX7_happens_128 : decode cX7_happens 128 = .ok (.iastore, 1) := by decide +kernel
theorem dX7_happens_129 : decode cX7_happens 129 = .ok (.aload_n 0, 1) := by decide +kernel
theorem dX7_happens_130 : decode cX7_happens 130 = .ok (.getfield 41, 3) := by decide +kernel
theorem dX7_happens_133 : decode cX7_happens 133 = .ok (.iload 4, 2) := by decide +kernel
theorem dX7_happens_135 : decode cX7_happens 135 = .ok (.iload_n 3, 1) := by decide +kernel
theorem dX7_happens_136 : decode cX7_happens 136 = .ok (.iconst 2, 1) := by decide +kernel
theorem dX7_happens_137 : decode cX7_happens 137 = .ok (.if_icmp .ne 13, 3) := by decide +kernel
theorem dX7_happens_140 : decode cX7_happens 140 = .ok (.aload_n 0, 1) := by decide +kernel
theorem dX7_happens_141 : decode cX7_happens 141 = .ok (.getfield 41, 3) := by decide +kernel
theorem dX7_happens_144 : decode cX7_happens 144 = .ok (.iload 4, 2) := by decide +kernel
theorem dX7_happens_146 : decode cX7_happens 146 = .ok (.baload, 1) := by decide +kernel
theorem dX7_happens_147 : decode cX7_happens 147 = .ok (.goto 13, 3) := by decide +kernel
theorem dX7_happens_150 : decode cX7_happens 150 = .ok (.iload_n 3, 1) := by decide +kernel
theorem dX7_happens_151 : decode cX7_happens 151 = .ok (.iconst 1, 1) := by decide +kernel
theorem dX7_happens_152 : decode cX7_happens 152 = .ok (.if_icmp .ne 7, 3) := by decide +kernel
theorem dX7_happens_155 : decode cX7_happens 155 = .ok (.iconst 1, 1) := by decide +kernel
theorem dX7_happens_156 : decode cX7_happens 156 = .ok (.goto 4, 3) := by decide +kernel
theorem dX7_happens_159 : decode cX7_happens 159 = .ok (.iconst 0, 1) := by decide +kernel
theorem dX7_happens_160 : decode cX7_happens 160 = .ok (.bastore, 1) := by decide +kernel
theorem dX7_happens_161 : decode cX7_happens 161 = .ok (.aload_n 0, 1) := by decide +kernel
theorem dX7_happens_162 : decode cX7_happens 162 = .ok (.getfield 53, 3) := by decide +kernel
theorem dX7_happens_165 : decode cX7_happens 165 = .ok (.iload 4, 2) := by decide +kernel
theorem dX7_happens_167 : decode cX7_happens 167 = .ok (.iload 6, 2) := by decide +kernel
theorem dX7_happens_169 : decode cX7_happens 169 = .ok (.iastore, 1) := by decide +kernel
theorem dX7_happens_170 : decode cX7_happens 170 = .ok (.aload_n 0, 1) := by decide +kernel
theorem dX7_happens_171 : decode cX7_happens 171 = .ok (.getfield 37, 3) := by decide +kernel
theorem dX7_happens_174 : decode cX7_happens 174 = .ok (.iload 5, 2) := by decide +kernel
theorem dX7_happens_176 : decode cX7_happens 176 = .ok (.aload_n 0, 1) := by decide +kernel
theorem dX7_happens_177 : decode cX7_happens 177 = .ok (.getfield 37, 3) := by decide +kernel
theorem dX7_happens_180 : decode cX7_happens 180 = .ok (.iload 5, 2) := by decide +kernel
theorem dX7_happens_182 : decode cX7_happens 182 = .ok (.baload, 1) := by decide +kernel
theorem dX7_happens_183 : decode cX7_happens 183 = .ok (.ifCond .ne 19, 3) := by decide +kernel
theorem dX7_happens_186 : decode cX7_happens 186 = .ok (.aload_n 0, 1) := by decide +kernel
theorem dX7_happens_187 : decode cX7_happens 187 = .ok (.getfield 31, 3) := by decide +kernel
theorem dX7_happens_190 : decode cX7_happens 190 = .ok (.iload 5, 2) := by decide +kernel
theorem dX7_happens_192 : decode cX7_happens 192 = .ok (.iaload, 1) := by decide +kernel
theorem dX7_happens_193 : decode cX7_happens 193 = .ok (.aload_n 0, 1) := by decide +kernel
theorem dX7_happens_194 : decode cX7_happens 194 = .ok (.getfield 25, 3) := by decide +kernel
theorem dX7_happens_197 : decode cX7_happens 197 = .ok (.iload_n 1, 1) := by decide +kernel
theorem dX7_happens_198 : decode cX7_happens 198 = .ok (.iaload, 1) := by decide +kernel
theorem dX7_happens_199 : decode cX7_happens 199 = .ok (.if_icmp .le 7, 3) := by decide +kernel
theorem dX7_happens_202 : decode cX7_happens 202 = .ok (.iconst 1, 1) := by decide +kernel
theorem dX7_happens_203 : decode cX7_happens 203 = .ok (.goto 4, 3) := by decide +kernel
theorem dX7_happens_206 : decode cX7_happens 206 = .ok (.iconst 0, 1) := by decide +kernel
theorem dX7_happens_207 : decode cX7_happens 207 = .ok (.bastore, 1) := by decide +kernel
theorem dX7_happens_208 : decode cX7_happens 208 = .ok (.aload_n 0, 1) := by decide +kernel
theorem dX7_happens_209 : decode cX7_happens 209 = .ok (.iload_n 1, 1) := by decide +kernel
theorem dX7_happens_210 : decode cX7_happens 210 = .ok (.invokevirtual 143, 3) := by decide +kernel
theorem dX7_happens_213 : decode cX7_happens 213 = .ok (.return_, 1) := by decide +kernel
theorem dX7_logs_0 : decode cX7_logs 0 = .ok (.aload_n 0, 1) := by decide +kernel
theorem dX7_logs_1 : decode cX7_logs 1 = .ok (.getfield 56, 3) := by decide +kernel
theorem dX7_logs_4 : decode cX7_logs 4 = .ok (.aload_n 0, 1) := by decide +kernel
theorem dX7_logs_5 : decode cX7_logs 5 = .ok (.getfield 147, 3) := by decide +kernel
theorem dX7_logs_8 : decode cX7_logs 8 = .ok (.iload_n 1, 1) := by decide +kernel
theorem dX7_logs_9 : decode cX7_logs 9 = .ok (.iastore, 1) := by decide +kernel
theorem dX7_logs_10 : decode cX7_logs 10 = .ok (.aload_n 0, 1) := by decide +kernel
theorem dX7_logs_11 : decode cX7_logs 11 = .ok (.getfield 59, 3) := by decide +kernel
theorem dX7_logs_14 : decode cX7_logs 14 = .ok (.aload_n 0, 1) := by decide +kernel
theorem dX7_logs_15 : decode cX7_logs 15 = .ok (.getfield 147, 3) := by decide +kernel
theorem dX7_logs_18 : decode cX7_logs 18 = .ok (.iload_n 2, 1) := by decide +kernel
theorem dX7_logs_19 : decode cX7_logs 19 = .ok (.iastore, 1) := by decide +kernel
theorem dX7_logs_20 : decode cX7_logs 20 = .ok (.aload_n 0, 1) := by decide +kernel
theorem dX7_logs_21 : decode cX7_logs 21 = .ok (.getfield 62, 3) := by decide +kernel
theorem dX7_logs_24 : decode cX7_logs 24 = .ok (.aload_n 0, 1) := by decide +kernel
theorem dX7_logs_25 : decode cX7_logs 25 = .ok (.getfield 147, 3) := by decide +kernel
theorem dX7_logs_28 : decode cX7_logs 28 = .ok (.aload_n 0, 1) := by decide +kernel
theorem dX7_logs_29 : decode cX7_logs 29 = .ok (.getfield 22, 3) := by decide +kernel
theorem dX7_logs_32 : decode cX7_logs 32 = .ok (.iconst 0, 1) := by decide +kernel
theorem dX7_logs_33 : decode cX7_logs 33 = .ok (.iaload, 1) := by decide +kernel
theorem dX7_logs_34 : decode cX7_logs 34 = .ok (.iastore, 1) := by decide +kernel
theorem dX7_logs_35 : decode cX7_logs 35 = .ok (.aload_n 0, 1) := by decide +kernel
theorem dX7_logs_36 : decode cX7_logs 36 = .ok (.dup, 1) := by decide +kernel
theorem dX7_logs_37 : decode cX7_logs 37 = .ok (.getfield 147, 3) := by decide +kernel
theorem dX7_logs_40 : decode cX7_logs 40 = .ok (.iconst 1, 1) := by decide +kernel
theorem dX7_logs_41 : decode cX7_logs 41 = .ok (.iadd, 1) := by decide +kernel
theorem dX7_logs_42 : decode cX7_logs 42 = .ok (.putfield 147, 3) := by decide +kernel
theorem dX7_logs_45 : decode cX7_logs 45 = .ok (.aload_n 0, 1) := by decide +kernel
theorem dX7_logs_46 : decode cX7_logs 46 = .ok (.iconst 0, 1) := by decide +kernel
theorem dX7_logs_47 : decode cX7_logs 47 = .ok (.iload_n 1, 1) := by decide +kernel
theorem dX7_logs_48 : decode cX7_logs 48 = .ok (.iload_n 2, 1) := by decide +kernel
theorem dX7_logs_49 : decode cX7_logs 49 = .ok (.invokevirtual 150, 3) := by decide +kernel
theorem dX7_logs_52 : decode cX7_logs 52 = .ok (.return_, 1) := by decide +kernel
theorem dX7_isLine_0 : decode cX7_isLine 0 = .ok (.iload_n 1, 1) := by decide +kernel
theorem dX7_isLine_1 : decode cX7_isLine 1 = .ok (.iconst 0, 1) := by decide +kernel
theorem dX7_isLine_2 : decode cX7_isLine 2 = .ok (.aload_n 0, 1) := by decide +kernel
theorem dX7_isLine_3 : decode cX7_isLine 3 = .ok (.getfield 115, 3) := by decide +kernel
theorem dX7_isLine_6 : decode cX7_isLine 6 = .ok (.iconst 1, 1) := by decide +kernel
theorem dX7_isLine_7 : decode cX7_isLine 7 = .ok (.isub, 1) := by decide +kernel
theorem dX7_isLine_8 : decode cX7_isLine 8 = .ok (.invokestatic 124, 3) := by decide +kernel
theorem dX7_isLine_11 : decode cX7_isLine 11 = .ok (.ireturn, 1) := by decide +kernel
theorem dX7_change_0 : decode cX7_change 0 = .ok (.aload_n 0, 1) := by decide +kernel
theorem dX7_change_1 : decode cX7_change 1 = .ok (.iload_n 1, 1) := by decide +kernel
theorem dX7_change_2 : decode cX7_change 2 = .ok (.invokevirtual 154, 3) := by decide +kernel
theorem dX7_change_5 : decode cX7_change 5 = .ok (.ifCond .ne 6, 3) := by decide +kernel
theorem dX7_change_8 : decode cX7_change 8 = .ok (.bipush (-2), 2) := by decide +kernel
theorem dX7_change_10 : decode cX7_change 10 = .ok (.ireturn, 1) := by decide +kernel
theorem dX7_change_11 : decode cX7_change 11 = .ok (.aload_n 0, 1) := by decide +kernel
theorem dX7_change_12 : decode cX7_change 12 = .ok (.getfield 41, 3) := by decide +kernel
theorem dX7_change_15 : decode cX7_change 15 = .ok (.iload_n 1, 1) := by decide +kernel
theorem dX7_change_16 : decode cX7_change 16 = .ok (.baload, 1) := by decide +kernel
theorem dX7_change_17 : decode cX7_change 17 = .ok (.iload_n 2, 1) := by decide +kernel
theorem dX7_change_18 : decode cX7_change 18 = .ok (.if_icmp .ne 6, 3) := by decide +kernel
theorem dX7_change_21 : decode cX7_change 21 = .ok (.bipush (-3), 2) := by decide +kernel
theorem dX7_change_23 : decode cX7_change 23 = .ok (.ireturn, 1) := by decide +kernel
theorem dX7_change_24 : decode cX7_change 24 = .ok (.aload_n 0, 1) := by decide +kernel
theorem dX7_change_25 : decode cX7_change 25 = .ok (.getfield 147, 3) := by decide +kernel
theorem dX7_change_28 : decode cX7_change 28 = .ok (.sipush 300, 3) := by decide +kernel
theorem dX7_change_31 : decode cX7_change 31 = .ok (.if_icmp .ne 6, 3) := by decide +kernel
theorem dX7_change_34 : decode cX7_change 34 = .ok (.bipush (-4), 2) := by decide +kernel
theorem dX7_change_36 : decode cX7_change 36 = .ok (.ireturn, 1) := by decide +kernel
theorem dX7_change_37 : decode cX7_change 37 = .ok (.aload_n 0, 1) := by decide +kernel
theorem dX7_change_38 : decode cX7_change 38 = .ok (.iload_n 1, 1) := by decide +kernel
theorem dX7_change_39 : decode cX7_change 39 = .ok (.iload_n 2, 1) := by decide +kernel
theorem dX7_change_40 : decode cX7_change 40 = .ok (.ifCond .eq 7, 3) := by decide +kernel
theorem dX7_change_43 : decode cX7_change 43 = .ok (.iconst 1, 1) := by decide +kernel
theorem dX7_change_44 : decode cX7_change 44 = .ok (.goto 4, 3) := by decide +kernel
theorem dX7_change_47 : decode cX7_change 47 = .ok (.iconst 0, 1) := by decide +kernel
theorem dX7_change_48 : decode cX7_change 48 = .ok (.invokevirtual 158, 3) := by decide +kernel
theorem dX7_change_51 : decode cX7_change 51 = .ok (.aload_n 0, 1) := by decide +kernel
theorem dX7_change_52 : decode cX7_change 52 = .ok (.iconst 0, 1) := by decide +kernel
theorem dX7_change_53 : decode cX7_change 53 = .ok (.iload_n 1, 1) := by decide +kernel
theorem dX7_change_54 : decode cX7_change 54 = .ok (.invokevirtual 140, 3) := by decide +kernel
theorem dX7_change_57 : decode cX7_change 57 = .ok (.ireturn, 1) := by decide +kernel
theorem dX7_echo_0 : decode cX7_echo 0 = .ok (.aload_n 0, 1) := by decide +kernel
theorem dX7_echo_1 : decode cX7_echo 1 = .ok (.iload_n 1, 1) := by decide +kernel
theorem dX7_echo_2 : decode cX7_echo 2 = .ok (.invokevirtual 154, 3) := by decide +kernel
theorem dX7_echo_5 : decode cX7_echo 5 = .ok (.ifCond .ne 6, 3) := by decide +kernel
theorem dX7_echo_8 : decode cX7_echo 8 = .ok (.bipush (-2), 2) := by decide +kernel
theorem dX7_echo_10 : decode cX7_echo 10 = .ok (.ireturn, 1) := by decide +kernel
theorem dX7_echo_11 : decode cX7_echo 11 = .ok (.aload_n 0, 1) := by decide +kernel
theorem dX7_echo_12 : decode cX7_echo 12 = .ok (.getfield 147, 3) := by decide +kernel
theorem dX7_echo_15 : decode cX7_echo 15 = .ok (.sipush 300, 3) := by decide +kernel
theorem dX7_echo_18 : decode cX7_echo 18 = .ok (.if_icmp .ne 6, 3) := by decide +kernel
theorem dX7_echo_21 : decode cX7_echo 21 = .ok (.bipush (-4), 2) := by decide +kernel
theorem dX7_echo_23 : decode cX7_echo 23 = .ok (.ireturn, 1) := by decide +kernel
theorem dX7_echo_24 : decode cX7_echo 24 = .ok (.aload_n 0, 1) := by decide +kernel
theorem dX7_echo_25 : decode cX7_echo 25 = .ok (.iload_n 1, 1) := by decide +kernel
theorem dX7_echo_26 : decode cX7_echo 26 = .ok (.iconst 2, 1) := by decide +kernel
theorem dX7_echo_27 : decode cX7_echo 27 = .ok (.invokevirtual 158, 3) := by decide +kernel
theorem dX7_echo_30 : decode cX7_echo 30 = .ok (.aload_n 0, 1) := by decide +kernel
theorem dX7_echo_31 : decode cX7_echo 31 = .ok (.iconst 0, 1) := by decide +kernel
theorem dX7_echo_32 : decode cX7_echo 32 = .ok (.iload_n 1, 1) := by decide +kernel
theorem dX7_echo_33 : decode cX7_echo 33 = .ok (.invokevirtual 140, 3) := by decide +kernel
theorem dX7_echo_36 : decode cX7_echo 36 = .ok (.ireturn, 1) := by decide +kernel
theorem dX7_ticks_0 : decode cX7_ticks 0 = .ok (.aload_n 0, 1) := by decide +kernel
theorem dX7_ticks_1 : decode cX7_ticks 1 = .ok (.getfield 22, 3) := by decide +kernel
theorem dX7_ticks_4 : decode cX7_ticks 4 = .ok (.iload_n 1, 1) := by decide +kernel
theorem dX7_ticks_5 : decode cX7_ticks 5 = .ok (.dup2, 1) := by decide +kernel
theorem dX7_ticks_6 : decode cX7_ticks 6 = .ok (.iaload, 1) := by decide +kernel
theorem dX7_ticks_7 : decode cX7_ticks 7 = .ok (.iconst 1, 1) := by decide +kernel
theorem dX7_ticks_8 : decode cX7_ticks 8 = .ok (.iadd, 1) := by decide +kernel
theorem dX7_ticks_9 : decode cX7_ticks 9 = .ok (.iastore, 1) := by decide +kernel
theorem dX7_ticks_10 : decode cX7_ticks 10 = .ok (.bipush 16, 2) := by decide +kernel
theorem dX7_ticks_12 : decode cX7_ticks 12 = .ok (.iload_n 1, 1) := by decide +kernel
theorem dX7_ticks_13 : decode cX7_ticks 13 = .ok (.imul, 1) := by decide +kernel
theorem dX7_ticks_14 : decode cX7_ticks 14 = .ok (.istore_n 2, 1) := by decide +kernel
theorem dX7_ticks_15 : decode cX7_ticks 15 = .ok (.iload_n 2, 1) := by decide +kernel
theorem dX7_ticks_16 : decode cX7_ticks 16 = .ok (.bipush 16, 2) := by decide +kernel
theorem dX7_ticks_18 : decode cX7_ticks 18 = .ok (.iload_n 1, 1) := by decide +kernel
theorem dX7_ticks_19 : decode cX7_ticks 19 = .ok (.imul, 1) := by decide +kernel
theorem dX7_ticks_20 : decode cX7_ticks 20 = .ok (.bipush 16, 2) := by decide +kernel
theorem dX7_ticks_22 : decode cX7_ticks 22 = .ok (.iadd, 1) := by decide +kernel
theorem dX7_ticks_23 : decode cX7_ticks 23 = .ok (.if_icmp .ge 57, 3) := by decide +kernel
theorem dX7_ticks_26 : decode cX7_ticks 26 = .ok (.aload_n 0, 1) := by decide +kernel
theorem dX7_ticks_27 : decode cX7_ticks 27 = .ok (.getfield 37, 3) := by decide +kernel
theorem dX7_ticks_30 : decode cX7_ticks 30 = .ok (.iload_n 2, 1) := by decide +kernel
theorem dX7_ticks_31 : decode cX7_ticks 31 = .ok (.baload, 1) := by decide +kernel
theorem dX7_ticks_32 : decode cX7_ticks 32 = .ok (.ifCond .eq 42, 3) := by decide +kernel
theorem dX7_ticks_35 : decode cX7_ticks 35 = .ok (.aload_n 0, 1) := by decide +kernel
theorem dX7_ticks_36 : decode cX7_ticks 36 = .ok (.aload_n 0, 1) := by decide +kernel
theorem dX7_ticks_37 : decode cX7_ticks 37 = .ok (.getfield 31, 3) := by decide +kernel
theorem dX7_ticks_40 : decode cX7_ticks 40 = .ok (.iload_n 2, 1) := by decide +kernel
theorem dX7_ticks_41 : decode cX7_ticks 41 = .ok (.iaload, 1) := by decide +kernel
theorem dX7_ticks_42 : decode cX7_ticks 42 = .ok (.aload_n 0, 1) := by decide +kernel
theorem dX7_ticks_43 : decode cX7_ticks 43 = .ok (.getfield 22, 3) := by decide +kernel
theorem dX7_ticks_46 : decode cX7_ticks 46 = .ok (.iload_n 1, 1) := by decide +kernel
theorem dX7_ticks_47 : decode cX7_ticks 47 = .ok (.iaload, 1) := by decide +kernel
theorem dX7_ticks_48 : decode cX7_ticks 48 = .ok (.aload_n 0, 1) := by decide +kernel
theorem dX7_ticks_49 : decode cX7_ticks 49 = .ok (.getfield 34, 3) := by decide +kernel
theorem dX7_ticks_52 : decode cX7_ticks 52 = .ok (.iload_n 2, 1) := by decide +kernel
theorem dX7_ticks_53 : decode cX7_ticks 53 = .ok (.iaload, 1) := by decide +kernel
theorem dX7_ticks_54 : decode cX7_ticks 54 = .ok (.isub, 1) := by decide +kernel
theorem dX7_ticks_55 : decode cX7_ticks 55 = .ok (.invokevirtual 112, 3) := by decide +kernel
theorem dX7_ticks_58 : decode cX7_ticks 58 = .ok (.aload_n 0, 1) := by decide +kernel
theorem dX7_ticks_59 : decode cX7_ticks 59 = .ok (.getfield 28, 3) := by decide +kernel
theorem dX7_ticks_62 : decode cX7_ticks 62 = .ok (.iload_n 1, 1) := by decide +kernel
theorem dX7_ticks_63 : decode cX7_ticks 63 = .ok (.iaload, 1) := by decide +kernel
theorem dX7_ticks_64 : decode cX7_ticks 64 = .ok (.if_icmp .ge 10, 3) := by decide +kernel
theorem dX7_ticks_67 : decode cX7_ticks 67 = .ok (.aload_n 0, 1) := by decide +kernel
theorem dX7_ticks_68 : decode cX7_ticks 68 = .ok (.getfield 37, 3) := by decide +kernel
theorem dX7_ticks_71 : decode cX7_ticks 71 = .ok (.iload_n 2, 1) := by decide +kernel
theorem dX7_ticks_72 : decode cX7_ticks 72 = .ok (.iconst 0, 1) := by decide +kernel
theorem dX7_ticks_73 : decode cX7_ticks 73 = .ok (.bastore, 1) := by decide +kernel
theorem dX7_ticks_74 : decode cX7_ticks 74 = .ok (.iinc 2 1, 3) := by decide +kernel
theorem dX7_ticks_77 : decode cX7_ticks 77 = .ok (.goto (-62), 3) := by decide +kernel
theorem dX7_ticks_80 : decode cX7_ticks 80 = .ok (.iconst 0, 1) := by decide +kernel
theorem dX7_ticks_81 : decode cX7_ticks 81 = .ok (.istore_n 2, 1) := by decide +kernel
theorem dX7_ticks_82 : decode cX7_ticks 82 = .ok (.iload_n 2, 1) := by decide +kernel
theorem dX7_ticks_83 : decode cX7_ticks 83 = .ok (.aload_n 0, 1) := by decide +kernel
theorem dX7_ticks_84 : decode cX7_ticks 84 = .ok (.getfield 115, 3) := by decide +kernel
theorem dX7_ticks_87 : decode cX7_ticks 87 = .ok (.if_icmp .ge 56, 3) := by decide +kernel
theorem dX7_ticks_90 : decode cX7_ticks 90 = .ok (.aload_n 0, 1) := by decide +kernel
theorem dX7_ticks_91 : decode cX7_ticks 91 = .ok (.getfield 50, 3) := by decide +kernel
theorem dX7_ticks_94 : decode cX7_ticks 94 = .ok (.bipush 12, 2) := by decide +kernel
theorem dX7_ticks_96 : decode cX7_ticks 96 = .ok (.iload_n 1, 1) := by decide +kernel
theorem dX7_ticks_97 : decode cX7_ticks 97 = .ok (.imul, 1) := by decide +kernel
theorem dX7_ticks_98 : decode cX7_ticks 98 = .ok (.iload_n 2, 1) := by decide +kernel
theorem dX7_ticks_99 : decode cX7_ticks 99 = .ok (.iadd, 1) := by decide +kernel
theorem dX7_ticks_100 : decode cX7_ticks 100 = .ok (.dup2, 1) := by decide +kernel
theorem dX7_ticks_101 : decode cX7_ticks 101 = .ok (.iaload, 1) := by decide +kernel
theorem dX7_ticks_102 : decode cX7_ticks 102 = .ok (.aload_n 0, 1) := by decide +kernel
theorem dX7_ticks_103 : decode cX7_ticks 103 = .ok (.getfield 41, 3) := by decide +kernel
theorem dX7_ticks_106 : decode cX7_ticks 106 = .ok (.bipush 12, 2) := by decide +kernel
theorem dX7_ticks_108 : decode cX7_ticks 108 = .ok (.iload_n 1, 1) := by decide +kernel
theorem dX7_ticks_109 : decode cX7_ticks 109 = .ok (.imul, 1) := by decide +kernel
theorem dX7_ticks_110 : decode cX7_ticks 110 = .ok (.iload_n 2, 1) := by decide +kernel
theorem dX7_ticks_111 : decode cX7_ticks 111 = .ok (.iadd, 1) := by decide +kernel
theorem dX7_ticks_112 : decode cX7_ticks 112 = .ok (.baload, 1) := by decide +kernel
theorem dX7_ticks_113 : decode cX7_ticks 113 = .ok (.ifCond .eq 21, 3) := by decide +kernel
theorem dX7_ticks_116 : decode cX7_ticks 116 = .ok (.aload_n 0, 1) := by decide +kernel
theorem dX7_ticks_117 : decode cX7_ticks 117 = .ok (.getfield 37, 3) := by decide +kernel
theorem dX7_ticks_120 : decode cX7_ticks 120 = .ok (.aload_n 0, 1) := by decide +kernel
theorem dX7_ticks_121 : decode cX7_ticks 121 = .ok (.iload_n 1, 1) := by decide +kernel
theorem dX7_ticks_122 : decode cX7_ticks 122 = .ok (.iload_n 2, 1) := by decide +kernel
theorem dX7_ticks_123 : decode cX7_ticks 123 = .ok (.invokevirtual 108, 3) := by decide +kernel
theorem dX7_ticks_126 : decode cX7_ticks 126 = .ok (.baload, 1) := by decide +kernel
theorem dX7_ticks_127 : decode cX7_ticks 127 = .ok (.ifCond .eq 7, 3) := by decide +kernel
theorem dX7_ticks_130 : decode cX7_ticks 130 = .ok (.iconst 1, 1) := by decide +kernel
theorem dX7_ticks_131 : decode cX7_ticks 131 = .ok (.goto 4, 3) := by decide +kernel
theorem dX7_ticks_134 : decode cX7_ticks 134 = .ok (.iconst 0, 1) := by decide +kernel
theorem dX7_ticks_135 : decode cX7_ticks 135 = .ok (.iadd, 1) := by decide +kernel
theorem dX7_ticks_136 : decode cX7_ticks 136 = .ok (.iastore, 1) := by decide +kernel
theorem dX7_ticks_137 : decode cX7_ticks 137 = .ok (.iinc 2 1, 3) := by decide +kernel
theorem dX7_ticks_140 : decode cX7_ticks 140 = .ok (.goto (-58), 3) := by decide +kernel
theorem dX7_ticks_143 : decode cX7_ticks 143 = .ok (.aload_n 0, 1) := by decide +kernel
theorem dX7_ticks_144 : decode cX7_ticks 144 = .ok (.iload_n 1, 1) := by decide +kernel
theorem dX7_ticks_145 : decode cX7_ticks 145 = .ok (.invokevirtual 143, 3) := by decide +kernel
theorem dX7_ticks_148 : decode cX7_ticks 148 = .ok (.return_, 1) := by decide +kernel
theorem dX7_tick_0 : decode cX7_tick 0 = .ok (.iload_n 1, 1) := by decide +kernel
theorem dX7_tick_1 : decode cX7_tick 1 = .ok (.iconst 1, 1) := by decide +kernel
theorem dX7_tick_2 : decode cX7_tick 2 = .ok (.sipush 200, 3) := by decide +kernel
theorem dX7_tick_5 : decode cX7_tick 5 = .ok (.invokestatic 124, 3) := by decide +kernel
theorem dX7_tick_8 : decode cX7_tick 8 = .ok (.ifCond .ne 6, 3) := by decide +kernel
theorem dX7_tick_11 : decode cX7_tick 11 = .ok (.bipush (-2), 2) := by decide +kernel
theorem dX7_tick_13 : decode cX7_tick 13 = .ok (.ireturn, 1) := by decide +kernel
theorem dX7_tick_14 : decode cX7_tick 14 = .ok (.aload_n 0, 1) := by decide +kernel
theorem dX7_tick_15 : decode cX7_tick 15 = .ok (.getfield 22, 3) := by decide +kernel
theorem dX7_tick_18 : decode cX7_tick 18 = .ok (.iconst 0, 1) := by decide +kernel
theorem dX7_tick_19 : decode cX7_tick 19 = .ok (.iaload, 1) := by decide +kernel
theorem dX7_tick_20 : decode cX7_tick 20 = .ok (.iload_n 1, 1) := by decide +kernel
theorem dX7_tick_21 : decode cX7_tick 21 = .ok (.iadd, 1) := by decide +kernel
theorem dX7_tick_22 : decode cX7_tick 22 = .ok (.sipush 2000, 3) := by decide +kernel
theorem dX7_tick_25 : decode cX7_tick 25 = .ok (.if_icmp .le 6, 3) := by decide +kernel
theorem dX7_tick_28 : decode cX7_tick 28 = .ok (.bipush (-4), 2) := by decide +kernel
theorem dX7_tick_30 : decode cX7_tick 30 = .ok (.ireturn, 1) := by decide +kernel
theorem dX7_tick_31 : decode cX7_tick 31 = .ok (.iconst 0, 1) := by decide +kernel
theorem dX7_tick_32 : decode cX7_tick 32 = .ok (.istore_n 2, 1) := by decide +kernel
theorem dX7_tick_33 : decode cX7_tick 33 = .ok (.iload_n 2, 1) := by decide +kernel
theorem dX7_tick_34 : decode cX7_tick 34 = .ok (.iload_n 1, 1) := by decide +kernel
theorem dX7_tick_35 : decode cX7_tick 35 = .ok (.if_icmp .ge 14, 3) := by decide +kernel
theorem dX7_tick_38 : decode cX7_tick 38 = .ok (.aload_n 0, 1) := by decide +kernel
theorem dX7_tick_39 : decode cX7_tick 39 = .ok (.iconst 0, 1) := by decide +kernel
theorem dX7_tick_40 : decode cX7_tick 40 = .ok (.invokevirtual 161, 3) := by decide +kernel
theorem dX7_tick_43 : decode cX7_tick 43 = .ok (.iinc 2 1, 3) := by decide +kernel
theorem dX7_tick_46 : decode cX7_tick 46 = .ok (.goto (-13), 3) := by decide +kernel
theorem dX7_tick_49 : decode cX7_tick 49 = .ok (.aload_n 0, 1) := by decide +kernel
theorem dX7_tick_50 : decode cX7_tick 50 = .ok (.getfield 22, 3) := by decide +kernel
theorem dX7_tick_53 : decode cX7_tick 53 = .ok (.iconst 0, 1) := by decide +kernel
theorem dX7_tick_54 : decode cX7_tick 54 = .ok (.iaload, 1) := by decide +kernel
theorem dX7_tick_55 : decode cX7_tick 55 = .ok (.ireturn, 1) := by decide +kernel
theorem dX7_opensIn_0 : decode cX7_opensIn 0 = .ok (.aload_n 0, 1) := by decide +kernel
theorem dX7_opensIn_1 : decode cX7_opensIn 1 = .ok (.iconst 0, 1) := by decide +kernel
theorem dX7_opensIn_2 : decode cX7_opensIn 2 = .ok (.iload_n 1, 1) := by decide +kernel
theorem dX7_opensIn_3 : decode cX7_opensIn 3 = .ok (.invokevirtual 108, 3) := by decide +kernel
theorem dX7_opensIn_6 : decode cX7_opensIn 6 = .ok (.istore_n 2, 1) := by decide +kernel
theorem dX7_opensIn_7 : decode cX7_opensIn 7 = .ok (.aload_n 0, 1) := by decide +kernel
theorem dX7_opensIn_8 : decode cX7_opensIn 8 = .ok (.getfield 37, 3) := by decide +kernel
theorem dX7_opensIn_11 : decode cX7_opensIn 11 = .ok (.iload_n 2, 1) := by decide +kernel
theorem dX7_opensIn_12 : decode cX7_opensIn 12 = .ok (.baload, 1) := by decide +kernel
theorem dX7_opensIn_13 : decode cX7_opensIn 13 = .ok (.ifCond .ne 5, 3) := by decide +kernel
theorem dX7_opensIn_16 : decode cX7_opensIn 16 = .ok (.iconst 0, 1) := by decide +kernel
theorem dX7_opensIn_17 : decode cX7_opensIn 17 = .ok (.ireturn, 1) := by decide +kernel
theorem dX7_opensIn_18 : decode cX7_opensIn 18 = .ok (.iconst 1, 1) := by decide +kernel
theorem dX7_opensIn_19 : decode cX7_opensIn 19 = .ok (.istore_n 3, 1) := by decide +kernel
theorem dX7_opensIn_20 : decode cX7_opensIn 20 = .ok (.aload_n 0, 1) := by decide +kernel
theorem dX7_opensIn_21 : decode cX7_opensIn 21 = .ok (.aload_n 0, 1) := by decide +kernel
theorem dX7_opensIn_22 : decode cX7_opensIn 22 = .ok (.getfield 31, 3) := by decide +kernel
theorem dX7_opensIn_25 : decode cX7_opensIn 25 = .ok (.iload_n 2, 1) := by decide +kernel
theorem dX7_opensIn_26 : decode cX7_opensIn 26 = .ok (.iaload, 1) := by decide +kernel
theorem dX7_opensIn_27 : decode cX7_opensIn 27 = .ok (.aload_n 0, 1) := by decide +kernel
theorem dX7_opensIn_28 : decode cX7_opensIn 28 = .ok (.getfield 22, 3) := by decide +kernel
theorem dX7_opensIn_31 : decode cX7_opensIn 31 = .ok (.iconst 0, 1) := by decide +kernel
theorem dX7_opensIn_32 : decode cX7_opensIn 32 = .ok (.iaload, 1) := by decide +kernel
theorem dX7_opensIn_33 : decode cX7_opensIn 33 = .ok (.aload_n 0, 1) := by decide +kernel
theorem dX7_opensIn_34 : decode cX7_opensIn 34 = .ok (.getfield 34, 3) := by decide +kernel
theorem dX7_opensIn_37 : decode cX7_opensIn 37 = .ok (.iload_n 2, 1) := by decide +kernel
theorem dX7_opensIn_38 : decode cX7_opensIn 38 = .ok (.iaload, 1) := by decide +kernel
theorem dX7_opensIn_39 : decode cX7_opensIn 39 = .ok (.isub, 1) := by decide +kernel
theorem dX7_opensIn_40 : decode cX7_opensIn 40 = .ok (.iload_n 3, 1) := by decide +kernel
theorem dX7_opensIn_41 : decode cX7_opensIn 41 = .ok (.iadd, 1) := by decide +kernel
theorem dX7_opensIn_42 : decode cX7_opensIn 42 = .ok (.invokevirtual 112, 3) := by decide +kernel
theorem dX7_opensIn_45 : decode cX7_opensIn 45 = .ok (.aload_n 0, 1) := by decide +kernel
theorem dX7_opensIn_46 : decode cX7_opensIn 46 = .ok (.getfield 7, 3) := by decide +kernel
theorem dX7_opensIn_49 : decode cX7_opensIn 49 = .ok (.iconst 5, 1) := by decide +kernel
theorem dX7_opensIn_50 : decode cX7_opensIn 50 = .ok (.iaload, 1) := by decide +kernel
theorem dX7_opensIn_51 : decode cX7_opensIn 51 = .ok (.if_icmp .lt 9, 3) := by decide +kernel
theorem dX7_opensIn_54 : decode cX7_opensIn 54 = .ok (.iinc 3 1, 3) := by decide +kernel
theorem dX7_opensIn_57 : decode cX7_opensIn 57 = .ok (.goto (-37), 3) := by decide +kernel
theorem dX7_opensIn_60 : decode cX7_opensIn 60 = .ok (.iload_n 3, 1) := by decide +kernel
theorem dX7_opensIn_61 : decode cX7_opensIn 61 = .ok (.ireturn, 1) := by decide +kernel
theorem dX7_aboutOf_0 : decode cX7_aboutOf 0 = .ok (.iload_n 2, 1) := by decide +kernel
theorem dX7_aboutOf_1 : decode cX7_aboutOf 1 = .ok (.tableswitch 131 0 7 #[47, 54, 69, 89, 104, 111, 118, 125], 47) := by decide +kernel
theorem dX7_aboutOf_48 : decode cX7_aboutOf 48 = .ok (.aload_n 0, 1) := by decide +kernel
theorem dX7_aboutOf_49 : decode cX7_aboutOf 49 = .ok (.iconst 0, 1) := by decide +kernel
theorem dX7_aboutOf_50 : decode cX7_aboutOf 50 = .ok (.iload_n 1, 1) := by decide +kernel
theorem dX7_aboutOf_51 : decode cX7_aboutOf 51 = .ok (.invokevirtual 140, 3) := by decide +kernel
theorem dX7_aboutOf_54 : decode cX7_aboutOf 54 = .ok (.ireturn, 1) := by decide +kernel
theorem dX7_aboutOf_55 : decode cX7_aboutOf 55 = .ok (.aload_n 0, 1) := by decide +kernel
theorem dX7_aboutOf_56 : decode cX7_aboutOf 56 = .ok (.getfield 41, 3) := by decide +kernel
theorem dX7_aboutOf_59 : decode cX7_aboutOf 59 = .ok (.iload_n 1, 1) := by decide +kernel
theorem dX7_aboutOf_60 : decode cX7_aboutOf 60 = .ok (.baload, 1) := by decide +kernel
theorem dX7_aboutOf_61 : decode cX7_aboutOf 61 = .ok (.ifCond .eq 7, 3) := by decide +kernel
theorem dX7_aboutOf_64 : decode cX7_aboutOf 64 = .ok (.iconst 1, 1) := by decide +kernel
theorem dX7_aboutOf_65 : decode cX7_aboutOf 65 = .ok (.goto 4, 3) := by decide +kernel
theorem dX7_aboutOf_68 : decode cX7_aboutOf 68 = .ok (.iconst 0, 1) := by decide +kernel
theorem dX7_aboutOf_69 : decode cX7_aboutOf 69 = .ok (.ireturn, 1) := by decide +kernel
theorem dX7_aboutOf_70 : decode cX7_aboutOf 70 = .ok (.aload_n 0, 1) := by decide +kernel
theorem dX7_aboutOf_71 : decode cX7_aboutOf 71 = .ok (.getfield 37, 3) := by decide +kernel
theorem dX7_aboutOf_74 : decode cX7_aboutOf 74 = .ok (.aload_n 0, 1) := by decide +kernel
theorem dX7_aboutOf_75 : decode cX7_aboutOf 75 = .ok (.iconst 0, 1) := by decide +kernel
theorem dX7_aboutOf_76 : decode cX7_aboutOf 76 = .ok (.iload_n 1, 1) := by decide +kernel
theorem dX7_aboutOf_77 : decode cX7_aboutOf 77 = .ok (.invokevirtual 108, 3) := by decide +kernel
theorem dX7_aboutOf_80 : decode cX7_aboutOf 80 = .ok (.baload, 1) := by decide +kernel
theorem dX7_aboutOf_81 : decode cX7_aboutOf 81 = .ok (.ifCond .eq 7, 3) := by decide +kernel
theorem dX7_aboutOf_84 : decode cX7_aboutOf 84 = .ok (.iconst 1, 1) := by decide +kernel
theorem dX7_aboutOf_85 : decode cX7_aboutOf 85 = .ok (.goto 4, 3) := by decide +kernel
theorem dX7_aboutOf_88 : decode cX7_aboutOf 88 = .ok (.iconst 0, 1) := by decide +kernel
theorem dX7_aboutOf_89 : decode cX7_aboutOf 89 = .ok (.ireturn, 1) := by decide +kernel
theorem dX7_aboutOf_90 : decode cX7_aboutOf 90 = .ok (.aload_n 0, 1) := by decide +kernel
theorem dX7_aboutOf_91 : decode cX7_aboutOf 91 = .ok (.iconst 0, 1) := by decide +kernel
theorem dX7_aboutOf_92 : decode cX7_aboutOf 92 = .ok (.iload_n 1, 1) := by decide +kernel
theorem dX7_aboutOf_93 : decode cX7_aboutOf 93 = .ok (.invokevirtual 119, 3) := by decide +kernel
theorem dX7_aboutOf_96 : decode cX7_aboutOf 96 = .ok (.ifCond .eq 7, 3) := by decide +kernel
theorem dX7_aboutOf_99 : decode cX7_aboutOf 99 = .ok (.iconst 1, 1) := by decide +kernel
theorem dX7_aboutOf_100 : decode cX7_aboutOf 100 = .ok (.goto 4, 3) := by decide +kernel
theorem dX7_aboutOf_103 : decode cX7_aboutOf 103 = .ok (.iconst 0, 1) := by decide +kernel
theorem dX7_aboutOf_104 : decode cX7_aboutOf 104 = .ok (.ireturn, 1) := by decide +kernel
theorem dX7_aboutOf_105 : decode cX7_aboutOf 105 = .ok (.aload_n 0, 1) := by decide +kernel
theorem dX7_aboutOf_106 : decode cX7_aboutOf 106 = .ok (.getfield 47, 3) := by decide +kernel
theorem dX7_aboutOf_109 : decode cX7_aboutOf 109 = .ok (.iload_n 1, 1) := by decide +kernel
theorem dX7_aboutOf_110 : decode cX7_aboutOf 110 = .ok (.iaload, 1) := by decide +kernel
theorem dX7_aboutOf_111 : decode cX7_aboutOf 111 = .ok (.ireturn, 1) := by decide +kernel
theorem dX7_aboutOf_112 : decode cX7_aboutOf 112 = .ok (.aload_n 0, 1) := by decide +kernel
theorem dX7_aboutOf_113 : decode cX7_aboutOf 113 = .ok (.getfield 50, 3) := by decide +kernel
theorem dX7_aboutOf_116 : decode cX7_aboutOf 116 = .ok (.iload_n 1, 1) := by decide +kernel
theorem dX7_aboutOf_117 : decode cX7_aboutOf 117 = .ok (.iaload, 1) := by decide +kernel
theorem dX7_aboutOf_118 : decode cX7_aboutOf 118 = .ok (.ireturn, 1) := by decide +kernel
theorem dX7_aboutOf_119 : decode cX7_aboutOf 119 = .ok (.aload_n 0, 1) := by decide +kernel
theorem dX7_aboutOf_120 : decode cX7_aboutOf 120 = .ok (.getfield 13, 3) := by decide +kernel
theorem dX7_aboutOf_123 : decode cX7_aboutOf 123 = .ok (.iload_n 1, 1) := by decide +kernel
theorem dX7_aboutOf_124 : decode cX7_aboutOf 124 = .ok (.iaload, 1) := by decide +kernel
theorem dX7_aboutOf_125 : decode cX7_aboutOf 125 = .ok (.ireturn, 1) := by decide +kernel
theorem dX7_aboutOf_126 : decode cX7_aboutOf 126 = .ok (.aload_n 0, 1) := by decide +kernel
theorem dX7_aboutOf_127 : decode cX7_aboutOf 127 = .ok (.iload_n 1, 1) := by decide +kernel
theorem dX7_aboutOf_128 : decode cX7_aboutOf 128 = .ok (.invokevirtual 164, 3) := by decide +kernel
theorem dX7_aboutOf_131 : decode cX7_aboutOf 131 = .ok (.ireturn, 1) := by decide +kernel
theorem dX7_aboutOf_132 : decode cX7_aboutOf 132 = .ok (.aload_n 0, 1) := by decide +kernel
theorem dX7_aboutOf_133 : decode cX7_aboutOf 133 = .ok (.getfield 19, 3) := by decide +kernel
theorem dX7_aboutOf_136 : decode cX7_aboutOf 136 = .ok (.iload_n 1, 1) := by decide +kernel
theorem dX7_aboutOf_137 : decode cX7_aboutOf 137 = .ok (.iaload, 1) := by decide +kernel
theorem dX7_aboutOf_138 : decode cX7_aboutOf 138 = .ok (.ireturn, 1) := by decide +kernel
theorem dX7_about_0 : decode cX7_about 0 = .ok (.aload_n 0, 1) := by decide +kernel
theorem dX7_about_1 : decode cX7_about 1 = .ok (.iload_n 1, 1) := by decide +kernel
theorem dX7_about_2 : decode cX7_about 2 = .ok (.invokevirtual 154, 3) := by decide +kernel
theorem dX7_about_5 : decode cX7_about 5 = .ok (.ifCond .eq 22, 3) := by decide +kernel
theorem dX7_about_8 : decode cX7_about 8 = .ok (.iload_n 2, 1) := by decide +kernel
theorem dX7_about_9 : decode cX7_about 9 = .ok (.iconst 0, 1) := by decide +kernel
theorem dX7_about_10 : decode cX7_about 10 = .ok (.bipush 8, 2) := by decide +kernel
theorem dX7_about_12 : decode cX7_about 12 = .ok (.invokestatic 124, 3) := by decide +kernel
theorem dX7_about_15 : decode cX7_about 15 = .ok (.ifCond .eq 12, 3) := by decide +kernel
theorem dX7_about_18 : decode cX7_about 18 = .ok (.aload_n 0, 1) := by decide +kernel
theorem dX7_about_19 : decode cX7_about 19 = .ok (.iload_n 1, 1) := by decide +kernel
theorem dX7_about_20 : decode cX7_about 20 = .ok (.iload_n 2, 1) := by decide +kernel
theorem dX7_about_21 : decode cX7_about 21 = .ok (.invokevirtual 167, 3) := by decide +kernel
theorem dX7_about_24 : decode cX7_about 24 = .ok (.goto 5, 3) := by decide +kernel
theorem dX7_about_27 : decode cX7_about 27 = .ok (.bipush (-2), 2) := by decide +kernel
theorem dX7_about_29 : decode cX7_about 29 = .ok (.ireturn, 1) := by decide +kernel
theorem dX7_longest_0 : decode cX7_longest 0 = .ok (.iconst 0, 1) := by decide +kernel
theorem dX7_longest_1 : decode cX7_longest 1 = .ok (.istore_n 1, 1) := by decide +kernel
theorem dX7_longest_2 : decode cX7_longest 2 = .ok (.aload_n 0, 1) := by decide +kernel
theorem dX7_longest_3 : decode cX7_longest 3 = .ok (.aload_n 0, 1) := by decide +kernel
theorem dX7_longest_4 : decode cX7_longest 4 = .ok (.getfield 7, 3) := by decide +kernel
theorem dX7_longest_7 : decode cX7_longest 7 = .ok (.bipush 6, 2) := by decide +kernel
theorem dX7_longest_9 : decode cX7_longest 9 = .ok (.iaload, 1) := by decide +kernel
theorem dX7_longest_10 : decode cX7_longest 10 = .ok (.iload_n 1, 1) := by decide +kernel
theorem dX7_longest_11 : decode cX7_longest 11 = .ok (.invokevirtual 112, 3) := by decide +kernel
theorem dX7_longest_14 : decode cX7_longest 14 = .ok (.aload_n 0, 1) := by decide +kernel
theorem dX7_longest_15 : decode cX7_longest 15 = .ok (.getfield 7, 3) := by decide +kernel
theorem dX7_longest_18 : decode cX7_longest 18 = .ok (.iconst 5, 1) := by decide +kernel
theorem dX7_longest_19 : decode cX7_longest 19 = .ok (.iaload, 1) := by decide +kernel
theorem dX7_longest_20 : decode cX7_longest 20 = .ok (.if_icmp .lt 9, 3) := by decide +kernel
theorem dX7_longest_23 : decode cX7_longest 23 = .ok (.iinc 1 1, 3) := by decide +kernel
theorem dX7_longest_26 : decode cX7_longest 26 = .ok (.goto (-24), 3) := by decide +kernel
theorem dX7_longest_29 : decode cX7_longest 29 = .ok (.iload_n 1, 1) := by decide +kernel
theorem dX7_longest_30 : decode cX7_longest 30 = .ok (.ireturn, 1) := by decide +kernel
theorem dX7_event_0 : decode cX7_event 0 = .ok (.iload_n 2, 1) := by decide +kernel
theorem dX7_event_1 : decode cX7_event 1 = .ok (.iconst 0, 1) := by decide +kernel
theorem dX7_event_2 : decode cX7_event 2 = .ok (.iconst 2, 1) := by decide +kernel
theorem dX7_event_3 : decode cX7_event 3 = .ok (.invokestatic 124, 3) := by decide +kernel
theorem dX7_event_6 : decode cX7_event 6 = .ok (.ifCond .ne 6, 3) := by decide +kernel
theorem dX7_event_9 : decode cX7_event 9 = .ok (.bipush (-2), 2) := by decide +kernel
theorem dX7_event_11 : decode cX7_event 11 = .ok (.ireturn, 1) := by decide +kernel
theorem dX7_event_12 : decode cX7_event 12 = .ok (.iload_n 1, 1) := by decide +kernel
theorem dX7_event_13 : decode cX7_event 13 = .ok (.iconst 0, 1) := by decide +kernel
theorem dX7_event_14 : decode cX7_event 14 = .ok (.aload_n 0, 1) := by decide +kernel
theorem dX7_event_15 : decode cX7_event 15 = .ok (.getfield 147, 3) := by decide +kernel
theorem dX7_event_18 : decode cX7_event 18 = .ok (.iconst 1, 1) := by decide +kernel
theorem dX7_event_19 : decode cX7_event 19 = .ok (.isub, 1) := by decide +kernel
theorem dX7_event_20 : decode cX7_event 20 = .ok (.invokestatic 124, 3) := by decide +kernel
theorem dX7_event_23 : decode cX7_event 23 = .ok (.ifCond .ne 7, 3) := by decide +kernel
theorem dX7_event_26 : decode cX7_event 26 = .ok (.iconst (-1), 1) := by decide +kernel
theorem dX7_event_27 : decode cX7_event 27 = .ok (.goto 36, 3) := by decide +kernel
theorem dX7_event_30 : decode cX7_event 30 = .ok (.iload_n 2, 1) := by decide +kernel
theorem dX7_event_31 : decode cX7_event 31 = .ok (.ifCond .ne 12, 3) := by decide +kernel
theorem dX7_event_34 : decode cX7_event 34 = .ok (.aload_n 0, 1) := by decide +kernel
theorem dX7_event_35 : decode cX7_event 35 = .ok (.getfield 56, 3) := by decide +kernel
theorem dX7_event_38 : decode cX7_event 38 = .ok (.iload_n 1, 1) := by decide +kernel
theorem dX7_event_39 : decode cX7_event 39 = .ok (.iaload, 1) := by decide +kernel
theorem dX7_event_40 : decode cX7_event 40 = .ok (.goto 23, 3) := by decide +kernel
theorem dX7_event_43 : decode cX7_event 43 = .ok (.iload_n 2, 1) := by decide +kernel
theorem dX7_event_44 : decode cX7_event 44 = .ok (.iconst 1, 1) := by decide +kernel
theorem dX7_event_45 : decode cX7_event 45 = .ok (.if_icmp .ne 12, 3) := by decide +kernel
theorem dX7_event_48 : decode cX7_event 48 = .ok (.aload_n 0, 1) := by decide +kernel
theorem dX7_event_49 : decode cX7_event 49 = .ok (.getfield 59, 3) := by decide +kernel
theorem dX7_event_52 : decode cX7_event 52 = .ok (.iload_n 1, 1) := by decide +kernel
theorem dX7_event_53 : decode cX7_event 53 = .ok (.iaload, 1) := by decide +kernel
theorem dX7_event_54 : decode cX7_event 54 = .ok (.goto 9, 3) := by decide +kernel
theorem dX7_event_57 : decode cX7_event 57 = .ok (.aload_n 0, 1) := by decide +kernel
theorem dX7_event_58 : decode cX7_event 58 = .ok (.getfield 62, 3) := by decide +kernel
theorem dX7_event_61 : decode cX7_event 61 = .ok (.iload_n 1, 1) := by decide +kernel
theorem dX7_event_62 : decode cX7_event 62 = .ok (.iaload, 1) := by decide +kernel
theorem dX7_event_63 : decode cX7_event 63 = .ok (.ireturn, 1) := by decide +kernel
theorem dX7_isSomeShut_0 : decode cX7_isSomeShut 0 = .ok (.bipush 16, 2) := by decide +kernel
theorem dX7_isSomeShut_2 : decode cX7_isSomeShut 2 = .ok (.istore_n 1, 1) := by decide +kernel
theorem dX7_isSomeShut_3 : decode cX7_isSomeShut 3 = .ok (.iload_n 1, 1) := by decide +kernel
theorem dX7_isSomeShut_4 : decode cX7_isSomeShut 4 = .ok (.bipush 32, 2) := by decide +kernel
theorem dX7_isSomeShut_6 : decode cX7_isSomeShut 6 = .ok (.if_icmp .ge 20, 3) := by decide +kernel
theorem dX7_isSomeShut_9 : decode cX7_isSomeShut 9 = .ok (.aload_n 0, 1) := by decide +kernel
theorem dX7_isSomeShut_10 : decode cX7_isSomeShut 10 = .ok (.getfield 37, 3) := by decide +kernel
theorem dX7_isSomeShut_13 : decode cX7_isSomeShut 13 = .ok (.iload_n 1, 1) := by decide +kernel
theorem dX7_isSomeShut_14 : decode cX7_isSomeShut 14 = .ok (.baload, 1) := by decide +kernel
theorem dX7_isSomeShut_15 : decode cX7_isSomeShut 15 = .ok (.ifCond .eq 5, 3) := by decide +kernel
theorem dX7_isSomeShut_18 : decode cX7_isSomeShut 18 = .ok (.iconst 1, 1) := by decide +kernel
theorem dX7_isSomeShut_19 : decode cX7_isSomeShut 19 = .ok (.ireturn, 1) := by decide +kernel
theorem dX7_isSomeShut_20 : decode cX7_isSomeShut 20 = .ok (.iinc 1 1, 3) := by decide +kernel
theorem dX7_isSomeShut_23 : decode cX7_isSomeShut 23 = .ok (.goto (-20), 3) := by decide +kernel
theorem dX7_isSomeShut_26 : decode cX7_isSomeShut 26 = .ok (.iconst 0, 1) := by decide +kernel
theorem dX7_isSomeShut_27 : decode cX7_isSomeShut 27 = .ok (.ireturn, 1) := by decide +kernel
theorem dX7_goesTo_0 : decode cX7_goesTo 0 = .ok (.aload_n 0, 1) := by decide +kernel
theorem dX7_goesTo_1 : decode cX7_goesTo 1 = .ok (.getfield 22, 3) := by decide +kernel
theorem dX7_goesTo_4 : decode cX7_goesTo 4 = .ok (.iconst 1, 1) := by decide +kernel
theorem dX7_goesTo_5 : decode cX7_goesTo 5 = .ok (.iaload, 1) := by decide +kernel
theorem dX7_goesTo_6 : decode cX7_goesTo 6 = .ok (.iload_n 1, 1) := by decide +kernel
theorem dX7_goesTo_7 : decode cX7_goesTo 7 = .ok (.if_icmp .ge 28, 3) := by decide +kernel
theorem dX7_goesTo_10 : decode cX7_goesTo 10 = .ok (.aload_n 0, 1) := by decide +kernel
theorem dX7_goesTo_11 : decode cX7_goesTo 11 = .ok (.invokevirtual 170, 3) := by decide +kernel
theorem dX7_goesTo_14 : decode cX7_goesTo 14 = .ok (.ifCond .eq 11, 3) := by decide +kernel
theorem dX7_goesTo_17 : decode cX7_goesTo 17 = .ok (.aload_n 0, 1) := by decide +kernel
theorem dX7_goesTo_18 : decode cX7_goesTo 18 = .ok (.iconst 1, 1) := by decide +kernel
end
section
theorem dX7_goesTo_19 : decode cX7_goesTo 19 = .ok (.invokevirtual 161, 3) := by decide +kernel
theorem dX7_goesTo_22 : decode cX7_goesTo 22 = .ok (.goto (-22), 3) := by decide +kernel
theorem dX7_goesTo_25 : decode cX7_goesTo 25 = .ok (.aload_n 0, 1) := by decide +kernel
theorem dX7_goesTo_26 : decode cX7_goesTo 26 = .ok (.getfield 22, 3) := by decide +kernel
theorem dX7_goesTo_29 : decode cX7_goesTo 29 = .ok (.iconst 1, 1) := by decide +kernel
theorem dX7_goesTo_30 : decode cX7_goesTo 30 = .ok (.iload_n 1, 1) := by decide +kernel
theorem dX7_goesTo_31 : decode cX7_goesTo 31 = .ok (.iastore, 1) := by decide +kernel
theorem dX7_goesTo_32 : decode cX7_goesTo 32 = .ok (.goto (-32), 3) := by decide +kernel
theorem dX7_goesTo_35 : decode cX7_goesTo 35 = .ok (.return_, 1) := by decide +kernel
theorem dX7_goesOver_0 : decode cX7_goesOver 0 = .ok (.aload_n 0, 1) := by decide +kernel
theorem dX7_goesOver_1 : decode cX7_goesOver 1 = .ok (.getfield 22, 3) := by decide +kernel
theorem dX7_goesOver_4 : decode cX7_goesOver 4 = .ok (.iconst 1, 1) := by decide +kernel
theorem dX7_goesOver_5 : decode cX7_goesOver 5 = .ok (.iconst 0, 1) := by decide +kernel
theorem dX7_goesOver_6 : decode cX7_goesOver 6 = .ok (.iastore, 1) := by decide +kernel
theorem dX7_goesOver_7 : decode cX7_goesOver 7 = .ok (.aload_n 0, 1) := by decide +kernel
theorem dX7_goesOver_8 : decode cX7_goesOver 8 = .ok (.getfield 25, 3) := by decide +kernel
theorem dX7_goesOver_11 : decode cX7_goesOver 11 = .ok (.iconst 1, 1) := by decide +kernel
theorem dX7_goesOver_12 : decode cX7_goesOver 12 = .ok (.iload_n 1, 1) := by decide +kernel
theorem dX7_goesOver_13 : decode cX7_goesOver 13 = .ok (.iastore, 1) := by decide +kernel
theorem dX7_goesOver_14 : decode cX7_goesOver 14 = .ok (.aload_n 0, 1) := by decide +kernel
theorem dX7_goesOver_15 : decode cX7_goesOver 15 = .ok (.getfield 28, 3) := by decide +kernel
theorem dX7_goesOver_18 : decode cX7_goesOver 18 = .ok (.iconst 1, 1) := by decide +kernel
theorem dX7_goesOver_19 : decode cX7_goesOver 19 = .ok (.iload_n 2, 1) := by decide +kernel
theorem dX7_goesOver_20 : decode cX7_goesOver 20 = .ok (.iastore, 1) := by decide +kernel
theorem dX7_goesOver_21 : decode cX7_goesOver 21 = .ok (.bipush 16, 2) := by decide +kernel
theorem dX7_goesOver_23 : decode cX7_goesOver 23 = .ok (.istore_n 3, 1) := by decide +kernel
theorem dX7_goesOver_24 : decode cX7_goesOver 24 = .ok (.iload_n 3, 1) := by decide +kernel
theorem dX7_goesOver_25 : decode cX7_goesOver 25 = .ok (.bipush 32, 2) := by decide +kernel
theorem dX7_goesOver_27 : decode cX7_goesOver 27 = .ok (.if_icmp .ge 30, 3) := by decide +kernel
theorem dX7_goesOver_30 : decode cX7_goesOver 30 = .ok (.aload_n 0, 1) := by decide +kernel
theorem dX7_goesOver_31 : decode cX7_goesOver 31 = .ok (.getfield 31, 3) := by decide +kernel
theorem dX7_goesOver_34 : decode cX7_goesOver 34 = .ok (.iload_n 3, 1) := by decide +kernel
theorem dX7_goesOver_35 : decode cX7_goesOver 35 = .ok (.iconst 0, 1) := by decide +kernel
theorem dX7_goesOver_36 : decode cX7_goesOver 36 = .ok (.iastore, 1) := by decide +kernel
theorem dX7_goesOver_37 : decode cX7_goesOver 37 = .ok (.aload_n 0, 1) := by decide +kernel
theorem dX7_goesOver_38 : decode cX7_goesOver 38 = .ok (.getfield 34, 3) := by decide +kernel
theorem dX7_goesOver_41 : decode cX7_goesOver 41 = .ok (.iload_n 3, 1) := by decide +kernel
theorem dX7_goesOver_42 : decode cX7_goesOver 42 = .ok (.iconst 0, 1) := by decide +kernel
theorem dX7_goesOver_43 : decode cX7_goesOver 43 = .ok (.iastore, 1) := by decide +kernel
theorem dX7_goesOver_44 : decode cX7_goesOver 44 = .ok (.aload_n 0, 1) := by decide +kernel
theorem dX7_goesOver_45 : decode cX7_goesOver 45 = .ok (.getfield 37, 3) := by decide +kernel
theorem dX7_goesOver_48 : decode cX7_goesOver 48 = .ok (.iload_n 3, 1) := by decide +kernel
theorem dX7_goesOver_49 : decode cX7_goesOver 49 = .ok (.iconst 0, 1) := by decide +kernel
theorem dX7_goesOver_50 : decode cX7_goesOver 50 = .ok (.bastore, 1) := by decide +kernel
theorem dX7_goesOver_51 : decode cX7_goesOver 51 = .ok (.iinc 3 1, 3) := by decide +kernel
theorem dX7_goesOver_54 : decode cX7_goesOver 54 = .ok (.goto (-30), 3) := by decide +kernel
theorem dX7_goesOver_57 : decode cX7_goesOver 57 = .ok (.iconst 0, 1) := by decide +kernel
theorem dX7_goesOver_58 : decode cX7_goesOver 58 = .ok (.istore_n 3, 1) := by decide +kernel
theorem dX7_goesOver_59 : decode cX7_goesOver 59 = .ok (.iload_n 3, 1) := by decide +kernel
theorem dX7_goesOver_60 : decode cX7_goesOver 60 = .ok (.aload_n 0, 1) := by decide +kernel
theorem dX7_goesOver_61 : decode cX7_goesOver 61 = .ok (.getfield 115, 3) := by decide +kernel
theorem dX7_goesOver_64 : decode cX7_goesOver 64 = .ok (.if_icmp .ge 15, 3) := by decide +kernel
theorem dX7_goesOver_67 : decode cX7_goesOver 67 = .ok (.aload_n 0, 1) := by decide +kernel
theorem dX7_goesOver_68 : decode cX7_goesOver 68 = .ok (.iconst 1, 1) := by decide +kernel
theorem dX7_goesOver_69 : decode cX7_goesOver 69 = .ok (.iload_n 3, 1) := by decide +kernel
theorem dX7_goesOver_70 : decode cX7_goesOver 70 = .ok (.invokevirtual 128, 3) := by decide +kernel
theorem dX7_goesOver_73 : decode cX7_goesOver 73 = .ok (.iinc 3 1, 3) := by decide +kernel
theorem dX7_goesOver_76 : decode cX7_goesOver 76 = .ok (.goto (-17), 3) := by decide +kernel
theorem dX7_goesOver_79 : decode cX7_goesOver 79 = .ok (.iconst 0, 1) := by decide +kernel
theorem dX7_goesOver_80 : decode cX7_goesOver 80 = .ok (.istore_n 3, 1) := by decide +kernel
theorem dX7_goesOver_81 : decode cX7_goesOver 81 = .ok (.iload_n 3, 1) := by decide +kernel
theorem dX7_goesOver_82 : decode cX7_goesOver 82 = .ok (.aload_n 0, 1) := by decide +kernel
theorem dX7_goesOver_83 : decode cX7_goesOver 83 = .ok (.getfield 147, 3) := by decide +kernel
theorem dX7_goesOver_86 : decode cX7_goesOver 86 = .ok (.if_icmp .ge 36, 3) := by decide +kernel
theorem dX7_goesOver_89 : decode cX7_goesOver 89 = .ok (.aload_n 0, 1) := by decide +kernel
theorem dX7_goesOver_90 : decode cX7_goesOver 90 = .ok (.aload_n 0, 1) := by decide +kernel
theorem dX7_goesOver_91 : decode cX7_goesOver 91 = .ok (.getfield 62, 3) := by decide +kernel
theorem dX7_goesOver_94 : decode cX7_goesOver 94 = .ok (.iload_n 3, 1) := by decide +kernel
theorem dX7_goesOver_95 : decode cX7_goesOver 95 = .ok (.iaload, 1) := by decide +kernel
theorem dX7_goesOver_96 : decode cX7_goesOver 96 = .ok (.invokevirtual 174, 3) := by decide +kernel
theorem dX7_goesOver_99 : decode cX7_goesOver 99 = .ok (.aload_n 0, 1) := by decide +kernel
theorem dX7_goesOver_100 : decode cX7_goesOver 100 = .ok (.iconst 1, 1) := by decide +kernel
theorem dX7_goesOver_101 : decode cX7_goesOver 101 = .ok (.aload_n 0, 1) := by decide +kernel
theorem dX7_goesOver_102 : decode cX7_goesOver 102 = .ok (.getfield 56, 3) := by decide +kernel
theorem dX7_goesOver_105 : decode cX7_goesOver 105 = .ok (.iload_n 3, 1) := by decide +kernel
theorem dX7_goesOver_106 : decode cX7_goesOver 106 = .ok (.iaload, 1) := by decide +kernel
theorem dX7_goesOver_107 : decode cX7_goesOver 107 = .ok (.aload_n 0, 1) := by decide +kernel
theorem dX7_goesOver_108 : decode cX7_goesOver 108 = .ok (.getfield 59, 3) := by decide +kernel
theorem dX7_goesOver_111 : decode cX7_goesOver 111 = .ok (.iload_n 3, 1) := by decide +kernel
theorem dX7_goesOver_112 : decode cX7_goesOver 112 = .ok (.iaload, 1) := by decide +kernel
theorem dX7_goesOver_113 : decode cX7_goesOver 113 = .ok (.invokevirtual 150, 3) := by decide +kernel
theorem dX7_goesOver_116 : decode cX7_goesOver 116 = .ok (.iinc 3 1, 3) := by decide +kernel
theorem dX7_goesOver_119 : decode cX7_goesOver 119 = .ok (.goto (-38), 3) := by decide +kernel
theorem dX7_goesOver_122 : decode cX7_goesOver 122 = .ok (.aload_n 0, 1) := by decide +kernel
theorem dX7_goesOver_123 : decode cX7_goesOver 123 = .ok (.aload_n 0, 1) := by decide +kernel
theorem dX7_goesOver_124 : decode cX7_goesOver 124 = .ok (.getfield 22, 3) := by decide +kernel
theorem dX7_goesOver_127 : decode cX7_goesOver 127 = .ok (.iconst 0, 1) := by decide +kernel
theorem dX7_goesOver_128 : decode cX7_goesOver 128 = .ok (.iaload, 1) := by decide +kernel
theorem dX7_goesOver_129 : decode cX7_goesOver 129 = .ok (.invokevirtual 174, 3) := by decide +kernel
theorem dX7_goesOver_132 : decode cX7_goesOver 132 = .ok (.return_, 1) := by decide +kernel
theorem dX7_again_0 : decode cX7_again 0 = .ok (.aload_n 0, 1) := by decide +kernel
theorem dX7_again_1 : decode cX7_again 1 = .ok (.iload_n 1, 1) := by decide +kernel
theorem dX7_again_2 : decode cX7_again 2 = .ok (.invokevirtual 154, 3) := by decide +kernel
theorem dX7_again_5 : decode cX7_again 5 = .ok (.ifCond .eq 33, 3) := by decide +kernel
theorem dX7_again_8 : decode cX7_again 8 = .ok (.iload_n 2, 1) := by decide +kernel
theorem dX7_again_9 : decode cX7_again 9 = .ok (.iconst 1, 1) := by decide +kernel
theorem dX7_again_10 : decode cX7_again 10 = .ok (.sipush 20000, 3) := by decide +kernel
theorem dX7_again_13 : decode cX7_again 13 = .ok (.invokestatic 124, 3) := by decide +kernel
theorem dX7_again_16 : decode cX7_again 16 = .ok (.ifCond .eq 22, 3) := by decide +kernel
theorem dX7_again_19 : decode cX7_again 19 = .ok (.iload_n 3, 1) := by decide +kernel
theorem dX7_again_20 : decode cX7_again 20 = .ok (.iconst 1, 1) := by decide +kernel
theorem dX7_again_21 : decode cX7_again 21 = .ok (.iload_n 2, 1) := by decide +kernel
theorem dX7_again_22 : decode cX7_again 22 = .ok (.invokestatic 124, 3) := by decide +kernel
theorem dX7_again_25 : decode cX7_again 25 = .ok (.ifCond .eq 13, 3) := by decide +kernel
theorem dX7_again_28 : decode cX7_again 28 = .ok (.iload 4, 2) := by decide +kernel
theorem dX7_again_30 : decode cX7_again 30 = .ok (.iconst 0, 1) := by decide +kernel
theorem dX7_again_31 : decode cX7_again 31 = .ok (.iconst 1, 1) := by decide +kernel
theorem dX7_again_32 : decode cX7_again 32 = .ok (.invokestatic 124, 3) := by decide +kernel
theorem dX7_again_35 : decode cX7_again 35 = .ok (.ifCond .ne 6, 3) := by decide +kernel
theorem dX7_again_38 : decode cX7_again 38 = .ok (.bipush (-2), 2) := by decide +kernel
theorem dX7_again_40 : decode cX7_again 40 = .ok (.ireturn, 1) := by decide +kernel
theorem dX7_again_41 : decode cX7_again 41 = .ok (.aload_n 0, 1) := by decide +kernel
theorem dX7_again_42 : decode cX7_again 42 = .ok (.iload_n 2, 1) := by decide +kernel
theorem dX7_again_43 : decode cX7_again 43 = .ok (.iload_n 3, 1) := by decide +kernel
theorem dX7_again_44 : decode cX7_again 44 = .ok (.invokevirtual 177, 3) := by decide +kernel
theorem dX7_again_47 : decode cX7_again 47 = .ok (.iload 4, 2) := by decide +kernel
theorem dX7_again_49 : decode cX7_again 49 = .ok (.ifCond .ne 15, 3) := by decide +kernel
theorem dX7_again_52 : decode cX7_again 52 = .ok (.aload_n 0, 1) := by decide +kernel
theorem dX7_again_53 : decode cX7_again 53 = .ok (.getfield 47, 3) := by decide +kernel
theorem dX7_again_56 : decode cX7_again 56 = .ok (.bipush 12, 2) := by decide +kernel
theorem dX7_again_58 : decode cX7_again 58 = .ok (.iload_n 1, 1) := by decide +kernel
theorem dX7_again_59 : decode cX7_again 59 = .ok (.iadd, 1) := by decide +kernel
theorem dX7_again_60 : decode cX7_again 60 = .ok (.iaload, 1) := by decide +kernel
theorem dX7_again_61 : decode cX7_again 61 = .ok (.goto 12, 3) := by decide +kernel
theorem dX7_again_64 : decode cX7_again 64 = .ok (.aload_n 0, 1) := by decide +kernel
theorem dX7_again_65 : decode cX7_again 65 = .ok (.getfield 50, 3) := by decide +kernel
theorem dX7_again_68 : decode cX7_again 68 = .ok (.bipush 12, 2) := by decide +kernel
theorem dX7_again_70 : decode cX7_again 70 = .ok (.iload_n 1, 1) := by decide +kernel
theorem dX7_again_71 : decode cX7_again 71 = .ok (.iadd, 1) := by decide +kernel
theorem dX7_again_72 : decode cX7_again 72 = .ok (.iaload, 1) := by decide +kernel
theorem dX7_again_73 : decode cX7_again 73 = .ok (.ireturn, 1) := by decide +kernel
theorem dX7_mark_0 : decode cX7_mark 0 = .ok (.aload_n 0, 1) := by decide +kernel
theorem dX7_mark_1 : decode cX7_mark 1 = .ok (.iload_n 1, 1) := by decide +kernel
theorem dX7_mark_2 : decode cX7_mark 2 = .ok (.invokevirtual 154, 3) := by decide +kernel
theorem dX7_mark_5 : decode cX7_mark 5 = .ok (.ifCond .eq 12, 3) := by decide +kernel
theorem dX7_mark_8 : decode cX7_mark 8 = .ok (.iload_n 2, 1) := by decide +kernel
theorem dX7_mark_9 : decode cX7_mark 9 = .ok (.iconst 0, 1) := by decide +kernel
theorem dX7_mark_10 : decode cX7_mark 10 = .ok (.iconst 2, 1) := by decide +kernel
theorem dX7_mark_11 : decode cX7_mark 11 = .ok (.invokestatic 124, 3) := by decide +kernel
theorem dX7_mark_14 : decode cX7_mark 14 = .ok (.ifCond .ne 6, 3) := by decide +kernel
theorem dX7_mark_17 : decode cX7_mark 17 = .ok (.bipush (-2), 2) := by decide +kernel
theorem dX7_mark_19 : decode cX7_mark 19 = .ok (.ireturn, 1) := by decide +kernel
theorem dX7_mark_20 : decode cX7_mark 20 = .ok (.aload_n 0, 1) := by decide +kernel
theorem dX7_mark_21 : decode cX7_mark 21 = .ok (.getfield 19, 3) := by decide +kernel
theorem dX7_mark_24 : decode cX7_mark 24 = .ok (.iload_n 1, 1) := by decide +kernel
theorem dX7_mark_25 : decode cX7_mark 25 = .ok (.iaload, 1) := by decide +kernel
theorem dX7_mark_26 : decode cX7_mark 26 = .ok (.istore_n 3, 1) := by decide +kernel
theorem dX7_mark_27 : decode cX7_mark 27 = .ok (.aload_n 0, 1) := by decide +kernel
theorem dX7_mark_28 : decode cX7_mark 28 = .ok (.getfield 19, 3) := by decide +kernel
theorem dX7_mark_31 : decode cX7_mark 31 = .ok (.iload_n 1, 1) := by decide +kernel
theorem dX7_mark_32 : decode cX7_mark 32 = .ok (.iload_n 2, 1) := by decide +kernel
theorem dX7_mark_33 : decode cX7_mark 33 = .ok (.iastore, 1) := by decide +kernel
theorem dX7_mark_34 : decode cX7_mark 34 = .ok (.iload_n 3, 1) := by decide +kernel
theorem dX7_mark_35 : decode cX7_mark 35 = .ok (.ireturn, 1) := by decide +kernel
theorem dX7_isRightBy_0 : decode cX7_isRightBy 0 = .ok (.aload_n 0, 1) := by decide +kernel
theorem dX7_isRightBy_1 : decode cX7_isRightBy 1 = .ok (.getfield 19, 3) := by decide +kernel
theorem dX7_isRightBy_4 : decode cX7_isRightBy 4 = .ok (.iload_n 1, 1) := by decide +kernel
theorem dX7_isRightBy_5 : decode cX7_isRightBy 5 = .ok (.iaload, 1) := by decide +kernel
theorem dX7_isRightBy_6 : decode cX7_isRightBy 6 = .ok (.ifCond .eq 18, 3) := by decide +kernel
theorem dX7_isRightBy_9 : decode cX7_isRightBy 9 = .ok (.aload_n 0, 1) := by decide +kernel
theorem dX7_isRightBy_10 : decode cX7_isRightBy 10 = .ok (.getfield 65, 3) := by decide +kernel
theorem dX7_isRightBy_13 : decode cX7_isRightBy 13 = .ok (.sipush 420, 3) := by decide +kernel
theorem dX7_isRightBy_16 : decode cX7_isRightBy 16 = .ok (.iload_n 1, 1) := by decide +kernel
theorem dX7_isRightBy_17 : decode cX7_isRightBy 17 = .ok (.imul, 1) := by decide +kernel
theorem dX7_isRightBy_18 : decode cX7_isRightBy 18 = .ok (.iload_n 2, 1) := by decide +kernel
theorem dX7_isRightBy_19 : decode cX7_isRightBy 19 = .ok (.iadd, 1) := by decide +kernel
theorem dX7_isRightBy_20 : decode cX7_isRightBy 20 = .ok (.baload, 1) := by decide +kernel
theorem dX7_isRightBy_21 : decode cX7_isRightBy 21 = .ok (.ifCond .eq 7, 3) := by decide +kernel
theorem dX7_isRightBy_24 : decode cX7_isRightBy 24 = .ok (.iconst 1, 1) := by decide +kernel
theorem dX7_isRightBy_25 : decode cX7_isRightBy 25 = .ok (.goto 4, 3) := by decide +kernel
theorem dX7_isRightBy_28 : decode cX7_isRightBy 28 = .ok (.iconst 0, 1) := by decide +kernel
theorem dX7_isRightBy_29 : decode cX7_isRightBy 29 = .ok (.ireturn, 1) := by decide +kernel
theorem dX7_triesMarks_0 : decode cX7_triesMarks 0 = .ok (.iconst 0, 1) := by decide +kernel
theorem dX7_triesMarks_1 : decode cX7_triesMarks 1 = .ok (.istore_n 2, 1) := by decide +kernel
theorem dX7_triesMarks_2 : decode cX7_triesMarks 2 = .ok (.sipush 500, 3) := by decide +kernel
theorem dX7_triesMarks_5 : decode cX7_triesMarks 5 = .ok (.istore_n 3, 1) := by decide +kernel
theorem dX7_triesMarks_6 : decode cX7_triesMarks 6 = .ok (.iload_n 3, 1) := by decide +kernel
theorem dX7_triesMarks_7 : decode cX7_triesMarks 7 = .ok (.sipush 10000, 3) := by decide +kernel
theorem dX7_triesMarks_10 : decode cX7_triesMarks 10 = .ok (.if_icmp .gt 124, 3) := by decide +kernel
theorem dX7_triesMarks_13 : decode cX7_triesMarks 13 = .ok (.sipush 250, 3) := by decide +kernel
theorem dX7_triesMarks_16 : decode cX7_triesMarks 16 = .ok (.istore 4, 2) := by decide +kernel
theorem dX7_triesMarks_18 : decode cX7_triesMarks 18 = .ok (.iload 4, 2) := by decide +kernel
theorem dX7_triesMarks_20 : decode cX7_triesMarks 20 = .ok (.iload_n 3, 1) := by decide +kernel
theorem dX7_triesMarks_21 : decode cX7_triesMarks 21 = .ok (.if_icmp .gt 104, 3) := by decide +kernel
theorem dX7_triesMarks_24 : decode cX7_triesMarks 24 = .ok (.aload_n 0, 1) := by decide +kernel
theorem dX7_triesMarks_25 : decode cX7_triesMarks 25 = .ok (.iload_n 3, 1) := by decide +kernel
theorem dX7_triesMarks_26 : decode cX7_triesMarks 26 = .ok (.iload 4, 2) := by decide +kernel
theorem dX7_triesMarks_28 : decode cX7_triesMarks 28 = .ok (.invokevirtual 177, 3) := by decide +kernel
theorem dX7_triesMarks_31 : decode cX7_triesMarks 31 = .ok (.iconst 0, 1) := by decide +kernel
theorem dX7_triesMarks_32 : decode cX7_triesMarks 32 = .ok (.istore 5, 2) := by decide +kernel
theorem dX7_triesMarks_34 : decode cX7_triesMarks 34 = .ok (.iload 5, 2) := by decide +kernel
theorem dX7_triesMarks_36 : decode cX7_triesMarks 36 = .ok (.aload_n 0, 1) := by decide +kernel
theorem dX7_triesMarks_37 : decode cX7_triesMarks 37 = .ok (.getfield 115, 3) := by decide +kernel
theorem dX7_triesMarks_40 : decode cX7_triesMarks 40 = .ok (.if_icmp .ge 73, 3) := by decide +kernel
theorem dX7_triesMarks_43 : decode cX7_triesMarks 43 = .ok (.aload_n 0, 1) := by decide +kernel
theorem dX7_triesMarks_44 : decode cX7_triesMarks 44 = .ok (.getfield 65, 3) := by decide +kernel
theorem dX7_triesMarks_47 : decode cX7_triesMarks 47 = .ok (.sipush 420, 3) := by decide +kernel
theorem dX7_triesMarks_50 : decode cX7_triesMarks 50 = .ok (.iload 5, 2) := by decide +kernel
theorem dX7_triesMarks_52 : decode cX7_triesMarks 52 = .ok (.imul, 1) := by decide +kernel
theorem dX7_triesMarks_53 : decode cX7_triesMarks 53 = .ok (.iload_n 2, 1) := by decide +kernel
theorem dX7_triesMarks_54 : decode cX7_triesMarks 54 = .ok (.iadd, 1) := by decide +kernel
theorem dX7_triesMarks_55 : decode cX7_triesMarks 55 = .ok (.aload_n 0, 1) := by decide +kernel
theorem dX7_triesMarks_56 : decode cX7_triesMarks 56 = .ok (.getfield 19, 3) := by decide +kernel
theorem dX7_triesMarks_59 : decode cX7_triesMarks 59 = .ok (.iload 5, 2) := by decide +kernel
theorem dX7_triesMarks_61 : decode cX7_triesMarks 61 = .ok (.iaload, 1) := by decide +kernel
theorem dX7_triesMarks_62 : decode cX7_triesMarks 62 = .ok (.iconst 1, 1) := by decide +kernel
theorem dX7_triesMarks_63 : decode cX7_triesMarks 63 = .ok (.if_icmp .ne 24, 3) := by decide +kernel
theorem dX7_triesMarks_66 : decode cX7_triesMarks 66 = .ok (.aload_n 0, 1) := by decide +kernel
theorem dX7_triesMarks_67 : decode cX7_triesMarks 67 = .ok (.getfield 50, 3) := by decide +kernel
theorem dX7_triesMarks_70 : decode cX7_triesMarks 70 = .ok (.bipush 12, 2) := by decide +kernel
theorem dX7_triesMarks_72 : decode cX7_triesMarks 72 = .ok (.iload 5, 2) := by decide +kernel
theorem dX7_triesMarks_74 : decode cX7_triesMarks 74 = .ok (.iadd, 1) := by decide +kernel
theorem dX7_triesMarks_75 : decode cX7_triesMarks 75 = .ok (.iaload, 1) := by decide +kernel
theorem dX7_triesMarks_76 : decode cX7_triesMarks 76 = .ok (.ifCond .ne 7, 3) := by decide +kernel
theorem dX7_triesMarks_79 : decode cX7_triesMarks 79 = .ok (.iconst 1, 1) := by decide +kernel
theorem dX7_triesMarks_80 : decode cX7_triesMarks 80 = .ok (.goto 26, 3) := by decide +kernel
theorem dX7_triesMarks_83 : decode cX7_triesMarks 83 = .ok (.iconst 0, 1) := by decide +kernel
theorem dX7_triesMarks_84 : decode cX7_triesMarks 84 = .ok (.goto 22, 3) := by decide +kernel
theorem dX7_triesMarks_87 : decode cX7_triesMarks 87 = .ok (.aload_n 0, 1) := by decide +kernel
theorem dX7_triesMarks_88 : decode cX7_triesMarks 88 = .ok (.getfield 47, 3) := by decide +kernel
theorem dX7_triesMarks_91 : decode cX7_triesMarks 91 = .ok (.bipush 12, 2) := by decide +kernel
theorem dX7_triesMarks_93 : decode cX7_triesMarks 93 = .ok (.iload 5, 2) := by decide +kernel
theorem dX7_triesMarks_95 : decode cX7_triesMarks 95 = .ok (.iadd, 1) := by decide +kernel
theorem dX7_triesMarks_96 : decode cX7_triesMarks 96 = .ok (.iaload, 1) := by decide +kernel
theorem dX7_triesMarks_97 : decode cX7_triesMarks 97 = .ok (.iload_n 1, 1) := by decide +kernel
theorem dX7_triesMarks_98 : decode cX7_triesMarks 98 = .ok (.if_icmp .gt 7, 3) := by decide +kernel
theorem dX7_triesMarks_101 : decode cX7_triesMarks 101 = .ok (.iconst 1, 1) := by decide +kernel
theorem dX7_triesMarks_102 : decode cX7_triesMarks 102 = .ok (.goto 4, 3) := by decide +kernel
theorem dX7_triesMarks_105 : decode cX7_triesMarks 105 = .ok (.iconst 0, 1) := by decide +kernel
theorem dX7_triesMarks_106 : decode cX7_triesMarks 106 = .ok (.bastore, 1) := by decide +kernel
theorem dX7_triesMarks_107 : decode cX7_triesMarks 107 = .ok (.iinc 5 1, 3) := by decide +kernel
theorem dX7_triesMarks_110 : decode cX7_triesMarks 110 = .ok (.goto (-76), 3) := by decide +kernel
theorem dX7_triesMarks_113 : decode cX7_triesMarks 113 = .ok (.iinc 2 1, 3) := by decide +kernel
theorem dX7_triesMarks_116 : decode cX7_triesMarks 116 = .ok (.iinc 4 250, 6) := by decide +kernel
theorem dX7_triesMarks_122 : decode cX7_triesMarks 122 = .ok (.goto (-104), 3) := by decide +kernel
theorem dX7_triesMarks_125 : decode cX7_triesMarks 125 = .ok (.iinc 3 500, 6) := by decide +kernel
theorem dX7_triesMarks_131 : decode cX7_triesMarks 131 = .ok (.goto (-125), 3) := by decide +kernel
theorem dX7_triesMarks_134 : decode cX7_triesMarks 134 = .ok (.return_, 1) := by decide +kernel
theorem dX7_common_0 : decode cX7_common 0 = .ok (.iconst 0, 1) := by decide +kernel
theorem dX7_common_1 : decode cX7_common 1 = .ok (.istore_n 3, 1) := by decide +kernel
theorem dX7_common_2 : decode cX7_common 2 = .ok (.iload_n 3, 1) := by decide +kernel
theorem dX7_common_3 : decode cX7_common 3 = .ok (.sipush 420, 3) := by decide +kernel
theorem dX7_common_6 : decode cX7_common 6 = .ok (.if_icmp .ge 29, 3) := by decide +kernel
theorem dX7_common_9 : decode cX7_common 9 = .ok (.aload_n 0, 1) := by decide +kernel
theorem dX7_common_10 : decode cX7_common 10 = .ok (.iload_n 1, 1) := by decide +kernel
theorem dX7_common_11 : decode cX7_common 11 = .ok (.iload_n 3, 1) := by decide +kernel
theorem dX7_common_12 : decode cX7_common 12 = .ok (.invokevirtual 180, 3) := by decide +kernel
theorem dX7_common_15 : decode cX7_common 15 = .ok (.ifCond .eq 14, 3) := by decide +kernel
theorem dX7_common_18 : decode cX7_common 18 = .ok (.aload_n 0, 1) := by decide +kernel
theorem dX7_common_19 : decode cX7_common 19 = .ok (.iload_n 2, 1) := by decide +kernel
theorem dX7_common_20 : decode cX7_common 20 = .ok (.iload_n 3, 1) := by decide +kernel
theorem dX7_common_21 : decode cX7_common 21 = .ok (.invokevirtual 180, 3) := by decide +kernel
theorem dX7_common_24 : decode cX7_common 24 = .ok (.ifCond .eq 5, 3) := by decide +kernel
theorem dX7_common_27 : decode cX7_common 27 = .ok (.iload_n 3, 1) := by decide +kernel
theorem dX7_common_28 : decode cX7_common 28 = .ok (.ireturn, 1) := by decide +kernel
theorem dX7_common_29 : decode cX7_common 29 = .ok (.iinc 3 1, 3) := by decide +kernel
theorem dX7_common_32 : decode cX7_common 32 = .ok (.goto (-30), 3) := by decide +kernel
theorem dX7_common_35 : decode cX7_common 35 = .ok (.iconst (-1), 1) := by decide +kernel
theorem dX7_common_36 : decode cX7_common 36 = .ok (.ireturn, 1) := by decide +kernel
theorem dX7_firstOfAll_0 : decode cX7_firstOfAll 0 = .ok (.iconst 0, 1) := by decide +kernel
theorem dX7_firstOfAll_1 : decode cX7_firstOfAll 1 = .ok (.istore_n 1, 1) := by decide +kernel
theorem dX7_firstOfAll_2 : decode cX7_firstOfAll 2 = .ok (.iload_n 1, 1) := by decide +kernel
theorem dX7_firstOfAll_3 : decode cX7_firstOfAll 3 = .ok (.sipush 420, 3) := by decide +kernel
theorem dX7_firstOfAll_6 : decode cX7_firstOfAll 6 = .ok (.if_icmp .ge 52, 3) := by decide +kernel
theorem dX7_firstOfAll_9 : decode cX7_firstOfAll 9 = .ok (.iconst 1, 1) := by decide +kernel
theorem dX7_firstOfAll_10 : decode cX7_firstOfAll 10 = .ok (.istore_n 2, 1) := by decide +kernel
theorem dX7_firstOfAll_11 : decode cX7_firstOfAll 11 = .ok (.iconst 0, 1) := by decide +kernel
theorem dX7_firstOfAll_12 : decode cX7_firstOfAll 12 = .ok (.istore_n 3, 1) := by decide +kernel
theorem dX7_firstOfAll_13 : decode cX7_firstOfAll 13 = .ok (.iload_n 3, 1) := by decide +kernel
theorem dX7_firstOfAll_14 : decode cX7_firstOfAll 14 = .ok (.aload_n 0, 1) := by decide +kernel
theorem dX7_firstOfAll_15 : decode cX7_firstOfAll 15 = .ok (.getfield 115, 3) := by decide +kernel
theorem dX7_firstOfAll_18 : decode cX7_firstOfAll 18 = .ok (.if_icmp .ge 28, 3) := by decide +kernel
theorem dX7_firstOfAll_21 : decode cX7_firstOfAll 21 = .ok (.iload_n 2, 1) := by decide +kernel
theorem dX7_firstOfAll_22 : decode cX7_firstOfAll 22 = .ok (.ifCond .eq 16, 3) := by decide +kernel
theorem dX7_firstOfAll_25 : decode cX7_firstOfAll 25 = .ok (.aload_n 0, 1) := by decide +kernel
theorem dX7_firstOfAll_26 : decode cX7_firstOfAll 26 = .ok (.iload_n 3, 1) := by decide +kernel
theorem dX7_firstOfAll_27 : decode cX7_firstOfAll 27 = .ok (.iload_n 1, 1) := by decide +kernel
theorem dX7_firstOfAll_28 : decode cX7_firstOfAll 28 = .ok (.invokevirtual 180, 3) := by decide +kernel
theorem dX7_firstOfAll_31 : decode cX7_firstOfAll 31 = .ok (.ifCond .eq 7, 3) := by decide +kernel
theorem dX7_firstOfAll_34 : decode cX7_firstOfAll 34 = .ok (.iconst 1, 1) := by decide +kernel
theorem dX7_firstOfAll_35 : decode cX7_firstOfAll 35 = .ok (.goto 4, 3) := by decide +kernel
theorem dX7_firstOfAll_38 : decode cX7_firstOfAll 38 = .ok (.iconst 0, 1) := by decide +kernel
theorem dX7_firstOfAll_39 : decode cX7_firstOfAll 39 = .ok (.istore_n 2, 1) := by decide +kernel
theorem dX7_firstOfAll_40 : decode cX7_firstOfAll 40 = .ok (.iinc 3 1, 3) := by decide +kernel
theorem dX7_firstOfAll_43 : decode cX7_firstOfAll 43 = .ok (.goto (-30), 3) := by decide +kernel
theorem dX7_firstOfAll_46 : decode cX7_firstOfAll 46 = .ok (.iload_n 2, 1) := by decide +kernel
theorem dX7_firstOfAll_47 : decode cX7_firstOfAll 47 = .ok (.ifCond .eq 5, 3) := by decide +kernel
theorem dX7_firstOfAll_50 : decode cX7_firstOfAll 50 = .ok (.iload_n 1, 1) := by decide +kernel
theorem dX7_firstOfAll_51 : decode cX7_firstOfAll 51 = .ok (.ireturn, 1) := by decide +kernel
theorem dX7_firstOfAll_52 : decode cX7_firstOfAll 52 = .ok (.iinc 1 1, 3) := by decide +kernel
theorem dX7_firstOfAll_55 : decode cX7_firstOfAll 55 = .ok (.goto (-53), 3) := by decide +kernel
theorem dX7_firstOfAll_58 : decode cX7_firstOfAll 58 = .ok (.iconst (-1), 1) := by decide +kernel
theorem dX7_firstOfAll_59 : decode cX7_firstOfAll 59 = .ok (.ireturn, 1) := by decide +kernel
theorem dX7_whoForbids_0 : decode cX7_whoForbids 0 = .ok (.iconst 0, 1) := by decide +kernel
theorem dX7_whoForbids_1 : decode cX7_whoForbids 1 = .ok (.istore_n 1, 1) := by decide +kernel
theorem dX7_whoForbids_2 : decode cX7_whoForbids 2 = .ok (.iload_n 1, 1) := by decide +kernel
theorem dX7_whoForbids_3 : decode cX7_whoForbids 3 = .ok (.aload_n 0, 1) := by decide +kernel
theorem dX7_whoForbids_4 : decode cX7_whoForbids 4 = .ok (.getfield 115, 3) := by decide +kernel
theorem dX7_whoForbids_7 : decode cX7_whoForbids 7 = .ok (.if_icmp .ge 28, 3) := by decide +kernel
theorem dX7_whoForbids_10 : decode cX7_whoForbids 10 = .ok (.aload_n 0, 1) := by decide +kernel
theorem dX7_whoForbids_11 : decode cX7_whoForbids 11 = .ok (.iload_n 1, 1) := by decide +kernel
theorem dX7_whoForbids_12 : decode cX7_whoForbids 12 = .ok (.iload_n 1, 1) := by decide +kernel
theorem dX7_whoForbids_13 : decode cX7_whoForbids 13 = .ok (.invokevirtual 183, 3) := by decide +kernel
theorem dX7_whoForbids_16 : decode cX7_whoForbids 16 = .ok (.iconst (-1), 1) := by decide +kernel
theorem dX7_whoForbids_17 : decode cX7_whoForbids 17 = .ok (.if_icmp .ne 12, 3) := by decide +kernel
theorem dX7_whoForbids_20 : decode cX7_whoForbids 20 = .ok (.sipush (-1000), 3) := by decide +kernel
theorem dX7_whoForbids_23 : decode cX7_whoForbids 23 = .ok (.bipush 17, 2) := by decide +kernel
theorem dX7_whoForbids_25 : decode cX7_whoForbids 25 = .ok (.iload_n 1, 1) := by decide +kernel
theorem dX7_whoForbids_26 : decode cX7_whoForbids 26 = .ok (.imul, 1) := by decide +kernel
theorem dX7_whoForbids_27 : decode cX7_whoForbids 27 = .ok (.isub, 1) := by decide +kernel
theorem dX7_whoForbids_28 : decode cX7_whoForbids 28 = .ok (.ireturn, 1) := by decide +kernel
theorem dX7_whoForbids_29 : decode cX7_whoForbids 29 = .ok (.iinc 1 1, 3) := by decide +kernel
theorem dX7_whoForbids_32 : decode cX7_whoForbids 32 = .ok (.goto (-30), 3) := by decide +kernel
theorem dX7_whoForbids_35 : decode cX7_whoForbids 35 = .ok (.iconst 0, 1) := by decide +kernel
theorem dX7_whoForbids_36 : decode cX7_whoForbids 36 = .ok (.istore_n 1, 1) := by decide +kernel
theorem dX7_whoForbids_37 : decode cX7_whoForbids 37 = .ok (.iload_n 1, 1) := by decide +kernel
theorem dX7_whoForbids_38 : decode cX7_whoForbids 38 = .ok (.aload_n 0, 1) := by decide +kernel
theorem dX7_whoForbids_39 : decode cX7_whoForbids 39 = .ok (.getfield 115, 3) := by decide +kernel
theorem dX7_whoForbids_42 : decode cX7_whoForbids 42 = .ok (.if_icmp .ge 66, 3) := by decide +kernel
theorem dX7_whoForbids_45 : decode cX7_whoForbids 45 = .ok (.iconst 0, 1) := by decide +kernel
theorem dX7_whoForbids_46 : decode cX7_whoForbids 46 = .ok (.istore_n 2, 1) := by decide +kernel
theorem dX7_whoForbids_47 : decode cX7_whoForbids 47 = .ok (.iload_n 2, 1) := by decide +kernel
theorem dX7_whoForbids_48 : decode cX7_whoForbids 48 = .ok (.aload_n 0, 1) := by decide +kernel
theorem dX7_whoForbids_49 : decode cX7_whoForbids 49 = .ok (.getfield 115, 3) := by decide +kernel
theorem dX7_whoForbids_52 : decode cX7_whoForbids 52 = .ok (.if_icmp .ge 50, 3) := by decide +kernel
theorem dX7_whoForbids_55 : decode cX7_whoForbids 55 = .ok (.aload_n 0, 1) := by decide +kernel
theorem dX7_whoForbids_56 : decode cX7_whoForbids 56 = .ok (.getfield 19, 3) := by decide +kernel
theorem dX7_whoForbids_59 : decode cX7_whoForbids 59 = .ok (.iload_n 1, 1) := by decide +kernel
theorem dX7_whoForbids_60 : decode cX7_whoForbids 60 = .ok (.iaload, 1) := by decide +kernel
theorem dX7_whoForbids_61 : decode cX7_whoForbids 61 = .ok (.iconst 1, 1) := by decide +kernel
theorem dX7_whoForbids_62 : decode cX7_whoForbids 62 = .ok (.if_icmp .ne 34, 3) := by decide +kernel
theorem dX7_whoForbids_65 : decode cX7_whoForbids 65 = .ok (.aload_n 0, 1) := by decide +kernel
theorem dX7_whoForbids_66 : decode cX7_whoForbids 66 = .ok (.getfield 19, 3) := by decide +kernel
theorem dX7_whoForbids_69 : decode cX7_whoForbids 69 = .ok (.iload_n 2, 1) := by decide +kernel
theorem dX7_whoForbids_70 : decode cX7_whoForbids 70 = .ok (.iaload, 1) := by decide +kernel
theorem dX7_whoForbids_71 : decode cX7_whoForbids 71 = .ok (.iconst 2, 1) := by decide +kernel
theorem dX7_whoForbids_72 : decode cX7_whoForbids 72 = .ok (.if_icmp .ne 24, 3) := by decide +kernel
theorem dX7_whoForbids_75 : decode cX7_whoForbids 75 = .ok (.aload_n 0, 1) := by decide +kernel
theorem dX7_whoForbids_76 : decode cX7_whoForbids 76 = .ok (.iload_n 1, 1) := by decide +kernel
theorem dX7_whoForbids_77 : decode cX7_whoForbids 77 = .ok (.iload_n 2, 1) := by decide +kernel
theorem dX7_whoForbids_78 : decode cX7_whoForbids 78 = .ok (.invokevirtual 183, 3) := by decide +kernel
theorem dX7_whoForbids_81 : decode cX7_whoForbids 81 = .ok (.iconst (-1), 1) := by decide +kernel
theorem dX7_whoForbids_82 : decode cX7_whoForbids 82 = .ok (.if_icmp .ne 14, 3) := by decide +kernel
theorem dX7_whoForbids_85 : decode cX7_whoForbids 85 = .ok (.sipush (-1000), 3) := by decide +kernel
theorem dX7_whoForbids_88 : decode cX7_whoForbids 88 = .ok (.bipush 16, 2) := by decide +kernel
theorem dX7_whoForbids_90 : decode cX7_whoForbids 90 = .ok (.iload_n 1, 1) := by decide +kernel
theorem dX7_whoForbids_91 : decode cX7_whoForbids 91 = .ok (.imul, 1) := by decide +kernel
theorem dX7_whoForbids_92 : decode cX7_whoForbids 92 = .ok (.isub, 1) := by decide +kernel
theorem dX7_whoForbids_93 : decode cX7_whoForbids 93 = .ok (.iload_n 2, 1) := by decide +kernel
theorem dX7_whoForbids_94 : decode cX7_whoForbids 94 = .ok (.isub, 1) := by decide +kernel
theorem dX7_whoForbids_95 : decode cX7_whoForbids 95 = .ok (.ireturn, 1) := by decide +kernel
theorem dX7_whoForbids_96 : decode cX7_whoForbids 96 = .ok (.iinc 2 1, 3) := by decide +kernel
theorem dX7_whoForbids_99 : decode cX7_whoForbids 99 = .ok (.goto (-52), 3) := by decide +kernel
theorem dX7_whoForbids_102 : decode cX7_whoForbids 102 = .ok (.iinc 1 1, 3) := by decide +kernel
theorem dX7_whoForbids_105 : decode cX7_whoForbids 105 = .ok (.goto (-68), 3) := by decide +kernel
theorem dX7_whoForbids_108 : decode cX7_whoForbids 108 = .ok (.sipush (-999), 3) := by decide +kernel
theorem dX7_whoForbids_111 : decode cX7_whoForbids 111 = .ok (.ireturn, 1) := by decide +kernel
theorem dX7_marks_0 : decode cX7_marks 0 = .ok (.iload_n 1, 1) := by decide +kernel
theorem dX7_marks_1 : decode cX7_marks 1 = .ok (.iconst 0, 1) := by decide +kernel
theorem dX7_marks_2 : decode cX7_marks 2 = .ok (.bipush 100, 2) := by decide +kernel
theorem dX7_marks_4 : decode cX7_marks 4 = .ok (.invokestatic 124, 3) := by decide +kernel
theorem dX7_marks_7 : decode cX7_marks 7 = .ok (.ifCond .ne 6, 3) := by decide +kernel
theorem dX7_marks_10 : decode cX7_marks 10 = .ok (.bipush (-2), 2) := by decide +kernel
theorem dX7_marks_12 : decode cX7_marks 12 = .ok (.ireturn, 1) := by decide +kernel
theorem dX7_marks_13 : decode cX7_marks 13 = .ok (.iconst 1, 1) := by decide +kernel
theorem dX7_marks_14 : decode cX7_marks 14 = .ok (.istore_n 2, 1) := by decide +kernel
theorem dX7_marks_15 : decode cX7_marks 15 = .ok (.iconst 0, 1) := by decide +kernel
theorem dX7_marks_16 : decode cX7_marks 16 = .ok (.istore_n 3, 1) := by decide +kernel
theorem dX7_marks_17 : decode cX7_marks 17 = .ok (.iload_n 3, 1) := by decide +kernel
theorem dX7_marks_18 : decode cX7_marks 18 = .ok (.aload_n 0, 1) := by decide +kernel
theorem dX7_marks_19 : decode cX7_marks 19 = .ok (.getfield 115, 3) := by decide +kernel
theorem dX7_marks_22 : decode cX7_marks 22 = .ok (.if_icmp .ge 28, 3) := by decide +kernel
theorem dX7_marks_25 : decode cX7_marks 25 = .ok (.iload_n 2, 1) := by decide +kernel
theorem dX7_marks_26 : decode cX7_marks 26 = .ok (.ifCond .eq 16, 3) := by decide +kernel
theorem dX7_marks_29 : decode cX7_marks 29 = .ok (.aload_n 0, 1) := by decide +kernel
theorem dX7_marks_30 : decode cX7_marks 30 = .ok (.getfield 19, 3) := by decide +kernel
theorem dX7_marks_33 : decode cX7_marks 33 = .ok (.iload_n 3, 1) := by decide +kernel
theorem dX7_marks_34 : decode cX7_marks 34 = .ok (.iaload, 1) := by decide +kernel
theorem dX7_marks_35 : decode cX7_marks 35 = .ok (.ifCond .ne 7, 3) := by decide +kernel
theorem dX7_marks_38 : decode cX7_marks 38 = .ok (.iconst 1, 1) := by decide +kernel
theorem dX7_marks_39 : decode cX7_marks 39 = .ok (.goto 4, 3) := by decide +kernel
theorem dX7_marks_42 : decode cX7_marks 42 = .ok (.iconst 0, 1) := by decide +kernel
theorem dX7_marks_43 : decode cX7_marks 43 = .ok (.istore_n 2, 1) := by decide +kernel
theorem dX7_marks_44 : decode cX7_marks 44 = .ok (.iinc 3 1, 3) := by decide +kernel
theorem dX7_marks_47 : decode cX7_marks 47 = .ok (.goto (-30), 3) := by decide +kernel
theorem dX7_marks_50 : decode cX7_marks 50 = .ok (.iload_n 2, 1) := by decide +kernel
theorem dX7_marks_51 : decode cX7_marks 51 = .ok (.ifCond .eq 6, 3) := by decide +kernel
theorem dX7_marks_54 : decode cX7_marks 54 = .ok (.bipush (-3), 2) := by decide +kernel
theorem dX7_marks_56 : decode cX7_marks 56 = .ok (.ireturn, 1) := by decide +kernel
theorem dX7_marks_57 : decode cX7_marks 57 = .ok (.aload_n 0, 1) := by decide +kernel
theorem dX7_marks_58 : decode cX7_marks 58 = .ok (.iload_n 1, 1) := by decide +kernel
theorem dX7_marks_59 : decode cX7_marks 59 = .ok (.invokevirtual 186, 3) := by decide +kernel
theorem dX7_marks_62 : decode cX7_marks 62 = .ok (.aload_n 0, 1) := by decide +kernel
theorem dX7_marks_63 : decode cX7_marks 63 = .ok (.invokevirtual 189, 3) := by decide +kernel
theorem dX7_marks_66 : decode cX7_marks 66 = .ok (.istore_n 3, 1) := by decide +kernel
theorem dX7_marks_67 : decode cX7_marks 67 = .ok (.iload_n 3, 1) := by decide +kernel
theorem dX7_marks_68 : decode cX7_marks 68 = .ok (.iconst (-1), 1) := by decide +kernel
theorem dX7_marks_69 : decode cX7_marks 69 = .ok (.if_icmp .ne 8, 3) := by decide +kernel
theorem dX7_marks_72 : decode cX7_marks 72 = .ok (.aload_n 0, 1) := by decide +kernel
theorem dX7_marks_73 : decode cX7_marks 73 = .ok (.invokevirtual 193, 3) := by decide +kernel
theorem dX7_marks_76 : decode cX7_marks 76 = .ok (.ireturn, 1) := by decide +kernel
theorem dX7_marks_77 : decode cX7_marks 77 = .ok (.sipush 500, 3) := by decide +kernel
theorem dX7_marks_80 : decode cX7_marks 80 = .ok (.istore 4, 2) := by decide +kernel
theorem dX7_marks_82 : decode cX7_marks 82 = .ok (.iload_n 3, 1) := by decide +kernel
theorem dX7_marks_83 : decode cX7_marks 83 = .ok (.istore 5, 2) := by decide +kernel
theorem dX7_marks_85 : decode cX7_marks 85 = .ok (.iload 5, 2) := by decide +kernel
theorem dX7_marks_87 : decode cX7_marks 87 = .ok (.iload 4, 2) := by decide +kernel
theorem dX7_marks_89 : decode cX7_marks 89 = .ok (.sipush 250, 3) := by decide +kernel
theorem dX7_marks_92 : decode cX7_marks 92 = .ok (.idiv, 1) := by decide +kernel
theorem dX7_marks_93 : decode cX7_marks 93 = .ok (.if_icmp .lt 23, 3) := by decide +kernel
theorem dX7_marks_96 : decode cX7_marks 96 = .ok (.iload 5, 2) := by decide +kernel
theorem dX7_marks_98 : decode cX7_marks 98 = .ok (.iload 4, 2) := by decide +kernel
theorem dX7_marks_100 : decode cX7_marks 100 = .ok (.sipush 250, 3) := by decide +kernel
theorem dX7_marks_103 : decode cX7_marks 103 = .ok (.idiv, 1) := by decide +kernel
theorem dX7_marks_104 : decode cX7_marks 104 = .ok (.isub, 1) := by decide +kernel
theorem dX7_marks_105 : decode cX7_marks 105 = .ok (.istore 5, 2) := by decide +kernel
theorem dX7_marks_107 : decode cX7_marks 107 = .ok (.iinc 4 500, 6) := by decide +kernel
theorem dX7_marks_113 : decode cX7_marks 113 = .ok (.goto (-28), 3) := by decide +kernel
theorem dX7_marks_116 : decode cX7_marks 116 = .ok (.ldc 132, 2) := by decide +kernel
theorem dX7_marks_118 : decode cX7_marks 118 = .ok (.iload 4, 2) := by decide +kernel
theorem dX7_marks_120 : decode cX7_marks 120 = .ok (.imul, 1) := by decide +kernel
theorem dX7_marks_121 : decode cX7_marks 121 = .ok (.sipush 250, 3) := by decide +kernel
theorem dX7_marks_124 : decode cX7_marks 124 = .ok (.iload 5, 2) := by decide +kernel
theorem dX7_marks_126 : decode cX7_marks 126 = .ok (.iconst 1, 1) := by decide +kernel
theorem dX7_marks_127 : decode cX7_marks 127 = .ok (.iadd, 1) := by decide +kernel
theorem dX7_marks_128 : decode cX7_marks 128 = .ok (.imul, 1) := by decide +kernel
theorem dX7_marks_129 : decode cX7_marks 129 = .ok (.iadd, 1) := by decide +kernel
theorem dX7_marks_130 : decode cX7_marks 130 = .ok (.ireturn, 1) := by decide +kernel
theorem dX7_isHouse_0 : decode cX7_isHouse 0 = .ok (.iload_n 0, 1) := by decide +kernel
theorem dX7_isHouse_1 : decode cX7_isHouse 1 = .ok (.iconst 0, 1) := by decide +kernel
theorem dX7_isHouse_2 : decode cX7_isHouse 2 = .ok (.iconst 4, 1) := by decide +kernel
theorem dX7_isHouse_3 : decode cX7_isHouse 3 = .ok (.invokestatic 124, 3) := by decide +kernel
theorem dX7_isHouse_6 : decode cX7_isHouse 6 = .ok (.ireturn, 1) := by decide +kernel
theorem dX7_way_0 : decode cX7_way 0 = .ok (.iload_n 1, 1) := by decide +kernel
theorem dX7_way_1 : decode cX7_way 1 = .ok (.invokestatic 196, 3) := by decide +kernel
theorem dX7_way_4 : decode cX7_way 4 = .ok (.ifCond .eq 15, 3) := by decide +kernel
theorem dX7_way_7 : decode cX7_way 7 = .ok (.iload_n 2, 1) := by decide +kernel
theorem dX7_way_8 : decode cX7_way 8 = .ok (.invokestatic 196, 3) := by decide +kernel
theorem dX7_way_11 : decode cX7_way 11 = .ok (.ifCond .eq 8, 3) := by decide +kernel
theorem dX7_way_14 : decode cX7_way 14 = .ok (.iload_n 1, 1) := by decide +kernel
theorem dX7_way_15 : decode cX7_way 15 = .ok (.iload_n 2, 1) := by decide +kernel
theorem dX7_way_16 : decode cX7_way 16 = .ok (.if_icmp .ne 6, 3) := by decide +kernel
theorem dX7_way_19 : decode cX7_way 19 = .ok (.bipush (-2), 2) := by decide +kernel
theorem dX7_way_21 : decode cX7_way 21 = .ok (.ireturn, 1) := by decide +kernel
theorem dX7_way_22 : decode cX7_way 22 = .ok (.aload_n 0, 1) := by decide +kernel
theorem dX7_way_23 : decode cX7_way 23 = .ok (.getfield 68, 3) := by decide +kernel
theorem dX7_way_26 : decode cX7_way 26 = .ok (.iconst 5, 1) := by decide +kernel
theorem dX7_way_27 : decode cX7_way 27 = .ok (.iload_n 1, 1) := by decide +kernel
theorem dX7_way_28 : decode cX7_way 28 = .ok (.imul, 1) := by decide +kernel
theorem dX7_way_29 : decode cX7_way 29 = .ok (.iload_n 2, 1) := by decide +kernel
theorem dX7_way_30 : decode cX7_way 30 = .ok (.iadd, 1) := by decide +kernel
theorem dX7_way_31 : decode cX7_way 31 = .ok (.baload, 1) := by decide +kernel
theorem dX7_way_32 : decode cX7_way 32 = .ok (.iload_n 3, 1) := by decide +kernel
theorem dX7_way_33 : decode cX7_way 33 = .ok (.if_icmp .ne 6, 3) := by decide +kernel
theorem dX7_way_36 : decode cX7_way 36 = .ok (.bipush (-3), 2) := by decide +kernel
theorem dX7_way_38 : decode cX7_way 38 = .ok (.ireturn, 1) := by decide +kernel
theorem dX7_way_39 : decode cX7_way 39 = .ok (.aload_n 0, 1) := by decide +kernel
theorem dX7_way_40 : decode cX7_way 40 = .ok (.getfield 68, 3) := by decide +kernel
theorem dX7_way_43 : decode cX7_way 43 = .ok (.iconst 5, 1) := by decide +kernel
theorem dX7_way_44 : decode cX7_way 44 = .ok (.iload_n 1, 1) := by decide +kernel
theorem dX7_way_45 : decode cX7_way 45 = .ok (.imul, 1) := by decide +kernel
theorem dX7_way_46 : decode cX7_way 46 = .ok (.iload_n 2, 1) := by decide +kernel
theorem dX7_way_47 : decode cX7_way 47 = .ok (.iadd, 1) := by decide +kernel
theorem dX7_way_48 : decode cX7_way 48 = .ok (.iload_n 3, 1) := by decide +kernel
theorem dX7_way_49 : decode cX7_way 49 = .ok (.bastore, 1) := by decide +kernel
theorem dX7_way_50 : decode cX7_way 50 = .ok (.aload_n 0, 1) := by decide +kernel
theorem dX7_way_51 : decode cX7_way 51 = .ok (.getfield 68, 3) := by decide +kernel
theorem dX7_way_54 : decode cX7_way 54 = .ok (.iconst 5, 1) := by decide +kernel
theorem dX7_way_55 : decode cX7_way 55 = .ok (.iload_n 2, 1) := by decide +kernel
theorem dX7_way_56 : decode cX7_way 56 = .ok (.imul, 1) := by decide +kernel
theorem dX7_way_57 : decode cX7_way 57 = .ok (.iload_n 1, 1) := by decide +kernel
theorem dX7_way_58 : decode cX7_way 58 = .ok (.iadd, 1) := by decide +kernel
theorem dX7_way_59 : decode cX7_way 59 = .ok (.iload_n 3, 1) := by decide +kernel
theorem dX7_way_60 : decode cX7_way 60 = .ok (.bastore, 1) := by decide +kernel
theorem dX7_way_61 : decode cX7_way 61 = .ok (.iload_n 3, 1) := by decide +kernel
theorem dX7_way_62 : decode cX7_way 62 = .ok (.ifCond .ne 25, 3) := by decide +kernel
theorem dX7_way_65 : decode cX7_way 65 = .ok (.aload_n 0, 1) := by decide +kernel
theorem dX7_way_66 : decode cX7_way 66 = .ok (.getfield 77, 3) := by decide +kernel
theorem dX7_way_69 : decode cX7_way 69 = .ok (.iconst 5, 1) := by decide +kernel
theorem dX7_way_70 : decode cX7_way 70 = .ok (.iload_n 1, 1) := by decide +kernel
theorem dX7_way_71 : decode cX7_way 71 = .ok (.imul, 1) := by decide +kernel
theorem dX7_way_72 : decode cX7_way 72 = .ok (.iload_n 2, 1) := by decide +kernel
theorem dX7_way_73 : decode cX7_way 73 = .ok (.iadd, 1) := by decide +kernel
theorem dX7_way_74 : decode cX7_way 74 = .ok (.iconst 0, 1) := by decide +kernel
theorem dX7_way_75 : decode cX7_way 75 = .ok (.iastore, 1) := by decide +kernel
theorem dX7_way_76 : decode cX7_way 76 = .ok (.aload_n 0, 1) := by decide +kernel
theorem dX7_way_77 : decode cX7_way 77 = .ok (.getfield 77, 3) := by decide +kernel
theorem dX7_way_80 : decode cX7_way 80 = .ok (.iconst 5, 1) := by decide +kernel
theorem dX7_way_81 : decode cX7_way 81 = .ok (.iload_n 2, 1) := by decide +kernel
theorem dX7_way_82 : decode cX7_way 82 = .ok (.imul, 1) := by decide +kernel
theorem dX7_way_83 : decode cX7_way 83 = .ok (.iload_n 1, 1) := by decide +kernel
theorem dX7_way_84 : decode cX7_way 84 = .ok (.iadd, 1) := by decide +kernel
theorem dX7_way_85 : decode cX7_way 85 = .ok (.iconst 0, 1) := by decide +kernel
theorem dX7_way_86 : decode cX7_way 86 = .ok (.iastore, 1) := by decide +kernel
theorem dX7_way_87 : decode cX7_way 87 = .ok (.iconst 1, 1) := by decide +kernel
theorem dX7_way_88 : decode cX7_way 88 = .ok (.ireturn, 1) := by decide +kernel
theorem dX7_bind_0 : decode cX7_bind 0 = .ok (.aload_n 0, 1) := by decide +kernel
theorem dX7_bind_1 : decode cX7_bind 1 = .ok (.iload_n 1, 1) := by decide +kernel
theorem dX7_bind_2 : decode cX7_bind 2 = .ok (.invokevirtual 154, 3) := by decide +kernel
theorem dX7_bind_5 : decode cX7_bind 5 = .ok (.ifCond .eq 24, 3) := by decide +kernel
theorem dX7_bind_8 : decode cX7_bind 8 = .ok (.iload_n 2, 1) := by decide +kernel
theorem dX7_bind_9 : decode cX7_bind 9 = .ok (.iconst 1, 1) := by decide +kernel
theorem dX7_bind_10 : decode cX7_bind 10 = .ok (.iconst 4, 1) := by decide +kernel
theorem dX7_bind_11 : decode cX7_bind 11 = .ok (.invokestatic 124, 3) := by decide +kernel
theorem dX7_bind_14 : decode cX7_bind 14 = .ok (.ifCond .eq 15, 3) := by decide +kernel
theorem dX7_bind_17 : decode cX7_bind 17 = .ok (.iload_n 3, 1) := by decide +kernel
theorem dX7_bind_18 : decode cX7_bind 18 = .ok (.invokestatic 196, 3) := by decide +kernel
theorem dX7_bind_21 : decode cX7_bind 21 = .ok (.ifCond .eq 8, 3) := by decide +kernel
theorem dX7_bind_24 : decode cX7_bind 24 = .ok (.iload_n 2, 1) := by decide +kernel
theorem dX7_bind_25 : decode cX7_bind 25 = .ok (.iload_n 3, 1) := by decide +kernel
theorem dX7_bind_26 : decode cX7_bind 26 = .ok (.if_icmp .ne 6, 3) := by decide +kernel
theorem dX7_bind_29 : decode cX7_bind 29 = .ok (.bipush (-2), 2) := by decide +kernel
theorem dX7_bind_31 : decode cX7_bind 31 = .ok (.ireturn, 1) := by decide +kernel
theorem dX7_bind_32 : decode cX7_bind 32 = .ok (.aload_n 0, 1) := by decide +kernel
theorem dX7_bind_33 : decode cX7_bind 33 = .ok (.getfield 71, 3) := by decide +kernel
theorem dX7_bind_36 : decode cX7_bind 36 = .ok (.iconst 5, 1) := by decide +kernel
theorem dX7_bind_37 : decode cX7_bind 37 = .ok (.iload_n 2, 1) := by decide +kernel
theorem dX7_bind_38 : decode cX7_bind 38 = .ok (.imul, 1) := by decide +kernel
theorem dX7_bind_39 : decode cX7_bind 39 = .ok (.iload_n 3, 1) := by decide +kernel
theorem dX7_bind_40 : decode cX7_bind 40 = .ok (.iadd, 1) := by decide +kernel
theorem dX7_bind_41 : decode cX7_bind 41 = .ok (.iload_n 1, 1) := by decide +kernel
theorem dX7_bind_42 : decode cX7_bind 42 = .ok (.iastore, 1) := by decide +kernel
theorem dX7_bind_43 : decode cX7_bind 43 = .ok (.iconst 1, 1) := by decide +kernel
theorem dX7_bind_44 : decode cX7_bind 44 = .ok (.ireturn, 1) := by decide +kernel
theorem dX7_holds_0 : decode cX7_holds 0 = .ok (.iconst 0, 1) := by decide +kernel
theorem dX7_holds_1 : decode cX7_holds 1 = .ok (.istore_n 3, 1) := by decide +kernel
theorem dX7_holds_2 : decode cX7_holds 2 = .ok (.iload_n 3, 1) := by decide +kernel
theorem dX7_holds_3 : decode cX7_holds 3 = .ok (.aload_n 0, 1) := by decide +kernel
theorem dX7_holds_4 : decode cX7_holds 4 = .ok (.getfield 77, 3) := by decide +kernel
theorem dX7_holds_7 : decode cX7_holds 7 = .ok (.iload_n 1, 1) := by decide +kernel
theorem dX7_holds_8 : decode cX7_holds 8 = .ok (.iaload, 1) := by decide +kernel
theorem dX7_holds_9 : decode cX7_holds 9 = .ok (.if_icmp .ge 25, 3) := by decide +kernel
theorem dX7_holds_12 : decode cX7_holds 12 = .ok (.aload_n 0, 1) := by decide +kernel
theorem dX7_holds_13 : decode cX7_holds 13 = .ok (.getfield 74, 3) := by decide +kernel
theorem dX7_holds_16 : decode cX7_holds 16 = .ok (.iconst 5, 1) := by decide +kernel
theorem dX7_holds_17 : decode cX7_holds 17 = .ok (.iload_n 1, 1) := by decide +kernel
theorem dX7_holds_18 : decode cX7_holds 18 = .ok (.imul, 1) := by decide +kernel
theorem dX7_holds_19 : decode cX7_holds 19 = .ok (.iload_n 3, 1) := by decide +kernel
theorem dX7_holds_20 : decode cX7_holds 20 = .ok (.iadd, 1) := by decide +kernel
theorem dX7_holds_21 : decode cX7_holds 21 = .ok (.iaload, 1) := by decide +kernel
theorem dX7_holds_22 : decode cX7_holds 22 = .ok (.iload_n 2, 1) := by decide +kernel
theorem dX7_holds_23 : decode cX7_holds 23 = .ok (.if_icmp .ne 5, 3) := by decide +kernel
theorem dX7_holds_26 : decode cX7_holds 26 = .ok (.iconst 1, 1) := by decide +kernel
theorem dX7_holds_27 : decode cX7_holds 27 = .ok (.ireturn, 1) := by decide +kernel
theorem dX7_holds_28 : decode cX7_holds 28 = .ok (.iinc 3 1, 3) := by decide +kernel
theorem dX7_holds_31 : decode cX7_holds 31 = .ok (.goto (-29), 3) := by decide +kernel
theorem dX7_holds_34 : decode cX7_holds 34 = .ok (.iconst 0, 1) := by decide +kernel
theorem dX7_holds_35 : decode cX7_holds 35 = .ok (.ireturn, 1) := by decide +kernel
theorem dX7_findOwn_0 : decode cX7_findOwn 0 = .ok (.aload_n 0, 1) := by decide +kernel
theorem dX7_findOwn_1 : decode cX7_findOwn 1 = .ok (.iconst 0, 1) := by decide +kernel
theorem dX7_findOwn_2 : decode cX7_findOwn 2 = .ok (.putfield 199, 3) := by decide +kernel
theorem dX7_findOwn_5 : decode cX7_findOwn 5 = .ok (.iload_n 1, 1) := by decide +kernel
theorem dX7_findOwn_6 : decode cX7_findOwn 6 = .ok (.ifCond .ne 24, 3) := by decide +kernel
theorem dX7_findOwn_9 : decode cX7_findOwn 9 = .ok (.aload_n 0, 1) := by decide +kernel
theorem dX7_findOwn_10 : decode cX7_findOwn 10 = .ok (.getfield 89, 3) := by decide +kernel
theorem dX7_findOwn_13 : decode cX7_findOwn 13 = .ok (.iconst 0, 1) := by decide +kernel
theorem dX7_findOwn_14 : decode cX7_findOwn 14 = .ok (.iconst 0, 1) := by decide +kernel
theorem dX7_findOwn_15 : decode cX7_findOwn 15 = .ok (.iastore, 1) := by decide +kernel
theorem dX7_findOwn_16 : decode cX7_findOwn 16 = .ok (.aload_n 0, 1) := by decide +kernel
theorem dX7_findOwn_17 : decode cX7_findOwn 17 = .ok (.iload_n 2, 1) := by decide +kernel
theorem dX7_findOwn_18 : decode cX7_findOwn 18 = .ok (.ifCond .eq 7, 3) := by decide +kernel
theorem dX7_findOwn_21 : decode cX7_findOwn 21 = .ok (.iconst 0, 1) := by decide +kernel
theorem dX7_findOwn_22 : decode cX7_findOwn 22 = .ok (.goto 4, 3) := by decide +kernel
theorem dX7_findOwn_25 : decode cX7_findOwn 25 = .ok (.iconst 1, 1) := by decide +kernel
theorem dX7_findOwn_26 : decode cX7_findOwn 26 = .ok (.putfield 199, 3) := by decide +kernel
theorem dX7_findOwn_29 : decode cX7_findOwn 29 = .ok (.return_, 1) := by decide +kernel
theorem dX7_findOwn_30 : decode cX7_findOwn 30 = .ok (.iconst (-1), 1) := by decide +kernel
theorem dX7_findOwn_31 : decode cX7_findOwn 31 = .ok (.istore_n 3, 1) := by decide +kernel
theorem dX7_findOwn_32 : decode cX7_findOwn 32 = .ok (.iconst 0, 1) := by decide +kernel
theorem dX7_findOwn_33 : decode cX7_findOwn 33 = .ok (.istore 4, 2) := by decide +kernel
theorem dX7_findOwn_35 : decode cX7_findOwn 35 = .ok (.iload 4, 2) := by decide +kernel
theorem dX7_findOwn_37 : decode cX7_findOwn 37 = .ok (.iconst 5, 1) := by decide +kernel
theorem dX7_findOwn_38 : decode cX7_findOwn 38 = .ok (.if_icmp .ge 61, 3) := by decide +kernel
theorem dX7_findOwn_41 : decode cX7_findOwn 41 = .ok (.iconst 5, 1) := by decide +kernel
theorem dX7_findOwn_42 : decode cX7_findOwn 42 = .ok (.iload_n 1, 1) := by decide +kernel
theorem dX7_findOwn_43 : decode cX7_findOwn 43 = .ok (.imul, 1) := by decide +kernel
theorem dX7_findOwn_44 : decode cX7_findOwn 44 = .ok (.iload 4, 2) := by decide +kernel
theorem dX7_findOwn_46 : decode cX7_findOwn 46 = .ok (.iadd, 1) := by decide +kernel
theorem dX7_findOwn_47 : decode cX7_findOwn 47 = .ok (.istore 5, 2) := by decide +kernel
theorem dX7_findOwn_49 : decode cX7_findOwn 49 = .ok (.aload_n 0, 1) := by decide +kernel
theorem dX7_findOwn_50 : decode cX7_findOwn 50 = .ok (.getfield 77, 3) := by decide +kernel
theorem dX7_findOwn_53 : decode cX7_findOwn 53 = .ok (.iload 5, 2) := by decide +kernel
theorem dX7_findOwn_55 : decode cX7_findOwn 55 = .ok (.iaload, 1) := by decide +kernel
theorem dX7_findOwn_56 : decode cX7_findOwn 56 = .ok (.ifCond .le 37, 3) := by decide +kernel
theorem dX7_findOwn_59 : decode cX7_findOwn 59 = .ok (.aload_n 0, 1) := by decide +kernel
theorem dX7_findOwn_60 : decode cX7_findOwn 60 = .ok (.iload 5, 2) := by decide +kernel
theorem dX7_findOwn_62 : decode cX7_findOwn 62 = .ok (.iload_n 1, 1) := by decide +kernel
theorem dX7_findOwn_63 : decode cX7_findOwn 63 = .ok (.invokevirtual 202, 3) := by decide +kernel
theorem dX7_findOwn_66 : decode cX7_findOwn 66 = .ok (.ifCond .ne 27, 3) := by decide +kernel
theorem dX7_findOwn_69 : decode cX7_findOwn 69 = .ok (.iload_n 3, 1) := by decide +kernel
theorem dX7_findOwn_70 : decode cX7_findOwn 70 = .ok (.iconst (-1), 1) := by decide +kernel
theorem dX7_findOwn_71 : decode cX7_findOwn 71 = .ok (.if_icmp .eq 19, 3) := by decide +kernel
theorem dX7_findOwn_74 : decode cX7_findOwn 74 = .ok (.aload_n 0, 1) := by decide +kernel
theorem dX7_findOwn_75 : decode cX7_findOwn 75 = .ok (.getfield 77, 3) := by decide +kernel
theorem dX7_findOwn_78 : decode cX7_findOwn 78 = .ok (.iload 5, 2) := by decide +kernel
theorem dX7_findOwn_80 : decode cX7_findOwn 80 = .ok (.iaload, 1) := by decide +kernel
theorem dX7_findOwn_81 : decode cX7_findOwn 81 = .ok (.aload_n 0, 1) := by decide +kernel
theorem dX7_findOwn_82 : decode cX7_findOwn 82 = .ok (.getfield 77, 3) := by decide +kernel
theorem dX7_findOwn_85 : decode cX7_findOwn 85 = .ok (.iload_n 3, 1) := by decide +kernel
theorem dX7_findOwn_86 : decode cX7_findOwn 86 = .ok (.iaload, 1) := by decide +kernel
theorem dX7_findOwn_87 : decode cX7_findOwn 87 = .ok (.if_icmp .ge 6, 3) := by decide +kernel
theorem dX7_findOwn_90 : decode cX7_findOwn 90 = .ok (.iload 5, 2) := by decide +kernel
theorem dX7_findOwn_92 : decode cX7_findOwn 92 = .ok (.istore_n 3, 1) := by decide +kernel
theorem dX7_findOwn_93 : decode cX7_findOwn 93 = .ok (.iinc 4 1, 3) := by decide +kernel
theorem dX7_findOwn_96 : decode cX7_findOwn 96 = .ok (.goto (-61), 3) := by decide +kernel
theorem dX7_findOwn_99 : decode cX7_findOwn 99 = .ok (.iload_n 3, 1) := by decide +kernel
theorem dX7_findOwn_100 : decode cX7_findOwn 100 = .ok (.iconst (-1), 1) := by decide +kernel
theorem dX7_findOwn_101 : decode cX7_findOwn 101 = .ok (.if_icmp .eq 62, 3) := by decide +kernel
theorem dX7_findOwn_104 : decode cX7_findOwn 104 = .ok (.aload_n 0, 1) := by decide +kernel
theorem dX7_findOwn_105 : decode cX7_findOwn 105 = .ok (.getfield 89, 3) := by decide +kernel
theorem dX7_findOwn_108 : decode cX7_findOwn 108 = .ok (.iconst 0, 1) := by decide +kernel
theorem dX7_findOwn_109 : decode cX7_findOwn 109 = .ok (.iload_n 1, 1) := by decide +kernel
theorem dX7_findOwn_110 : decode cX7_findOwn 110 = .ok (.iastore, 1) := by decide +kernel
theorem dX7_findOwn_111 : decode cX7_findOwn 111 = .ok (.iconst 0, 1) := by decide +kernel
theorem dX7_findOwn_112 : decode cX7_findOwn 112 = .ok (.istore 4, 2) := by decide +kernel
theorem dX7_findOwn_114 : decode cX7_findOwn 114 = .ok (.iload 4, 2) := by decide +kernel
theorem dX7_findOwn_116 : decode cX7_findOwn 116 = .ok (.aload_n 0, 1) := by decide +kernel
theorem dX7_findOwn_117 : decode cX7_findOwn 117 = .ok (.getfield 77, 3) := by decide +kernel
theorem dX7_findOwn_120 : decode cX7_findOwn 120 = .ok (.iload_n 3, 1) := by decide +kernel
theorem dX7_findOwn_121 : decode cX7_findOwn 121 = .ok (.iaload, 1) := by decide +kernel
theorem dX7_findOwn_122 : decode cX7_findOwn 122 = .ok (.if_icmp .ge 29, 3) := by decide +kernel
theorem dX7_findOwn_125 : decode cX7_findOwn 125 = .ok (.aload_n 0, 1) := by decide +kernel
theorem dX7_findOwn_126 : decode cX7_findOwn 126 = .ok (.getfield 89, 3) := by decide +kernel
theorem dX7_findOwn_129 : decode cX7_findOwn 129 = .ok (.iload 4, 2) := by decide +kernel
theorem dX7_findOwn_131 : decode cX7_findOwn 131 = .ok (.iconst 1, 1) := by decide +kernel
theorem dX7_findOwn_132 : decode cX7_findOwn 132 = .ok (.iadd, 1) := by decide +kernel
theorem dX7_findOwn_133 : decode cX7_findOwn 133 = .ok (.aload_n 0, 1) := by decide +kernel
theorem dX7_findOwn_134 : decode cX7_findOwn 134 = .ok (.getfield 74, 3) := by decide +kernel
theorem dX7_findOwn_137 : decode cX7_findOwn 137 = .ok (.iconst 5, 1) := by decide +kernel
theorem dX7_findOwn_138 : decode cX7_findOwn 138 = .ok (.iload_n 3, 1) := by decide +kernel
theorem dX7_findOwn_139 : decode cX7_findOwn 139 = .ok (.imul, 1) := by decide +kernel
theorem dX7_findOwn_140 : decode cX7_findOwn 140 = .ok (.iload 4, 2) := by decide +kernel
theorem dX7_findOwn_142 : decode cX7_findOwn 142 = .ok (.iadd, 1) := by decide +kernel
theorem dX7_findOwn_143 : decode cX7_findOwn 143 = .ok (.iaload, 1) := by decide +kernel
theorem dX7_findOwn_144 : decode cX7_findOwn 144 = .ok (.iastore, 1) := by decide +kernel
theorem dX7_findOwn_145 : decode cX7_findOwn 145 = .ok (.iinc 4 1, 3) := by decide +kernel
theorem dX7_findOwn_148 : decode cX7_findOwn 148 = .ok (.goto (-34), 3) := by decide +kernel
theorem dX7_findOwn_151 : decode cX7_findOwn 151 = .ok (.aload_n 0, 1) := by decide +kernel
theorem dX7_findOwn_152 : decode cX7_findOwn 152 = .ok (.aload_n 0, 1) := by decide +kernel
theorem dX7_findOwn_153 : decode cX7_findOwn 153 = .ok (.getfield 77, 3) := by decide +kernel
theorem dX7_findOwn_156 : decode cX7_findOwn 156 = .ok (.iload_n 3, 1) := by decide +kernel
theorem dX7_findOwn_157 : decode cX7_findOwn 157 = .ok (.iaload, 1) := by decide +kernel
theorem dX7_findOwn_158 : decode cX7_findOwn 158 = .ok (.iconst 1, 1) := by decide +kernel
theorem dX7_findOwn_159 : decode cX7_findOwn 159 = .ok (.iadd, 1) := by decide +kernel
theorem dX7_findOwn_160 : decode cX7_findOwn 160 = .ok (.putfield 199, 3) := by decide +kernel
theorem dX7_findOwn_163 : decode cX7_findOwn 163 = .ok (.return_, 1) := by decide +kernel
theorem dX7_findsAnew_0 : decode cX7_findsAnew 0 = .ok (.aload_n 0, 1) := by decide +kernel
theorem dX7_findsAnew_1 : decode cX7_findsAnew 1 = .ok (.iload_n 1, 1) := by decide +kernel
theorem dX7_findsAnew_2 : decode cX7_findsAnew 2 = .ok (.iload_n 2, 1) := by decide +kernel
theorem dX7_findsAnew_3 : decode cX7_findsAnew 3 = .ok (.invokevirtual 205, 3) := by decide +kernel
theorem dX7_findsAnew_6 : decode cX7_findsAnew 6 = .ok (.aload_n 0, 1) := by decide +kernel
theorem dX7_findsAnew_7 : decode cX7_findsAnew 7 = .ok (.getfield 199, 3) := by decide +kernel
theorem dX7_findsAnew_10 : decode cX7_findsAnew 10 = .ok (.aload_n 0, 1) := by decide +kernel
theorem dX7_findsAnew_11 : decode cX7_findsAnew 11 = .ok (.getfield 83, 3) := by decide +kernel
theorem dX7_findsAnew_14 : decode cX7_findsAnew 14 = .ok (.iload_n 1, 1) := by decide +kernel
theorem dX7_findsAnew_15 : decode cX7_findsAnew 15 = .ok (.iaload, 1) := by decide +kernel
theorem dX7_findsAnew_16 : decode cX7_findsAnew 16 = .ok (.if_icmp .ne 7, 3) := by decide +kernel
theorem dX7_findsAnew_19 : decode cX7_findsAnew 19 = .ok (.iconst 1, 1) := by decide +kernel
theorem dX7_findsAnew_20 : decode cX7_findsAnew 20 = .ok (.goto 4, 3) := by decide +kernel
theorem dX7_findsAnew_23 : decode cX7_findsAnew 23 = .ok (.iconst 0, 1) := by decide +kernel
theorem dX7_findsAnew_24 : decode cX7_findsAnew 24 = .ok (.istore_n 3, 1) := by decide +kernel
theorem dX7_findsAnew_25 : decode cX7_findsAnew 25 = .ok (.iconst 0, 1) := by decide +kernel
theorem dX7_findsAnew_26 : decode cX7_findsAnew 26 = .ok (.istore 4, 2) := by decide +kernel
theorem dX7_findsAnew_28 : decode cX7_findsAnew 28 = .ok (.iload 4, 2) := by decide +kernel
theorem dX7_findsAnew_30 : decode cX7_findsAnew 30 = .ok (.aload_n 0, 1) := by decide +kernel
theorem dX7_findsAnew_31 : decode cX7_findsAnew 31 = .ok (.getfield 199, 3) := by decide +kernel
theorem dX7_findsAnew_34 : decode cX7_findsAnew 34 = .ok (.if_icmp .ge 40, 3) := by decide +kernel
theorem dX7_findsAnew_37 : decode cX7_findsAnew 37 = .ok (.iload_n 3, 1) := by decide +kernel
theorem dX7_findsAnew_38 : decode cX7_findsAnew 38 = .ok (.ifCond .eq 36, 3) := by decide +kernel
theorem dX7_findsAnew_41 : decode cX7_findsAnew 41 = .ok (.aload_n 0, 1) := by decide +kernel
theorem dX7_findsAnew_42 : decode cX7_findsAnew 42 = .ok (.getfield 89, 3) := by decide +kernel
theorem dX7_findsAnew_45 : decode cX7_findsAnew 45 = .ok (.iload 4, 2) := by decide +kernel
theorem dX7_findsAnew_47 : decode cX7_findsAnew 47 = .ok (.iaload, 1) := by decide +kernel
theorem dX7_findsAnew_48 : decode cX7_findsAnew 48 = .ok (.aload_n 0, 1) := by decide +kernel
theorem dX7_findsAnew_49 : decode cX7_findsAnew 49 = .ok (.getfield 80, 3) := by decide +kernel
theorem dX7_findsAnew_52 : decode cX7_findsAnew 52 = .ok (.iconst 5, 1) := by decide +kernel
theorem dX7_findsAnew_53 : decode cX7_findsAnew 53 = .ok (.iload_n 1, 1) := by decide +kernel
theorem dX7_findsAnew_54 : decode cX7_findsAnew 54 = .ok (.imul, 1) := by decide +kernel
theorem dX7_findsAnew_55 : decode cX7_findsAnew 55 = .ok (.iload 4, 2) := by decide +kernel
theorem dX7_findsAnew_57 : decode cX7_findsAnew 57 = .ok (.iadd, 1) := by decide +kernel
theorem dX7_findsAnew_58 : decode cX7_findsAnew 58 = .ok (.iaload, 1) := by decide +kernel
theorem dX7_findsAnew_59 : decode cX7_findsAnew 59 = .ok (.if_icmp .ne 7, 3) := by decide +kernel
theorem dX7_findsAnew_62 : decode cX7_findsAnew 62 = .ok (.iconst 1, 1) := by decide +kernel
theorem dX7_findsAnew_63 : decode cX7_findsAnew 63 = .ok (.goto 4, 3) := by decide +kernel
theorem dX7_findsAnew_66 : decode cX7_findsAnew 66 = .ok (.iconst 0, 1) := by decide +kernel
theorem dX7_findsAnew_67 : decode cX7_findsAnew 67 = .ok (.istore_n 3, 1) := by decide +kernel
theorem dX7_findsAnew_68 : decode cX7_findsAnew 68 = .ok (.iinc 4 1, 3) := by decide +kernel
theorem dX7_findsAnew_71 : decode cX7_findsAnew 71 = .ok (.goto (-43), 3) := by decide +kernel
theorem dX7_findsAnew_74 : decode cX7_findsAnew 74 = .ok (.iload_n 3, 1) := by decide +kernel
theorem dX7_findsAnew_75 : decode cX7_findsAnew 75 = .ok (.ifCond .eq 4, 3) := by decide +kernel
theorem dX7_findsAnew_78 : decode cX7_findsAnew 78 = .ok (.return_, 1) := by decide +kernel
theorem dX7_findsAnew_79 : decode cX7_findsAnew 79 = .ok (.aload_n 0, 1) := by decide +kernel
theorem dX7_findsAnew_80 : decode cX7_findsAnew 80 = .ok (.getfield 83, 3) := by decide +kernel
theorem dX7_findsAnew_83 : decode cX7_findsAnew 83 = .ok (.iload_n 1, 1) := by decide +kernel
theorem dX7_findsAnew_84 : decode cX7_findsAnew 84 = .ok (.aload_n 0, 1) := by decide +kernel
theorem dX7_findsAnew_85 : decode cX7_findsAnew 85 = .ok (.getfield 199, 3) := by decide +kernel
theorem dX7_findsAnew_88 : decode cX7_findsAnew 88 = .ok (.iastore, 1) := by decide +kernel
theorem dX7_findsAnew_89 : decode cX7_findsAnew 89 = .ok (.iconst 0, 1) := by decide +kernel
theorem dX7_findsAnew_90 : decode cX7_findsAnew 90 = .ok (.istore 4, 2) := by decide +kernel
theorem dX7_findsAnew_92 : decode cX7_findsAnew 92 = .ok (.iload 4, 2) := by decide +kernel
theorem dX7_findsAnew_94 : decode cX7_findsAnew 94 = .ok (.aload_n 0, 1) := by decide +kernel
theorem dX7_findsAnew_95 : decode cX7_findsAnew 95 = .ok (.getfield 199, 3) := by decide +kernel
theorem dX7_findsAnew_98 : decode cX7_findsAnew 98 = .ok (.if_icmp .ge 27, 3) := by decide +kernel
theorem dX7_findsAnew_101 : decode cX7_findsAnew 101 = .ok (.aload_n 0, 1) := by decide +kernel
theorem dX7_findsAnew_102 : decode cX7_findsAnew 102 = .ok (.getfield 80, 3) := by decide +kernel
theorem dX7_findsAnew_105 : decode cX7_findsAnew 105 = .ok (.iconst 5, 1) := by decide +kernel
theorem dX7_findsAnew_106 : decode cX7_findsAnew 106 = .ok (.iload_n 1, 1) := by decide +kernel
theorem dX7_findsAnew_107 : decode cX7_findsAnew 107 = .ok (.imul, 1) := by decide +kernel
theorem dX7_findsAnew_108 : decode cX7_findsAnew 108 = .ok (.iload 4, 2) := by decide +kernel
theorem dX7_findsAnew_110 : decode cX7_findsAnew 110 = .ok (.iadd, 1) := by decide +kernel
theorem dX7_findsAnew_111 : decode cX7_findsAnew 111 = .ok (.aload_n 0, 1) := by decide +kernel
theorem dX7_findsAnew_112 : decode cX7_findsAnew 112 = .ok (.getfield 89, 3) := by decide +kernel
theorem dX7_findsAnew_115 : decode cX7_findsAnew 115 = .ok (.iload 4, 2) := by decide +kernel
theorem dX7_findsAnew_117 : decode cX7_findsAnew 117 = .ok (.iaload, 1) := by decide +kernel
theorem dX7_findsAnew_118 : decode cX7_findsAnew 118 = .ok (.iastore, 1) := by decide +kernel
theorem dX7_findsAnew_119 : decode cX7_findsAnew 119 = .ok (.iinc 4 1, 3) := by decide +kernel
theorem dX7_findsAnew_122 : decode cX7_findsAnew 122 = .ok (.goto (-30), 3) := by decide +kernel
theorem dX7_findsAnew_125 : decode cX7_findsAnew 125 = .ok (.iconst 0, 1) := by decide +kernel
theorem dX7_findsAnew_126 : decode cX7_findsAnew 126 = .ok (.istore 4, 2) := by decide +kernel
theorem dX7_findsAnew_128 : decode cX7_findsAnew 128 = .ok (.iload 4, 2) := by decide +kernel
theorem dX7_findsAnew_130 : decode cX7_findsAnew 130 = .ok (.iconst 5, 1) := by decide +kernel
theorem dX7_findsAnew_131 : decode cX7_findsAnew 131 = .ok (.if_icmp .ge 106, 3) := by decide +kernel
theorem dX7_findsAnew_134 : decode cX7_findsAnew 134 = .ok (.aload_n 0, 1) := by decide +kernel
theorem dX7_findsAnew_135 : decode cX7_findsAnew 135 = .ok (.getfield 68, 3) := by decide +kernel
theorem dX7_findsAnew_138 : decode cX7_findsAnew 138 = .ok (.iconst 5, 1) := by decide +kernel
theorem dX7_findsAnew_139 : decode cX7_findsAnew 139 = .ok (.iload_n 1, 1) := by decide +kernel
theorem dX7_findsAnew_140 : decode cX7_findsAnew 140 = .ok (.imul, 1) := by decide +kernel
theorem dX7_findsAnew_141 : decode cX7_findsAnew 141 = .ok (.iload 4, 2) := by decide +kernel
theorem dX7_findsAnew_143 : decode cX7_findsAnew 143 = .ok (.iadd, 1) := by decide +kernel
theorem dX7_findsAnew_144 : decode cX7_findsAnew 144 = .ok (.baload, 1) := by decide +kernel
theorem dX7_findsAnew_145 : decode cX7_findsAnew 145 = .ok (.ifCond .eq 86, 3) := by decide +kernel
theorem dX7_findsAnew_148 : decode cX7_findsAnew 148 = .ok (.aload_n 0, 1) := by decide +kernel
theorem dX7_findsAnew_149 : decode cX7_findsAnew 149 = .ok (.getfield 92, 3) := by decide +kernel
theorem dX7_findsAnew_152 : decode cX7_findsAnew 152 = .ok (.aload_n 0, 1) := by decide +kernel
theorem dX7_findsAnew_153 : decode cX7_findsAnew 153 = .ok (.getfield 209, 3) := by decide +kernel
theorem dX7_findsAnew_156 : decode cX7_findsAnew 156 = .ok (.iload_n 1, 1) := by decide +kernel
theorem dX7_findsAnew_157 : decode cX7_findsAnew 157 = .ok (.iastore, 1) := by decide +kernel
theorem dX7_findsAnew_158 : decode cX7_findsAnew 158 = .ok (.aload_n 0, 1) := by decide +kernel
theorem dX7_findsAnew_159 : decode cX7_findsAnew 159 = .ok (.getfield 95, 3) := by decide +kernel
theorem dX7_findsAnew_162 : decode cX7_findsAnew 162 = .ok (.aload_n 0, 1) := by decide +kernel
theorem dX7_findsAnew_163 : decode cX7_findsAnew 163 = .ok (.getfield 209, 3) := by decide +kernel
theorem dX7_findsAnew_166 : decode cX7_findsAnew 166 = .ok (.iload 4, 2) := by decide +kernel
theorem dX7_findsAnew_168 : decode cX7_findsAnew 168 = .ok (.iastore, 1) := by decide +kernel
theorem dX7_findsAnew_169 : decode cX7_findsAnew 169 = .ok (.aload_n 0, 1) := by decide +kernel
theorem dX7_findsAnew_170 : decode cX7_findsAnew 170 = .ok (.getfield 98, 3) := by decide +kernel
theorem dX7_findsAnew_173 : decode cX7_findsAnew 173 = .ok (.aload_n 0, 1) := by decide +kernel
theorem dX7_findsAnew_174 : decode cX7_findsAnew 174 = .ok (.getfield 209, 3) := by decide +kernel
theorem dX7_findsAnew_177 : decode cX7_findsAnew 177 = .ok (.aload_n 0, 1) := by decide +kernel
theorem dX7_findsAnew_178 : decode cX7_findsAnew 178 = .ok (.getfield 199, 3) := by decide +kernel
theorem dX7_findsAnew_181 : decode cX7_findsAnew 181 = .ok (.iastore, 1) := by decide +kernel
theorem dX7_findsAnew_182 : decode cX7_findsAnew 182 = .ok (.iconst 0, 1) := by decide +kernel
theorem dX7_findsAnew_183 : decode cX7_findsAnew 183 = .ok (.istore 5, 2) := by decide +kernel
theorem dX7_findsAnew_185 : decode cX7_findsAnew 185 = .ok (.iload 5, 2) := by decide +kernel
theorem dX7_findsAnew_187 : decode cX7_findsAnew 187 = .ok (.aload_n 0, 1) := by decide +kernel
theorem dX7_findsAnew_188 : decode cX7_findsAnew 188 = .ok (.getfield 199, 3) := by decide +kernel
theorem dX7_findsAnew_191 : decode cX7_findsAnew 191 = .ok (.if_icmp .ge 30, 3) := by decide +kernel
theorem dX7_findsAnew_194 : decode cX7_findsAnew 194 = .ok (.aload_n 0, 1) := by decide +kernel
theorem dX7_findsAnew_195 : decode cX7_findsAnew 195 = .ok (.getfield 102, 3) := by decide +kernel
theorem dX7_findsAnew_198 : decode cX7_findsAnew 198 = .ok (.iconst 5, 1) := by decide +kernel
theorem dX7_findsAnew_199 : decode cX7_findsAnew 199 = .ok (.aload_n 0, 1) := by decide +kernel
theorem dX7_findsAnew_200 : decode cX7_findsAnew 200 = .ok (.getfield 209, 3) := by decide +kernel
theorem dX7_findsAnew_203 : decode cX7_findsAnew 203 = .ok (.imul, 1) := by decide +kernel
theorem dX7_findsAnew_204 : decode cX7_findsAnew 204 = .ok (.iload 5, 2) := by decide +kernel
theorem dX7_findsAnew_206 : decode cX7_findsAnew 206 = .ok (.iadd, 1) := by decide +kernel
theorem dX7_findsAnew_207 : decode cX7_findsAnew 207 = .ok (.aload_n 0, 1) := by decide +kernel
theorem dX7_findsAnew_208 : decode cX7_findsAnew 208 = .ok (.getfield 89, 3) := by decide +kernel
theorem dX7_findsAnew_211 : decode cX7_findsAnew 211 = .ok (.iload 5, 2) := by decide +kernel
theorem dX7_findsAnew_213 : decode cX7_findsAnew 213 = .ok (.iaload, 1) := by decide +kernel
theorem dX7_findsAnew_214 : decode cX7_findsAnew 214 = .ok (.iastore, 1) := by decide +kernel
theorem dX7_findsAnew_215 : decode cX7_findsAnew 215 = .ok (.iinc 5 1, 3) := by decide +kernel
theorem dX7_findsAnew_218 : decode cX7_findsAnew 218 = .ok (.goto (-33), 3) := by decide +kernel
theorem dX7_findsAnew_221 : decode cX7_findsAnew 221 = .ok (.aload_n 0, 1) := by decide +kernel
theorem dX7_findsAnew_222 : decode cX7_findsAnew 222 = .ok (.dup, 1) := by decide +kernel
theorem dX7_findsAnew_223 : decode cX7_findsAnew 223 = .ok (.getfield 209, 3) := by decide +kernel
theorem dX7_findsAnew_226 : decode cX7_findsAnew 226 = .ok (.iconst 1, 1) := by decide +kernel
theorem dX7_findsAnew_227 : decode cX7_findsAnew 227 = .ok (.iadd, 1) := by decide +kernel
theorem dX7_findsAnew_228 : decode cX7_findsAnew 228 = .ok (.putfield 209, 3) := by decide +kernel
theorem dX7_findsAnew_231 : decode cX7_findsAnew 231 = .ok (.iinc 4 1, 3) := by decide +kernel
theorem dX7_findsAnew_234 : decode cX7_findsAnew 234 = .ok (.goto (-106), 3) := by decide +kernel
theorem dX7_findsAnew_237 : decode cX7_findsAnew 237 = .ok (.return_, 1) := by decide +kernel
theorem dX7_comes_0 : decode cX7_comes 0 = .ok (.aload_n 0, 1) := by decide +kernel
theorem dX7_comes_1 : decode cX7_comes 1 = .ok (.getfield 95, 3) := by decide +kernel
theorem dX7_comes_4 : decode cX7_comes 4 = .ok (.iload_n 1, 1) := by decide +kernel
theorem dX7_comes_5 : decode cX7_comes 5 = .ok (.iaload, 1) := by decide +kernel
theorem dX7_comes_6 : decode cX7_comes 6 = .ok (.istore_n 3, 1) := by decide +kernel
theorem dX7_comes_7 : decode cX7_comes 7 = .ok (.iconst 5, 1) := by decide +kernel
theorem dX7_comes_8 : decode cX7_comes 8 = .ok (.iload_n 3, 1) := by decide +kernel
theorem dX7_comes_9 : decode cX7_comes 9 = .ok (.imul, 1) := by decide +kernel
theorem dX7_comes_10 : decode cX7_comes 10 = .ok (.aload_n 0, 1) := by decide +kernel
theorem dX7_comes_11 : decode cX7_comes 11 = .ok (.getfield 92, 3) := by decide +kernel
theorem dX7_comes_14 : decode cX7_comes 14 = .ok (.iload_n 1, 1) := by decide +kernel
theorem dX7_comes_15 : decode cX7_comes 15 = .ok (.iaload, 1) := by decide +kernel
theorem dX7_comes_16 : decode cX7_comes 16 = .ok (.iadd, 1) := by decide +kernel
theorem dX7_comes_17 : decode cX7_comes 17 = .ok (.istore 4, 2) := by decide +kernel
theorem dX7_comes_19 : decode cX7_comes 19 = .ok (.aload_n 0, 1) := by decide +kernel
theorem dX7_comes_20 : decode cX7_comes 20 = .ok (.getfield 98, 3) := by decide +kernel
theorem dX7_comes_23 : decode cX7_comes 23 = .ok (.iload_n 1, 1) := by decide +kernel
theorem dX7_comes_24 : decode cX7_comes 24 = .ok (.iaload, 1) := by decide +kernel
theorem dX7_comes_25 : decode cX7_comes 25 = .ok (.aload_n 0, 1) := by decide +kernel
theorem dX7_comes_26 : decode cX7_comes 26 = .ok (.getfield 77, 3) := by decide +kernel
theorem dX7_comes_29 : decode cX7_comes 29 = .ok (.iload 4, 2) := by decide +kernel
theorem dX7_comes_31 : decode cX7_comes 31 = .ok (.iaload, 1) := by decide +kernel
theorem dX7_comes_32 : decode cX7_comes 32 = .ok (.if_icmp .ne 7, 3) := by decide +kernel
theorem dX7_comes_35 : decode cX7_comes 35 = .ok (.iconst 1, 1) := by decide +kernel
theorem dX7_comes_36 : decode cX7_comes 36 = .ok (.goto 4, 3) := by decide +kernel
theorem dX7_comes_39 : decode cX7_comes 39 = .ok (.iconst 0, 1) := by decide +kernel
theorem dX7_comes_40 : decode cX7_comes 40 = .ok (.istore 5, 2) := by decide +kernel
theorem dX7_comes_42 : decode cX7_comes 42 = .ok (.iconst 0, 1) := by decide +kernel
theorem dX7_comes_43 : decode cX7_comes 43 = .ok (.istore 6, 2) := by decide +kernel
theorem dX7_comes_45 : decode cX7_comes 45 = .ok (.iload 6, 2) := by decide +kernel
theorem dX7_comes_47 : decode cX7_comes 47 = .ok (.aload_n 0, 1) := by decide +kernel
theorem dX7_comes_48 : decode cX7_comes 48 = .ok (.getfield 98, 3) := by decide +kernel
theorem dX7_comes_51 : decode cX7_comes 51 = .ok (.iload_n 1, 1) := by decide +kernel
theorem dX7_comes_52 : decode cX7_comes 52 = .ok (.iaload, 1) := by decide +kernel
theorem dX7_comes_53 : decode cX7_comes 53 = .ok (.if_icmp .ge 47, 3) := by decide +kernel
theorem dX7_comes_56 : decode cX7_comes 56 = .ok (.iload 5, 2) := by decide +kernel
theorem dX7_comes_58 : decode cX7_comes 58 = .ok (.ifCond .eq 42, 3) := by decide +kernel
theorem dX7_comes_61 : decode cX7_comes 61 = .ok (.aload_n 0, 1) := by decide +kernel
theorem dX7_comes_62 : decode cX7_comes 62 = .ok (.getfield 74, 3) := by decide +kernel
theorem dX7_comes_65 : decode cX7_comes 65 = .ok (.iconst 5, 1) := by decide +kernel
theorem dX7_comes_66 : decode cX7_comes 66 = .ok (.iload 4, 2) := by decide +kernel
theorem dX7_comes_68 : decode cX7_comes 68 = .ok (.imul, 1) := by decide +kernel
theorem dX7_comes_69 : decode cX7_comes 69 = .ok (.iload 6, 2) := by decide +kernel
theorem dX7_comes_71 : decode cX7_comes 71 = .ok (.iadd, 1) := by decide +kernel
theorem dX7_comes_72 : decode cX7_comes 72 = .ok (.iaload, 1) := by decide +kernel
theorem dX7_comes_73 : decode cX7_comes 73 = .ok (.aload_n 0, 1) := by decide +kernel
theorem dX7_comes_74 : decode cX7_comes 74 = .ok (.getfield 102, 3) := by decide +kernel
theorem dX7_comes_77 : decode cX7_comes 77 = .ok (.iconst 5, 1) := by decide +kernel
theorem dX7_comes_78 : decode cX7_comes 78 = .ok (.iload_n 1, 1) := by decide +kernel
theorem dX7_comes_79 : decode cX7_comes 79 = .ok (.imul, 1) := by decide +kernel
theorem dX7_comes_80 : decode cX7_comes 80 = .ok (.iload 6, 2) := by decide +kernel
theorem dX7_comes_82 : decode cX7_comes 82 = .ok (.iadd, 1) := by decide +kernel
theorem dX7_comes_83 : decode cX7_comes 83 = .ok (.iaload, 1) := by decide +kernel
theorem dX7_comes_84 : decode cX7_comes 84 = .ok (.if_icmp .ne 7, 3) := by decide +kernel
theorem dX7_comes_87 : decode cX7_comes 87 = .ok (.iconst 1, 1) := by decide +kernel
theorem dX7_comes_88 : decode cX7_comes 88 = .ok (.goto 4, 3) := by decide +kernel
theorem dX7_comes_91 : decode cX7_comes 91 = .ok (.iconst 0, 1) := by decide +kernel
theorem dX7_comes_92 : decode cX7_comes 92 = .ok (.istore 5, 2) := by decide +kernel
theorem dX7_comes_94 : decode cX7_comes 94 = .ok (.iinc 6 1, 3) := by decide +kernel
theorem dX7_comes_97 : decode cX7_comes 97 = .ok (.goto (-52), 3) := by decide +kernel
theorem dX7_comes_100 : decode cX7_comes 100 = .ok (.iload 5, 2) := by decide +kernel
theorem dX7_comes_102 : decode cX7_comes 102 = .ok (.ifCond .eq 4, 3) := by decide +kernel
theorem dX7_comes_105 : decode cX7_comes 105 = .ok (.return_, 1) := by decide +kernel
theorem dX7_comes_106 : decode cX7_comes 106 = .ok (.aload_n 0, 1) := by decide +kernel
theorem dX7_comes_107 : decode cX7_comes 107 = .ok (.getfield 86, 3) := by decide +kernel
theorem dX7_comes_110 : decode cX7_comes 110 = .ok (.iload_n 3, 1) := by decide +kernel
theorem dX7_comes_111 : decode cX7_comes 111 = .ok (.dup2, 1) := by decide +kernel
theorem dX7_comes_112 : decode cX7_comes 112 = .ok (.iaload, 1) := by decide +kernel
theorem dX7_comes_113 : decode cX7_comes 113 = .ok (.iconst 1, 1) := by decide +kernel
theorem dX7_comes_114 : decode cX7_comes 114 = .ok (.iadd, 1) := by decide +kernel
theorem dX7_comes_115 : decode cX7_comes 115 = .ok (.iastore, 1) := by decide +kernel
theorem dX7_comes_116 : decode cX7_comes 116 = .ok (.aload_n 0, 1) := by decide +kernel
theorem dX7_comes_117 : decode cX7_comes 117 = .ok (.getfield 77, 3) := by decide +kernel
theorem dX7_comes_120 : decode cX7_comes 120 = .ok (.iload 4, 2) := by decide +kernel
theorem dX7_comes_122 : decode cX7_comes 122 = .ok (.aload_n 0, 1) := by decide +kernel
theorem dX7_comes_123 : decode cX7_comes 123 = .ok (.getfield 98, 3) := by decide +kernel
theorem dX7_comes_126 : decode cX7_comes 126 = .ok (.iload_n 1, 1) := by decide +kernel
theorem dX7_comes_127 : decode cX7_comes 127 = .ok (.iaload, 1) := by decide +kernel
theorem dX7_comes_128 : decode cX7_comes 128 = .ok (.iastore, 1) := by decide +kernel
theorem dX7_comes_129 : decode cX7_comes 129 = .ok (.iconst 0, 1) := by decide +kernel
theorem dX7_comes_130 : decode cX7_comes 130 = .ok (.istore 6, 2) := by decide +kernel
theorem dX7_comes_132 : decode cX7_comes 132 = .ok (.iload 6, 2) := by decide +kernel
theorem dX7_comes_134 : decode cX7_comes 134 = .ok (.aload_n 0, 1) := by decide +kernel
theorem dX7_comes_135 : decode cX7_comes 135 = .ok (.getfield 98, 3) := by decide +kernel
theorem dX7_comes_138 : decode cX7_comes 138 = .ok (.iload_n 1, 1) := by decide +kernel
theorem dX7_comes_139 : decode cX7_comes 139 = .ok (.iaload, 1) := by decide +kernel
theorem dX7_comes_140 : decode cX7_comes 140 = .ok (.if_icmp .ge 32, 3) := by decide +kernel
theorem dX7_comes_143 : decode cX7_comes 143 = .ok (.aload_n 0, 1) := by decide +kernel
theorem dX7_comes_144 : decode cX7_comes 144 = .ok (.getfield 74, 3) := by decide +kernel
theorem dX7_comes_147 : decode cX7_comes 147 = .ok (.iconst 5, 1) := by decide +kernel
theorem dX7_comes_148 : decode cX7_comes 148 = .ok (.iload 4, 2) := by decide +kernel
theorem dX7_comes_150 : decode cX7_comes 150 = .ok (.imul, 1) := by decide +kernel
theorem dX7_comes_151 : decode cX7_comes 151 = .ok (.iload 6, 2) := by decide +kernel
theorem dX7_comes_153 : decode cX7_comes 153 = .ok (.iadd, 1) := by decide +kernel
theorem dX7_comes_154 : decode cX7_comes 154 = .ok (.aload_n 0, 1) := by decide +kernel
theorem dX7_comes_155 : decode cX7_comes 155 = .ok (.getfield 102, 3) := by decide +kernel
theorem dX7_comes_158 : decode cX7_comes 158 = .ok (.iconst 5, 1) := by decide +kernel
theorem dX7_comes_159 : decode cX7_comes 159 = .ok (.iload_n 1, 1) := by decide +kernel
theorem dX7_comes_160 : decode cX7_comes 160 = .ok (.imul, 1) := by decide +kernel
theorem dX7_comes_161 : decode cX7_comes 161 = .ok (.iload 6, 2) := by decide +kernel
theorem dX7_comes_163 : decode cX7_comes 163 = .ok (.iadd, 1) := by decide +kernel
theorem dX7_comes_164 : decode cX7_comes 164 = .ok (.iaload, 1) := by decide +kernel
theorem dX7_comes_165 : decode cX7_comes 165 = .ok (.iastore, 1) := by decide +kernel
theorem dX7_comes_166 : decode cX7_comes 166 = .ok (.iinc 6 1, 3) := by decide +kernel
theorem dX7_comes_169 : decode cX7_comes 169 = .ok (.goto (-37), 3) := by decide +kernel
theorem dX7_comes_172 : decode cX7_comes 172 = .ok (.aload_n 0, 1) := by decide +kernel
theorem dX7_comes_173 : decode cX7_comes 173 = .ok (.getfield 71, 3) := by decide +kernel
theorem dX7_comes_176 : decode cX7_comes 176 = .ok (.iload 4, 2) := by decide +kernel
theorem dX7_comes_178 : decode cX7_comes 178 = .ok (.iaload, 1) := by decide +kernel
theorem dX7_comes_179 : decode cX7_comes 179 = .ok (.iconst (-1), 1) := by decide +kernel
theorem dX7_comes_180 : decode cX7_comes 180 = .ok (.if_icmp .eq 33, 3) := by decide +kernel
theorem dX7_comes_183 : decode cX7_comes 183 = .ok (.aload_n 0, 1) := by decide +kernel
theorem dX7_comes_184 : decode cX7_comes 184 = .ok (.getfield 147, 3) := by decide +kernel
theorem dX7_comes_187 : decode cX7_comes 187 = .ok (.sipush 300, 3) := by decide +kernel
theorem dX7_comes_190 : decode cX7_comes 190 = .ok (.if_icmp .ne 11, 3) := by decide +kernel
theorem dX7_comes_193 : decode cX7_comes 193 = .ok (.aload_n 0, 1) := by decide +kernel
theorem dX7_comes_194 : decode cX7_comes 194 = .ok (.iconst 1, 1) := by decide +kernel
theorem dX7_comes_195 : decode cX7_comes 195 = .ok (.putfield 212, 3) := by decide +kernel
theorem dX7_comes_198 : decode cX7_comes 198 = .ok (.goto 15, 3) := by decide +kernel
theorem dX7_comes_201 : decode cX7_comes 201 = .ok (.aload_n 0, 1) := by decide +kernel
theorem dX7_comes_202 : decode cX7_comes 202 = .ok (.aload_n 0, 1) := by decide +kernel
theorem dX7_comes_203 : decode cX7_comes 203 = .ok (.getfield 71, 3) := by decide +kernel
theorem dX7_comes_206 : decode cX7_comes 206 = .ok (.iload 4, 2) := by decide +kernel
theorem dX7_comes_208 : decode cX7_comes 208 = .ok (.iaload, 1) := by decide +kernel
theorem dX7_comes_209 : decode cX7_comes 209 = .ok (.iconst 2, 1) := by decide +kernel
theorem dX7_comes_210 : decode cX7_comes 210 = .ok (.invokevirtual 158, 3) := by decide +kernel
theorem dX7_comes_213 : decode cX7_comes 213 = .ok (.aload_n 0, 1) := by decide +kernel
theorem dX7_comes_214 : decode cX7_comes 214 = .ok (.iload_n 3, 1) := by decide +kernel
theorem dX7_comes_215 : decode cX7_comes 215 = .ok (.iload_n 2, 1) := by decide +kernel
theorem dX7_comes_216 : decode cX7_comes 216 = .ok (.invokevirtual 216, 3) := by decide +kernel
theorem dX7_comes_219 : decode cX7_comes 219 = .ok (.return_, 1) := by decide +kernel
theorem dX7_flood_0 : decode cX7_flood 0 = .ok (.aload_n 0, 1) := by decide +kernel
theorem dX7_flood_1 : decode cX7_flood 1 = .ok (.iconst 0, 1) := by decide +kernel
theorem dX7_flood_2 : decode cX7_flood 2 = .ok (.putfield 209, 3) := by decide +kernel
theorem dX7_flood_5 : decode cX7_flood 5 = .ok (.aload_n 0, 1) := by decide +kernel
theorem dX7_flood_6 : decode cX7_flood 6 = .ok (.iconst 0, 1) := by decide +kernel
theorem dX7_flood_7 : decode cX7_flood 7 = .ok (.putfield 212, 3) := by decide +kernel
theorem dX7_flood_10 : decode cX7_flood 10 = .ok (.iconst 0, 1) := by decide +kernel
theorem dX7_flood_11 : decode cX7_flood 11 = .ok (.istore_n 2, 1) := by decide +kernel
theorem dX7_flood_12 : decode cX7_flood 12 = .ok (.iload_n 2, 1) := by decide +kernel
theorem dX7_flood_13 : decode cX7_flood 13 = .ok (.iconst 5, 1) := by decide +kernel
theorem dX7_flood_14 : decode cX7_flood 14 = .ok (.if_icmp .ge 16, 3) := by decide +kernel
theorem dX7_flood_17 : decode cX7_flood 17 = .ok (.aload_n 0, 1) := by decide +kernel
theorem dX7_flood_18 : decode cX7_flood 18 = .ok (.getfield 86, 3) := by decide +kernel
theorem dX7_flood_21 : decode cX7_flood 21 = .ok (.iload_n 2, 1) := by decide +kernel
theorem dX7_flood_22 : decode cX7_flood 22 = .ok (.iconst 0, 1) := by decide +kernel
theorem dX7_flood_23 : decode cX7_flood 23 = .ok (.iastore, 1) := by decide +kernel
theorem dX7_flood_24 : decode cX7_flood 24 = .ok (.iinc 2 1, 3) := by decide +kernel
theorem dX7_flood_27 : decode cX7_flood 27 = .ok (.goto (-15), 3) := by decide +kernel
theorem dX7_flood_30 : decode cX7_flood 30 = .ok (.iconst 0, 1) := by decide +kernel
theorem dX7_flood_31 : decode cX7_flood 31 = .ok (.istore_n 2, 1) := by decide +kernel
theorem dX7_flood_32 : decode cX7_flood 32 = .ok (.iload_n 2, 1) := by decide +kernel
theorem dX7_flood_33 : decode cX7_flood 33 = .ok (.iconst 5, 1) := by decide +kernel
theorem dX7_flood_34 : decode cX7_flood 34 = .ok (.if_icmp .ge 15, 3) := by decide +kernel
theorem dX7_flood_37 : decode cX7_flood 37 = .ok (.aload_n 0, 1) := by decide +kernel
theorem dX7_flood_38 : decode cX7_flood 38 = .ok (.iload_n 2, 1) := by decide +kernel
theorem dX7_flood_39 : decode cX7_flood 39 = .ok (.iload_n 1, 1) := by decide +kernel
theorem dX7_flood_40 : decode cX7_flood 40 = .ok (.invokevirtual 216, 3) := by decide +kernel
theorem dX7_flood_43 : decode cX7_flood 43 = .ok (.iinc 2 1, 3) := by decide +kernel
theorem dX7_flood_46 : decode cX7_flood 46 = .ok (.goto (-14), 3) := by decide +kernel
theorem dX7_flood_49 : decode cX7_flood 49 = .ok (.iconst 0, 1) := by decide +kernel
theorem dX7_flood_50 : decode cX7_flood 50 = .ok (.istore_n 2, 1) := by decide +kernel
theorem dX7_flood_51 : decode cX7_flood 51 = .ok (.iload_n 2, 1) := by decide +kernel
theorem dX7_flood_52 : decode cX7_flood 52 = .ok (.aload_n 0, 1) := by decide +kernel
theorem dX7_flood_53 : decode cX7_flood 53 = .ok (.getfield 209, 3) := by decide +kernel
theorem dX7_flood_56 : decode cX7_flood 56 = .ok (.if_icmp .ge 24, 3) := by decide +kernel
theorem dX7_flood_59 : decode cX7_flood 59 = .ok (.iload_n 2, 1) := by decide +kernel
theorem dX7_flood_60 : decode cX7_flood 60 = .ok (.sipush 2000, 3) := by decide +kernel
theorem dX7_flood_63 : decode cX7_flood 63 = .ok (.if_icmp .ge 17, 3) := by decide +kernel
theorem dX7_flood_66 : decode cX7_flood 66 = .ok (.iinc 2 1, 3) := by decide +kernel
theorem dX7_flood_69 : decode cX7_flood 69 = .ok (.aload_n 0, 1) := by decide +kernel
theorem dX7_flood_70 : decode cX7_flood 70 = .ok (.iload_n 2, 1) := by decide +kernel
theorem dX7_flood_71 : decode cX7_flood 71 = .ok (.iconst 1, 1) := by decide +kernel
theorem dX7_flood_72 : decode cX7_flood 72 = .ok (.isub, 1) := by decide +kernel
theorem dX7_flood_73 : decode cX7_flood 73 = .ok (.iload_n 1, 1) := by decide +kernel
theorem dX7_flood_74 : decode cX7_flood 74 = .ok (.invokevirtual 219, 3) := by decide +kernel
theorem dX7_flood_77 : decode cX7_flood 77 = .ok (.goto (-26), 3) := by decide +kernel
theorem dX7_flood_80 : decode cX7_flood 80 = .ok (.aload_n 0, 1) := by decide +kernel
theorem dX7_flood_81 : decode cX7_flood 81 = .ok (.dup, 1) := by decide +kernel
theorem dX7_flood_82 : decode cX7_flood 82 = .ok (.getfield 222, 3) := by decide +kernel
theorem dX7_flood_85 : decode cX7_flood 85 = .ok (.iload_n 2, 1) := by decide +kernel
theorem dX7_flood_86 : decode cX7_flood 86 = .ok (.iadd, 1) := by decide +kernel
theorem dX7_flood_87 : decode cX7_flood 87 = .ok (.putfield 222, 3) := by decide +kernel
theorem dX7_flood_90 : decode cX7_flood 90 = .ok (.aload_n 0, 1) := by decide +kernel
theorem dX7_flood_91 : decode cX7_flood 91 = .ok (.getfield 212, 3) := by decide +kernel
theorem dX7_flood_94 : decode cX7_flood 94 = .ok (.ifCond .eq 8, 3) := by decide +kernel
theorem dX7_flood_97 : decode cX7_flood 97 = .ok (.bipush (-4), 2) := by decide +kernel
theorem dX7_flood_99 : decode cX7_flood 99 = .ok (.goto 4, 3) := by decide +kernel
theorem dX7_flood_102 : decode cX7_flood 102 = .ok (.iload_n 2, 1) := by decide +kernel
theorem dX7_flood_103 : decode cX7_flood 103 = .ok (.ireturn, 1) := by decide +kernel
theorem dX7_own_0 : decode cX7_own 0 = .ok (.iload_n 1, 1) := by decide +kernel
theorem dX7_own_1 : decode cX7_own 1 = .ok (.invokestatic 196, 3) := by decide +kernel
theorem dX7_own_4 : decode cX7_own 4 = .ok (.ifCond .ne 8, 3) := by decide +kernel
theorem dX7_own_7 : decode cX7_own 7 = .ok (.bipush (-2), 2) := by decide +kernel
theorem dX7_own_9 : decode cX7_own 9 = .ok (.goto 33, 3) := by decide +kernel
theorem dX7_own_12 : decode cX7_own 12 = .ok (.iload_n 2, 1) := by decide +kernel
theorem dX7_own_13 : decode cX7_own 13 = .ok (.iconst 0, 1) := by decide +kernel
theorem dX7_own_14 : decode cX7_own 14 = .ok (.aload_n 0, 1) := by decide +kernel
theorem dX7_own_15 : decode cX7_own 15 = .ok (.getfield 83, 3) := by decide +kernel
theorem dX7_own_18 : decode cX7_own 18 = .ok (.iload_n 1, 1) := by decide +kernel
theorem dX7_own_19 : decode cX7_own 19 = .ok (.iaload, 1) := by decide +kernel
theorem dX7_own_20 : decode cX7_own 20 = .ok (.iconst 1, 1) := by decide +kernel
theorem dX7_own_21 : decode cX7_own 21 = .ok (.isub, 1) := by decide +kernel
theorem dX7_own_22 : decode cX7_own 22 = .ok (.invokestatic 124, 3) := by decide +kernel
theorem dX7_own_25 : decode cX7_own 25 = .ok (.ifCond .eq 16, 3) := by decide +kernel
theorem dX7_own_28 : decode cX7_own 28 = .ok (.aload_n 0, 1) := by decide +kernel
theorem dX7_own_29 : decode cX7_own 29 = .ok (.getfield 80, 3) := by decide +kernel
theorem dX7_own_32 : decode cX7_own 32 = .ok (.iconst 5, 1) := by decide +kernel
theorem dX7_own_33 : decode cX7_own 33 = .ok (.iload_n 1, 1) := by decide +kernel
theorem dX7_own_34 : decode cX7_own 34 = .ok (.imul, 1) := by decide +kernel
theorem dX7_own_35 : decode cX7_own 35 = .ok (.iload_n 2, 1) := by decide +kernel
theorem dX7_own_36 : decode cX7_own 36 = .ok (.iadd, 1) := by decide +kernel
theorem dX7_own_37 : decode cX7_own 37 = .ok (.iaload, 1) := by decide +kernel
theorem dX7_own_38 : decode cX7_own 38 = .ok (.goto 4, 3) := by decide +kernel
theorem dX7_own_41 : decode cX7_own 41 = .ok (.iconst (-1), 1) := by decide +kernel
theorem dX7_own_42 : decode cX7_own 42 = .ok (.ireturn, 1) := by decide +kernel
theorem dX7_echoes_0 : decode cX7_echoes 0 = .ok (.iload_n 1, 1) := by decide +kernel
theorem dX7_echoes_1 : decode cX7_echoes 1 = .ok (.invokestatic 196, 3) := by decide +kernel
theorem dX7_echoes_4 : decode cX7_echoes 4 = .ok (.ifCond .eq 12, 3) := by decide +kernel
theorem dX7_echoes_7 : decode cX7_echoes 7 = .ok (.aload_n 0, 1) := by decide +kernel
theorem dX7_echoes_8 : decode cX7_echoes 8 = .ok (.getfield 86, 3) := by decide +kernel
theorem dX7_echoes_11 : decode cX7_echoes 11 = .ok (.iload_n 1, 1) := by decide +kernel
theorem dX7_echoes_12 : decode cX7_echoes 12 = .ok (.iaload, 1) := by decide +kernel
theorem dX7_echoes_13 : decode cX7_echoes 13 = .ok (.goto 5, 3) := by decide +kernel
theorem dX7_echoes_16 : decode cX7_echoes 16 = .ok (.bipush (-2), 2) := by decide +kernel
theorem dX7_echoes_18 : decode cX7_echoes 18 = .ok (.ireturn, 1) := by decide +kernel
theorem dX7_count_0 : decode cX7_count 0 = .ok (.iconst 0, 1) := by decide +kernel
theorem dX7_count_1 : decode cX7_count 1 = .ok (.istore_n 2, 1) := by decide +kernel
theorem dX7_count_2 : decode cX7_count 2 = .ok (.iload_n 1, 1) := by decide +kernel
theorem dX7_count_3 : decode cX7_count 3 = .ok (.tableswitch 134 0 5 #[37, 42, 47, 54, 94, 129], 37) := by decide +kernel
theorem dX7_count_40 : decode cX7_count 40 = .ok (.aload_n 0, 1) := by decide +kernel
theorem dX7_count_41 : decode cX7_count 41 = .ok (.getfield 115, 3) := by decide +kernel
theorem dX7_count_44 : decode cX7_count 44 = .ok (.ireturn, 1) := by decide +kernel
theorem dX7_count_45 : decode cX7_count 45 = .ok (.aload_n 0, 1) := by decide +kernel
theorem dX7_count_46 : decode cX7_count 46 = .ok (.getfield 147, 3) := by decide +kernel
theorem dX7_count_49 : decode cX7_count 49 = .ok (.ireturn, 1) := by decide +kernel
theorem dX7_count_50 : decode cX7_count 50 = .ok (.aload_n 0, 1) := by decide +kernel
theorem dX7_count_51 : decode cX7_count 51 = .ok (.getfield 22, 3) := by decide +kernel
theorem dX7_count_54 : decode cX7_count 54 = .ok (.iconst 0, 1) := by decide +kernel
theorem dX7_count_55 : decode cX7_count 55 = .ok (.iaload, 1) := by decide +kernel
theorem dX7_count_56 : decode cX7_count 56 = .ok (.ireturn, 1) := by decide +kernel
theorem dX7_count_57 : decode cX7_count 57 = .ok (.iconst 0, 1) := by decide +kernel
theorem dX7_count_58 : decode cX7_count 58 = .ok (.istore_n 3, 1) := by decide +kernel
theorem dX7_count_59 : decode cX7_count 59 = .ok (.iload_n 3, 1) := by decide +kernel
theorem dX7_count_60 : decode cX7_count 60 = .ok (.aload_n 0, 1) := by decide +kernel
theorem dX7_count_61 : decode cX7_count 61 = .ok (.getfield 115, 3) := by decide +kernel
theorem dX7_count_64 : decode cX7_count 64 = .ok (.if_icmp .ge 31, 3) := by decide +kernel
theorem dX7_count_67 : decode cX7_count 67 = .ok (.iload_n 2, 1) := by decide +kernel
theorem dX7_count_68 : decode cX7_count 68 = .ok (.aload_n 0, 1) := by decide +kernel
theorem dX7_count_69 : decode cX7_count 69 = .ok (.getfield 37, 3) := by decide +kernel
theorem dX7_count_72 : decode cX7_count 72 = .ok (.aload_n 0, 1) := by decide +kernel
theorem dX7_count_73 : decode cX7_count 73 = .ok (.iconst 0, 1) := by decide +kernel
theorem dX7_count_74 : decode cX7_count 74 = .ok (.iload_n 3, 1) := by decide +kernel
theorem dX7_count_75 : decode cX7_count 75 = .ok (.invokevirtual 108, 3) := by decide +kernel
theorem dX7_count_78 : decode cX7_count 78 = .ok (.baload, 1) := by decide +kernel
theorem dX7_count_79 : decode cX7_count 79 = .ok (.ifCond .eq 7, 3) := by decide +kernel
theorem dX7_count_82 : decode cX7_count 82 = .ok (.iconst 1, 1) := by decide +kernel
theorem dX7_count_83 : decode cX7_count 83 = .ok (.goto 4, 3) := by decide +kernel
theorem dX7_count_86 : decode cX7_count 86 = .ok (.iconst 0, 1) := by decide +kernel
theorem dX7_count_87 : decode cX7_count 87 = .ok (.iadd, 1) := by decide +kernel
theorem dX7_count_88 : decode cX7_count 88 = .ok (.istore_n 2, 1) := by decide +kernel
theorem dX7_count_89 : decode cX7_count 89 = .ok (.iinc 3 1, 3) := by decide +kernel
theorem dX7_count_92 : decode cX7_count 92 = .ok (.goto (-33), 3) := by decide +kernel
theorem dX7_count_95 : decode cX7_count 95 = .ok (.iload_n 2, 1) := by decide +kernel
theorem dX7_count_96 : decode cX7_count 96 = .ok (.ireturn, 1) := by decide +kernel
theorem dX7_count_97 : decode cX7_count 97 = .ok (.iconst 0, 1) := by decide +kernel
theorem dX7_count_98 : decode cX7_count 98 = .ok (.istore_n 3, 1) := by decide +kernel
theorem dX7_count_99 : decode cX7_count 99 = .ok (.iload_n 3, 1) := by decide +kernel
theorem dX7_count_100 : decode cX7_count 100 = .ok (.bipush 25, 2) := by decide +kernel
theorem dX7_count_102 : decode cX7_count 102 = .ok (.if_icmp .ge 26, 3) := by decide +kernel
theorem dX7_count_105 : decode cX7_count 105 = .ok (.iload_n 2, 1) := by decide +kernel
theorem dX7_count_106 : decode cX7_count 106 = .ok (.aload_n 0, 1) := by decide +kernel
theorem dX7_count_107 : decode cX7_count 107 = .ok (.getfield 68, 3) := by decide +kernel
theorem dX7_count_110 : decode cX7_count 110 = .ok (.iload_n 3, 1) := by decide +kernel
theorem dX7_count_111 : decode cX7_count 111 = .ok (.baload, 1) := by decide +kernel
theorem dX7_count_112 : decode cX7_count 112 = .ok (.ifCond .eq 7, 3) := by decide +kernel
theorem dX7_count_115 : decode cX7_count 115 = .ok (.iconst 1, 1) := by decide +kernel
theorem dX7_count_116 : decode cX7_count 116 = .ok (.goto 4, 3) := by decide +kernel
theorem dX7_count_119 : decode cX7_count 119 = .ok (.iconst 0, 1) := by decide +kernel
theorem dX7_count_120 : decode cX7_count 120 = .ok (.iadd, 1) := by decide +kernel
theorem dX7_count_121 : decode cX7_count 121 = .ok (.istore_n 2, 1) := by decide +kernel
theorem dX7_count_122 : decode cX7_count 122 = .ok (.iinc 3 1, 3) := by decide +kernel
theorem dX7_count_125 : decode cX7_count 125 = .ok (.goto (-26), 3) := by decide +kernel
theorem dX7_count_128 : decode cX7_count 128 = .ok (.iload_n 2, 1) := by decide +kernel
theorem dX7_count_129 : decode cX7_count 129 = .ok (.iconst 2, 1) := by decide +kernel
theorem dX7_count_130 : decode cX7_count 130 = .ok (.idiv, 1) := by decide +kernel
theorem dX7_count_131 : decode cX7_count 131 = .ok (.ireturn, 1) := by decide +kernel
theorem dX7_count_132 : decode cX7_count 132 = .ok (.aload_n 0, 1) := by decide +kernel
theorem dX7_count_133 : decode cX7_count 133 = .ok (.getfield 222, 3) := by decide +kernel
theorem dX7_count_136 : decode cX7_count 136 = .ok (.ireturn, 1) := by decide +kernel
theorem dX7_count_137 : decode cX7_count 137 = .ok (.bipush (-2), 2) := by decide +kernel
theorem dX7_count_139 : decode cX7_count 139 = .ok (.ireturn, 1) := by decide +kernel
theorem dX7_digest_0 : decode cX7_digest 0 = .ok (.ldc2_w 225, 3) := by decide +kernel
theorem dX7_digest_3 : decode cX7_digest 3 = .ok (.lstore_n 1, 1) := by decide +kernel
theorem dX7_digest_4 : decode cX7_digest 4 = .ok (.iconst 0, 1) := by decide +kernel
theorem dX7_digest_5 : decode cX7_digest 5 = .ok (.istore_n 3, 1) := by decide +kernel
theorem dX7_digest_6 : decode cX7_digest 6 = .ok (.iload_n 3, 1) := by decide +kernel
theorem dX7_digest_7 : decode cX7_digest 7 = .ok (.bipush 6, 2) := by decide +kernel
theorem dX7_digest_9 : decode cX7_digest 9 = .ok (.if_icmp .ge 22, 3) := by decide +kernel
theorem dX7_digest_12 : decode cX7_digest 12 = .ok (.ldc2_w 227, 3) := by decide +kernel
theorem dX7_digest_15 : decode cX7_digest 15 = .ok (.lload_n 1, 1) := by decide +kernel
theorem dX7_digest_16 : decode cX7_digest 16 = .ok (.lmul, 1) := by decide +kernel
theorem dX7_digest_17 : decode cX7_digest 17 = .ok (.aload_n 0, 1) := by decide +kernel
theorem dX7_digest_18 : decode cX7_digest 18 = .ok (.iload_n 3, 1) := by decide +kernel
theorem dX7_digest_19 : decode cX7_digest 19 = .ok (.invokevirtual 229, 3) := by decide +kernel
theorem dX7_digest_22 : decode cX7_digest 22 = .ok (.i2l, 1) := by decide +kernel
theorem dX7_digest_23 : decode cX7_digest 23 = .ok (.ladd, 1) := by decide +kernel
theorem dX7_digest_24 : decode cX7_digest 24 = .ok (.lstore_n 1, 1) := by decide +kernel
theorem dX7_digest_25 : decode cX7_digest 25 = .ok (.iinc 3 1, 3) := by decide +kernel
theorem dX7_digest_28 : decode cX7_digest 28 = .ok (.goto (-22), 3) := by decide +kernel
theorem dX7_digest_31 : decode cX7_digest 31 = .ok (.iconst 0, 1) := by decide +kernel
theorem dX7_digest_32 : decode cX7_digest 32 = .ok (.istore_n 3, 1) := by decide +kernel
theorem dX7_digest_33 : decode cX7_digest 33 = .ok (.iload_n 3, 1) := by decide +kernel
theorem dX7_digest_34 : decode cX7_digest 34 = .ok (.aload_n 0, 1) := by decide +kernel
theorem dX7_digest_35 : decode cX7_digest 35 = .ok (.getfield 115, 3) := by decide +kernel
theorem dX7_digest_38 : decode cX7_digest 38 = .ok (.if_icmp .ge 40, 3) := by decide +kernel
theorem dX7_digest_41 : decode cX7_digest 41 = .ok (.iconst 0, 1) := by decide +kernel
theorem dX7_digest_42 : decode cX7_digest 42 = .ok (.istore 4, 2) := by decide +kernel
theorem dX7_digest_44 : decode cX7_digest 44 = .ok (.iload 4, 2) := by decide +kernel
theorem dX7_digest_46 : decode cX7_digest 46 = .ok (.bipush 9, 2) := by decide +kernel
theorem dX7_digest_48 : decode cX7_digest 48 = .ok (.if_icmp .ge 24, 3) := by decide +kernel
theorem dX7_digest_51 : decode cX7_digest 51 = .ok (.ldc2_w 227, 3) := by decide +kernel
theorem dX7_digest_54 : decode cX7_digest 54 = .ok (.lload_n 1, 1) := by decide +kernel
theorem dX7_digest_55 : decode cX7_digest 55 = .ok (.lmul, 1) := by decide +kernel
theorem dX7_digest_56 : decode cX7_digest 56 = .ok (.aload_n 0, 1) := by decide +kernel
theorem dX7_digest_57 : decode cX7_digest 57 = .ok (.iload_n 3, 1) := by decide +kernel
theorem dX7_digest_58 : decode cX7_digest 58 = .ok (.iload 4, 2) := by decide +kernel
theorem dX7_digest_60 : decode cX7_digest 60 = .ok (.invokevirtual 167, 3) := by decide +kernel
theorem dX7_digest_63 : decode cX7_digest 63 = .ok (.i2l, 1) := by decide +kernel
theorem dX7_digest_64 : decode cX7_digest 64 = .ok (.ladd, 1) := by decide +kernel
theorem dX7_digest_65 : decode cX7_digest 65 = .ok (.lstore_n 1, 1) := by decide +kernel
theorem dX7_digest_66 : decode cX7_digest 66 = .ok (.iinc 4 1, 3) := by decide +kernel
theorem dX7_digest_69 : decode cX7_digest 69 = .ok (.goto (-25), 3) := by decide +kernel
theorem dX7_digest_72 : decode cX7_digest 72 = .ok (.iinc 3 1, 3) := by decide +kernel
theorem dX7_digest_75 : decode cX7_digest 75 = .ok (.goto (-42), 3) := by decide +kernel
theorem dX7_digest_78 : decode cX7_digest 78 = .ok (.iconst 0, 1) := by decide +kernel
theorem dX7_digest_79 : decode cX7_digest 79 = .ok (.istore_n 3, 1) := by decide +kernel
theorem dX7_digest_80 : decode cX7_digest 80 = .ok (.iload_n 3, 1) := by decide +kernel
theorem dX7_digest_81 : decode cX7_digest 81 = .ok (.aload_n 0, 1) := by decide +kernel
theorem dX7_digest_82 : decode cX7_digest 82 = .ok (.getfield 147, 3) := by decide +kernel
theorem dX7_digest_85 : decode cX7_digest 85 = .ok (.if_icmp .ge 47, 3) := by decide +kernel
theorem dX7_digest_88 : decode cX7_digest 88 = .ok (.ldc2_w 227, 3) := by decide +kernel
theorem dX7_digest_91 : decode cX7_digest 91 = .ok (.ldc2_w 227, 3) := by decide +kernel
theorem dX7_digest_94 : decode cX7_digest 94 = .ok (.ldc2_w 227, 3) := by decide +kernel
theorem dX7_digest_97 : decode cX7_digest 97 = .ok (.lload_n 1, 1) := by decide +kernel
theorem dX7_digest_98 : decode cX7_digest 98 = .ok (.lmul, 1) := by decide +kernel
theorem dX7_digest_99 : decode cX7_digest 99 = .ok (.aload_n 0, 1) := by decide +kernel
theorem dX7_digest_100 : decode cX7_digest 100 = .ok (.getfield 56, 3) := by decide +kernel
theorem dX7_digest_103 : decode cX7_digest 103 = .ok (.iload_n 3, 1) := by decide +kernel
theorem dX7_digest_104 : decode cX7_digest 104 = .ok (.iaload, 1) := by decide +kernel
theorem dX7_digest_105 : decode cX7_digest 105 = .ok (.i2l, 1) := by decide +kernel
theorem dX7_digest_106 : decode cX7_digest 106 = .ok (.ladd, 1) := by decide +kernel
theorem dX7_digest_107 : decode cX7_digest 107 = .ok (.lmul, 1) := by decide +kernel
theorem dX7_digest_108 : decode cX7_digest 108 = .ok (.aload_n 0, 1) := by decide +kernel
theorem dX7_digest_109 : decode cX7_digest 109 = .ok (.getfield 59, 3) := by decide +kernel
theorem dX7_digest_112 : decode cX7_digest 112 = .ok (.iload_n 3, 1) := by decide +kernel
theorem dX7_digest_113 : decode cX7_digest 113 = .ok (.iaload, 1) := by decide +kernel
theorem dX7_digest_114 : decode cX7_digest 114 = .ok (.i2l, 1) := by decide +kernel
theorem dX7_digest_115 : decode cX7_digest 115 = .ok (.ladd, 1) := by decide +kernel
theorem dX7_digest_116 : decode cX7_digest 116 = .ok (.lmul, 1) := by decide +kernel
theorem dX7_digest_117 : decode cX7_digest 117 = .ok (.aload_n 0, 1) := by decide +kernel
theorem dX7_digest_118 : decode cX7_digest 118 = .ok (.getfield 62, 3) := by decide +kernel
theorem dX7_digest_121 : decode cX7_digest 121 = .ok (.iload_n 3, 1) := by decide +kernel
theorem dX7_digest_122 : decode cX7_digest 122 = .ok (.iaload, 1) := by decide +kernel
theorem dX7_digest_123 : decode cX7_digest 123 = .ok (.i2l, 1) := by decide +kernel
theorem dX7_digest_124 : decode cX7_digest 124 = .ok (.ladd, 1) := by decide +kernel
theorem dX7_digest_125 : decode cX7_digest 125 = .ok (.lstore_n 1, 1) := by decide +kernel
theorem dX7_digest_126 : decode cX7_digest 126 = .ok (.iinc 3 1, 3) := by decide +kernel
theorem dX7_digest_129 : decode cX7_digest 129 = .ok (.goto (-49), 3) := by decide +kernel
theorem dX7_digest_132 : decode cX7_digest 132 = .ok (.iconst 0, 1) := by decide +kernel
theorem dX7_digest_133 : decode cX7_digest 133 = .ok (.istore_n 3, 1) := by decide +kernel
theorem dX7_digest_134 : decode cX7_digest 134 = .ok (.iload_n 3, 1) := by decide +kernel
theorem dX7_digest_135 : decode cX7_digest 135 = .ok (.iconst 5, 1) := by decide +kernel
theorem dX7_digest_136 : decode cX7_digest 136 = .ok (.if_icmp .ge 58, 3) := by decide +kernel
theorem dX7_digest_139 : decode cX7_digest 139 = .ok (.iconst 0, 1) := by decide +kernel
theorem dX7_digest_140 : decode cX7_digest 140 = .ok (.istore 4, 2) := by decide +kernel
theorem dX7_digest_142 : decode cX7_digest 142 = .ok (.iload 4, 2) := by decide +kernel
theorem dX7_digest_144 : decode cX7_digest 144 = .ok (.aload_n 0, 1) := by decide +kernel
theorem dX7_digest_145 : decode cX7_digest 145 = .ok (.getfield 83, 3) := by decide +kernel
theorem dX7_digest_148 : decode cX7_digest 148 = .ok (.iload_n 3, 1) := by decide +kernel
theorem dX7_digest_149 : decode cX7_digest 149 = .ok (.iaload, 1) := by decide +kernel
theorem dX7_digest_150 : decode cX7_digest 150 = .ok (.if_icmp .ge 28, 3) := by decide +kernel
theorem dX7_digest_153 : decode cX7_digest 153 = .ok (.ldc2_w 227, 3) := by decide +kernel
theorem dX7_digest_156 : decode cX7_digest 156 = .ok (.lload_n 1, 1) := by decide +kernel
theorem dX7_digest_157 : decode cX7_digest 157 = .ok (.lmul, 1) := by decide +kernel
theorem dX7_digest_158 : decode cX7_digest 158 = .ok (.aload_n 0, 1) := by decide +kernel
theorem dX7_digest_159 : decode cX7_digest 159 = .ok (.getfield 80, 3) := by decide +kernel
theorem dX7_digest_162 : decode cX7_digest 162 = .ok (.iconst 5, 1) := by decide +kernel
theorem dX7_digest_163 : decode cX7_digest 163 = .ok (.iload_n 3, 1) := by decide +kernel
theorem dX7_digest_164 : decode cX7_digest 164 = .ok (.imul, 1) := by decide +kernel
theorem dX7_digest_165 : decode cX7_digest 165 = .ok (.iload 4, 2) := by decide +kernel
theorem dX7_digest_167 : decode cX7_digest 167 = .ok (.iadd, 1) := by decide +kernel
theorem dX7_digest_168 : decode cX7_digest 168 = .ok (.iaload, 1) := by decide +kernel
theorem dX7_digest_169 : decode cX7_digest 169 = .ok (.i2l, 1) := by decide +kernel
theorem dX7_digest_170 : decode cX7_digest 170 = .ok (.ladd, 1) := by decide +kernel
theorem dX7_digest_171 : decode cX7_digest 171 = .ok (.lstore_n 1, 1) := by decide +kernel
theorem dX7_digest_172 : decode cX7_digest 172 = .ok (.iinc 4 1, 3) := by decide +kernel
theorem dX7_digest_175 : decode cX7_digest 175 = .ok (.goto (-33), 3) := by decide +kernel
theorem dX7_digest_178 : decode cX7_digest 178 = .ok (.ldc2_w 227, 3) := by decide +kernel
theorem dX7_digest_181 : decode cX7_digest 181 = .ok (.lload_n 1, 1) := by decide +kernel
theorem dX7_digest_182 : decode cX7_digest 182 = .ok (.lmul, 1) := by decide +kernel
theorem dX7_digest_183 : decode cX7_digest 183 = .ok (.ldc2_w 232, 3) := by decide +kernel
theorem dX7_digest_186 : decode cX7_digest 186 = .ok (.ladd, 1) := by decide +kernel
theorem dX7_digest_187 : decode cX7_digest 187 = .ok (.lstore_n 1, 1) := by decide +kernel
theorem dX7_digest_188 : decode cX7_digest 188 = .ok (.iinc 3 1, 3) := by decide +kernel
theorem dX7_digest_191 : decode cX7_digest 191 = .ok (.goto (-57), 3) := by decide +kernel
theorem dX7_digest_194 : decode cX7_digest 194 = .ok (.lload_n 1, 1) := by decide +kernel
theorem dX7_digest_195 : decode cX7_digest 195 = .ok (.lreturn, 1) := by decide +kernel
end
section
/-! the judgement of a method's body over a fixed set of cells: what each cell is (lay), what it holds (σ) -/
abbrev z_Sto : Type := Nat → Nat → Int32
abbrev z_Cel : Type := (Bool × Nat) ⊕ (Nat × List (Option Nat))
abbrev z_Lay : Type := Nat × (Nat → z_Cel)
abbrev z_MI : Type := MethodName × ByteArray × Nat × Option FieldType × Nat
abbrev z_Loc : Type := List (Option Value)
abbrev z_Post : Type := Option Value → z_Sto → Prop
def z_up (σ : z_Sto) (k j : Nat) (v : Int32) : z_Sto := fun c => if c = k then upd (σ k) j v else σ c
def z_v (ad : Nat → Nat) (v : Value) : Value := match v with
  | .ref k => .ref (ad k)
  | w => w
def z_f1 (ad : Nat → Nat) (f : Nat → Int32) (i : Nat) (o : Option Nat) : Value := match o with
  | some j => .ref (ad j)
  | none => .int (f i)
def z_fs (ad : Nat → Nat) (f : Nat → Int32) (fs : List (Option Nat)) : List Value := fs.mapIdx (z_f1 ad f)
def z_ent (ad : Nat → Nat) (cI cZ : ClassId) (f : Nat → Int32) (c : z_Cel) : va_E := match c with
  | .inl (b, n) => .inl (if b then cZ else cI, n, .inl f)
  | .inr (ci, fs) => .inr (ci, z_fs ad f fs)
def z_wd (lay : z_Lay) (ad : Nat → Nat) (cI cZ : ClassId) (σ : z_Sto) : va_W := (List.range lay.1).map fun c => (ad c, z_ent ad cI cZ (σ c) (lay.2 c))
theorem z_up_same (σ : z_Sto) (k j : Nat) (v : Int32) : z_up σ k j v k = upd (σ k) j v := by simp [z_up]
theorem z_up_ne (σ : z_Sto) {k c : Nat} (j : Nat) (v : Int32) (h : c ≠ k) : z_up σ k j v c = σ c := by simp [z_up, h]
theorem z_wd_at {lay : z_Lay} {ad : Nat → Nat} {cI cZ : ClassId} {σ : z_Sto} {c : Nat} (h : c < lay.1) : (z_wd lay ad cI cZ σ)[c]? = some (ad c, z_ent ad cI cZ (σ c) (lay.2 c)) := by
  simp [z_wd, h]
theorem z_wd_out {lay : z_Lay} {ad : Nat → Nat} {cI cZ : ClassId} {σ : z_Sto} {c : Nat} (h : ¬ c < lay.1) : (z_wd lay ad cI cZ σ)[c]? = none := by
  simp [z_wd]; omega
theorem z_wd_set {lay : z_Lay} {ad : Nat → Nat} {cI cZ : ClassId} {σ σ' : z_Sto} {c : Nat} (hc : c < lay.1) (h : ∀ c', c' ≠ c → σ' c' = σ c') : (z_wd lay ad cI cZ σ).set c (ad c, z_ent ad cI cZ (σ' c) (lay.2 c)) = z_wd lay ad cI cZ σ' := by
  apply List.ext_getElem?
  intro i
  rw [List.getElem?_set]
  by_cases hi : c = i
  · subst hi
    rw [if_pos rfl, z_wd_at hc]
    simp [z_wd, hc]
  · rw [if_neg hi]
    by_cases h2 : i < lay.1
    · rw [z_wd_at h2, z_wd_at h2, h i (Ne.symm hi)]
    · rw [z_wd_out h2, z_wd_out h2]
theorem z_fs_at (ad : Nat → Nat) (f : Nat → Int32) (fs : List (Option Nat)) (k : Nat) : (z_fs ad f fs)[k]? = (fs[k]?).map (z_f1 ad f k) := by
  simp [z_fs]
theorem z_fs_set (ad : Nat → Nat) (f : Nat → Int32) {fs : List (Option Nat)} {k : Nat} {v : Int32} (h : fs[k]? = some none) : (z_fs ad f fs).set k (.int v) = z_fs ad (upd f k v) fs := by
  apply List.ext_getElem?
  intro i
  rw [List.getElem?_set]
  have hl : k < fs.length := (List.getElem?_eq_some_iff.mp h).1
  by_cases hi : k = i
  · subst hi
    rw [if_pos rfl, if_pos (by simp [z_fs]; exact hl), z_fs_at, h]
    simp [z_f1, upd]
  · rw [if_neg hi, z_fs_at, z_fs_at]
    cases hq : fs[i]? with
    | none => rfl
    | some o =>
      cases o with
      | none => simp [z_f1, upd, Ne.symm hi]
      | some j => rfl
/-- the statics that hold rows of numbers -/
def z_T1 (n : String) (f : Nat → Int32) (A : Nat → Prop) (s : State) : Prop := ∃ t : Nat, va_Z "CalmLines$Rules" n "[I" (.ref t) A s s.heap ∧ va_T .int t 8 (fun j => .int (f j)) A s s.heap
def z_first (k : Nat) : Int32 := ([1000, 0, 500, 60, 3000, 750, 12000, 120] : List Int32).getD k 0
def z_least (k : Nat) : Int32 := ([0, 0, 0, 1, 1, 1, 1, 0] : List Int32).getD k 0
def z_most (k : Nat) : Int32 := ([10000, 10000, 10000, 500, 20000, 20000, 100000, 1000] : List Int32).getD k 0
def z_T (A : Nat → Prop) (s : State) : Prop := z_T1 "FIRST" z_first A s ∧ z_T1 "LEAST" z_least A s ∧ z_T1 "MOST" z_most A s
theorem z_T1.go {n : String} {f : Nat → Int32} {A B : Nat → Prop} {s U : State} {H : Heap} {locs : List Loc} (h : z_T1 n f A s) (hS : va_S A s.heap H locs) (hU : U.heap = H) (hvm : s.vm.Alike U.vm) (hAB : ∀ q, B q → A q) : z_T1 n f B U := by
  obtain ⟨t, h1, h2⟩ := h
  refine ⟨t, ?_, ?_⟩
  · rw [hU]; exact ((h1.moved hvm).kept hS.2.1).narrow hAB
  · rw [hU]; exact ((h2.moved hvm).kept hS.2.1).narrow hAB
theorem z_T.go {A B : Nat → Prop} {s U : State} {H : Heap} {locs : List Loc} (h : z_T A s) (hS : va_S A s.heap H locs) (hU : U.heap = H) (hvm : s.vm.Alike U.vm) (hAB : ∀ q, B q → A q) : z_T B U :=
  ⟨h.1.go hS hU hvm hAB, h.2.1.go hS hU hvm hAB, h.2.2.go hS hU hvm hAB⟩
theorem z_T1.calling {n : String} {f : Nat → Int32} {A : Nat → Prop} {U : State} {g : JFrame} {mk : MethodId} {a : Array Value} (h : z_T1 n f A U) : z_T1 n f A (U.calling g mk a) := by
  obtain ⟨t, h1, h2⟩ := h
  exact ⟨t, va_Z.moved (u := U) (U := U.calling g mk a) (Vm.Alike.refl U.vm) h1, va_T.moved (u := U) (U := U.calling g mk a) (Vm.Alike.refl U.vm) h2⟩
theorem z_T.calling {A : Nat → Prop} {U : State} {g : JFrame} {mk : MethodId} {a : Array Value} (h : z_T A U) : z_T A (U.calling g mk a) := ⟨h.1.calling, h.2.1.calling, h.2.2.calling⟩
/-- the words, the room, the context of a body -/
def z_tbl : List Cond := lw_tbl.filter goodWord
theorem z_in {w : Cond} (h : w ∈ lw_tbl) (hg : goodWord w = true) : w ∈ z_tbl := List.mem_filter.mpr ⟨h, hg⟩
theorem z_out {w : Cond} (h : w ∈ z_tbl) : w ∈ lw_tbl := (List.mem_filter.mp h).1
theorem z_tb {n : Nat} {w : Cond} (h : tables_1[n]? = some w) (hg : goodWord w = true) : w ∈ z_tbl := z_in (List.mem_append_right _ (List.mem_of_getElem? h)) hg
def z_ws (mi : z_MI) : List Cond := Cond.code mi.1 mi.2.1 mi.2.2.1 mi.2.2.2.1 :: z_tbl
abbrev z_rm (d : Nat) : Room := { frames := d, cells := 0, slots := 0, locals := 32 * d }
def z_C (mi : z_MI) (p : Program) (s : State) (m : MethodId) (args : Array Value) (meth : Method) (c : Code) (A : Nat → Prop) : Prop :=
  p.tables.exec = Jvm.exec ∧ c.code = mi.2.1 ∧ c.maxLocals = mi.2.2.1 ∧ meth.sig.returnType = mi.2.2.2.1 ∧ s.vm.findClass mi.1.cls = some m.cls ∧ (∀ w ∈ z_ws mi, w.before args s = true) ∧ meth.locks = false ∧ (∀ q, s.heap.size ≤ q → A q) ∧ z_T A s
def z_Lh (ad : Nat → Nat) (nL : Nat) (ls : Array Slot) (L : z_Loc) : Prop := ls.size = nL ∧ lv_wf ls ∧ ∀ (i : Nat) (v : Value), L[i]? = some (some v) → ls[i]? = some (.val (z_v ad v))
abbrev z_tys (cI cZ : ClassId) : List (ClassId × FieldType) := [(cI, .int), (cZ, .boolean)]
def z_Q (lay : z_Lay) (ad : Nat → Nat) (cI cZ : ClassId) (D : va_G) (A : Nat → Prop) (Φ : z_Post) : Array Value → State → Outcome → State → Prop := fun _ st oc t =>
  (∃ (r : Option Value) (σ : z_Sto), oc = .returned (r.map (z_v ad)) ∧ Φ r σ ∧ va_P D vwCl (z_wd lay ad cI cZ σ) t.heap ∧ va_K D vwCl (z_tys cI cZ) t ∧ va_D A (z_wd lay ad cI cZ σ)) ∧ va_F A st t
def z_R (lay : z_Lay) (mi : z_MI) (pc : Nat) (L : z_Loc) (st : List Value) (σ : z_Sto) (Φ : z_Post) : Prop :=
  ∀ (l : Launch) (ad : Nat → Nat) (cI cZ : ClassId) (D : va_G) (p : Program) (e : Env) (s : State) (m : MethodId) (args : Array Value) (below : List Frame) (meth : Method) (c : Code) (A : Nat → Prop) (H : Heap) (locs : List Loc) (ls : Array Slot),
    z_C mi p s m args meth c A → va_K D vwCl (z_tys cI cZ) s → va_P D vwCl (z_wd lay ad cI cZ σ) H → va_D A (z_wd lay ad cI cZ σ) → va_S A s.heap H locs → z_Lh ad mi.2.2.1 ls L →
    W p l e (z_rm mi.2.2.2.2) s m args below meth c H locs 0 0 (MQ below (z_Q lay ad cI cZ D A Φ) args s 0 0 A) (F0 m pc ls (st.map (z_v ad)))
theorem z_R.mono {lay : z_Lay} {mi : z_MI} {pc : Nat} {L : z_Loc} {st : List Value} {σ : z_Sto} {Φ Ψ : z_Post} (h : z_R lay mi pc L st σ Φ) (hi : ∀ r σ', Φ r σ' → Ψ r σ') : z_R lay mi pc L st σ Ψ := by
  intro l ad cI cZ D p e s m args below meth c A H locs ls hC hK hP hD hS hL T hT X
  obtain ⟨t, h1, o, h2, h3, ⟨⟨r, σ', e1, e2, e3⟩, hF⟩, h5⟩ := h l ad cI cZ D p e s m args below meth c A H locs ls hC hK hP hD hS hL T hT X
  exact ⟨t, h1, o, h2, h3, ⟨⟨r, σ', e1, hi r σ' e2, e3⟩, hF⟩, h5⟩
section ZR
variable {lay : z_Lay} {mi : z_MI} {pc : Nat} {L : z_Loc} {st : List Value} {σ : z_Sto} {Φ : z_Post}
theorem z_iconst {n : Int} {v : Int32} (hd : decode mi.2.1 pc = .ok (.iconst n, 1)) (hv : Int32.ofInt n = v) (k : z_R lay mi (pc + 1) L (.int v :: st) σ Φ) : z_R lay mi pc L st σ Φ :=
  fun l ad cI cZ D p e s m args below meth c A H locs ls hC hK hP hD hS hL => lv_iconst hC.1 hC.2.1 hd hv (k l ad cI cZ D p e s m args below meth c A H locs ls hC hK hP hD hS hL)
theorem z_bipush {n : Int} {v : Int32} (hd : decode mi.2.1 pc = .ok (.bipush n, 2)) (hv : (Int8.ofInt n).toInt32 = v) (k : z_R lay mi (pc + 2) L (.int v :: st) σ Φ) : z_R lay mi pc L st σ Φ :=
  fun l ad cI cZ D p e s m args below meth c A H locs ls hC hK hP hD hS hL => lv_bipush hC.1 hC.2.1 hd hv (k l ad cI cZ D p e s m args below meth c A H locs ls hC hK hP hD hS hL)
theorem z_sipush {n : Int} {v : Int32} (hd : decode mi.2.1 pc = .ok (.sipush n, 3)) (hv : (Int16.ofInt n).toInt32 = v) (k : z_R lay mi (pc + 3) L (.int v :: st) σ Φ) : z_R lay mi pc L st σ Φ :=
  fun l ad cI cZ D p e s m args below meth c A H locs ls hC hK hP hD hS hL => lv_sipush hC.1 hC.2.1 hd hv (k l ad cI cZ D p e s m args below meth c A H locs ls hC hK hP hD hS hL)
theorem z_ldc {i : Nat} {v : Int32} (hw : Cond.constant mi.1.cls i v ∈ z_tbl) (hd : decode mi.2.1 pc = .ok (.ldc i, 2)) (k : z_R lay mi (pc + 2) L (.int v :: st) σ Φ) : z_R lay mi pc L st σ Φ :=
  fun l ad cI cZ D p e s m args below meth c A H locs ls hC hK hP hD hS hL => lv_ldc hC.1 hC.2.1 hC.2.2.2.2.1 (hC.2.2.2.2.2.1 _ (List.mem_cons_of_mem _ hw)) hd (k l ad cI cZ D p e s m args below meth c A H locs ls hC hK hP hD hS hL)
theorem z_ldc2 {i : Nat} {v : Int64} (hw : Cond.constantLong mi.1.cls i v ∈ z_tbl) (hd : decode mi.2.1 pc = .ok (.ldc2_w i, 3)) (k : z_R lay mi (pc + 3) L (.long v :: st) σ Φ) : z_R lay mi pc L st σ Φ :=
  fun l ad cI cZ D p e s m args below meth c A H locs ls hC hK hP hD hS hL => lv_ldc2 hC.1 hC.2.1 hC.2.2.2.2.1 (hC.2.2.2.2.2.1 _ (List.mem_cons_of_mem _ hw)) hd (k l ad cI cZ D p e s m args below meth c A H locs ls hC hK hP hD hS hL)
theorem z_iload_n {k : Fin 4} {x : Int32} (hd : decode mi.2.1 pc = .ok (.iload_n k, 1)) (hl : L[(k : Nat)]? = some (some (.int x))) (kk : z_R lay mi (pc + 1) L (.int x :: st) σ Φ) : z_R lay mi pc L st σ Φ :=
  fun l ad cI cZ D p e s m args below meth c A H locs ls hC hK hP hD hS hL => lv_iload_n hC.1 hC.2.1 hd rfl (hL.2.2 _ _ hl) (kk l ad cI cZ D p e s m args below meth c A H locs ls hC hK hP hD hS hL)
theorem z_iload {k : Nat} {x : Int32} (hd : decode mi.2.1 pc = .ok (.iload k, 2)) (hl : L[k]? = some (some (.int x))) (kk : z_R lay mi (pc + 2) L (.int x :: st) σ Φ) : z_R lay mi pc L st σ Φ :=
  fun l ad cI cZ D p e s m args below meth c A H locs ls hC hK hP hD hS hL => lv_iload hC.1 hC.2.1 hd (hL.2.2 _ _ hl) (kk l ad cI cZ D p e s m args below meth c A H locs ls hC hK hP hD hS hL)
theorem z_lload_n {k : Fin 4} {x : Int64} (hd : decode mi.2.1 pc = .ok (.lload_n k, 1)) (hl : L[(k : Nat)]? = some (some (.long x))) (kk : z_R lay mi (pc + 1) L (.long x :: st) σ Φ) : z_R lay mi pc L st σ Φ :=
  fun l ad cI cZ D p e s m args below meth c A H locs ls hC hK hP hD hS hL => lv_lload_n hC.1 hC.2.1 hd rfl (hL.2.2 _ _ hl) (kk l ad cI cZ D p e s m args below meth c A H locs ls hC hK hP hD hS hL)
theorem z_aload_n {k : Fin 4} {x : Nat} (hd : decode mi.2.1 pc = .ok (.aload_n k, 1)) (hl : L[(k : Nat)]? = some (some (.ref x))) (kk : z_R lay mi (pc + 1) L (.ref x :: st) σ Φ) : z_R lay mi pc L st σ Φ :=
  fun l ad cI cZ D p e s m args below meth c A H locs ls hC hK hP hD hS hL => lv_aload_n hC.1 hC.2.1 hd rfl (hL.2.2 _ _ hl) (kk l ad cI cZ D p e s m args below meth c A H locs ls hC hK hP hD hS hL)
theorem z_iadd {x y : Int32} (hd : decode mi.2.1 pc = .ok (.iadd, 1)) (k : z_R lay mi (pc + 1) L (.int (x + y) :: st) σ Φ) : z_R lay mi pc L (.int y :: .int x :: st) σ Φ :=
  fun l ad cI cZ D p e s m args below meth c A H locs ls hC hK hP hD hS hL => lv_iadd hC.1 hC.2.1 hd (k l ad cI cZ D p e s m args below meth c A H locs ls hC hK hP hD hS hL)
theorem z_isub {x y : Int32} (hd : decode mi.2.1 pc = .ok (.isub, 1)) (k : z_R lay mi (pc + 1) L (.int (x - y) :: st) σ Φ) : z_R lay mi pc L (.int y :: .int x :: st) σ Φ :=
  fun l ad cI cZ D p e s m args below meth c A H locs ls hC hK hP hD hS hL => lv_isub hC.1 hC.2.1 hd (k l ad cI cZ D p e s m args below meth c A H locs ls hC hK hP hD hS hL)
theorem z_imul {x y : Int32} (hd : decode mi.2.1 pc = .ok (.imul, 1)) (k : z_R lay mi (pc + 1) L (.int (x * y) :: st) σ Φ) : z_R lay mi pc L (.int y :: .int x :: st) σ Φ :=
  fun l ad cI cZ D p e s m args below meth c A H locs ls hC hK hP hD hS hL => lv_imul hC.1 hC.2.1 hd (k l ad cI cZ D p e s m args below meth c A H locs ls hC hK hP hD hS hL)
theorem z_iand {x y : Int32} (hd : decode mi.2.1 pc = .ok (.iand, 1)) (k : z_R lay mi (pc + 1) L (.int (x &&& y) :: st) σ Φ) : z_R lay mi pc L (.int y :: .int x :: st) σ Φ :=
  fun l ad cI cZ D p e s m args below meth c A H locs ls hC hK hP hD hS hL => lv_iand hC.1 hC.2.1 hd (k l ad cI cZ D p e s m args below meth c A H locs ls hC hK hP hD hS hL)
theorem z_ior {x y : Int32} (hd : decode mi.2.1 pc = .ok (.ior, 1)) (k : z_R lay mi (pc + 1) L (.int (x ||| y) :: st) σ Φ) : z_R lay mi pc L (.int y :: .int x :: st) σ Φ :=
  fun l ad cI cZ D p e s m args below meth c A H locs ls hC hK hP hD hS hL => lv_ior hC.1 hC.2.1 hd (k l ad cI cZ D p e s m args below meth c A H locs ls hC hK hP hD hS hL)
theorem z_ishl {x y : Int32} (hd : decode mi.2.1 pc = .ok (.ishl, 1)) (k : z_R lay mi (pc + 1) L (.int (x <<< (y &&& 31)) :: st) σ Φ) : z_R lay mi pc L (.int y :: .int x :: st) σ Φ :=
  fun l ad cI cZ D p e s m args below meth c A H locs ls hC hK hP hD hS hL => lv_ishl hC.1 hC.2.1 hd (k l ad cI cZ D p e s m args below meth c A H locs ls hC hK hP hD hS hL)
theorem z_ishr {x y : Int32} (hd : decode mi.2.1 pc = .ok (.ishr, 1)) (k : z_R lay mi (pc + 1) L (.int (x >>> (y &&& 31)) :: st) σ Φ) : z_R lay mi pc L (.int y :: .int x :: st) σ Φ :=
  fun l ad cI cZ D p e s m args below meth c A H locs ls hC hK hP hD hS hL => lv_ishr hC.1 hC.2.1 hd (k l ad cI cZ D p e s m args below meth c A H locs ls hC hK hP hD hS hL)
theorem z_idiv {x y : Int32} (hd : decode mi.2.1 pc = .ok (.idiv, 1)) (hy : ¬ y = 0) (k : z_R lay mi (pc + 1) L (.int (x / y) :: st) σ Φ) : z_R lay mi pc L (.int y :: .int x :: st) σ Φ :=
  fun l ad cI cZ D p e s m args below meth c A H locs ls hC hK hP hD hS hL => lv_idiv hC.1 hC.2.1 hd hy (k l ad cI cZ D p e s m args below meth c A H locs ls hC hK hP hD hS hL)
theorem z_irem {x y : Int32} (hd : decode mi.2.1 pc = .ok (.irem, 1)) (hy : ¬ y = 0) (k : z_R lay mi (pc + 1) L (.int (x - x / y * y) :: st) σ Φ) : z_R lay mi pc L (.int y :: .int x :: st) σ Φ :=
  fun l ad cI cZ D p e s m args below meth c A H locs ls hC hK hP hD hS hL => lv_irem hC.1 hC.2.1 hd hy (k l ad cI cZ D p e s m args below meth c A H locs ls hC hK hP hD hS hL)
theorem z_i2l {x : Int32} (hd : decode mi.2.1 pc = .ok (.i2l, 1)) (k : z_R lay mi (pc + 1) L (.long x.toInt64 :: st) σ Φ) : z_R lay mi pc L (.int x :: st) σ Φ :=
  fun l ad cI cZ D p e s m args below meth c A H locs ls hC hK hP hD hS hL => lv_i2l hC.1 hC.2.1 hd rfl (k l ad cI cZ D p e s m args below meth c A H locs ls hC hK hP hD hS hL)
theorem z_ladd {x y : Int64} (hd : decode mi.2.1 pc = .ok (.ladd, 1)) (k : z_R lay mi (pc + 1) L (.long (x + y) :: st) σ Φ) : z_R lay mi pc L (.long y :: .long x :: st) σ Φ :=
  fun l ad cI cZ D p e s m args below meth c A H locs ls hC hK hP hD hS hL => lv_ladd hC.1 hC.2.1 hd (k l ad cI cZ D p e s m args below meth c A H locs ls hC hK hP hD hS hL)
theorem z_lmul {x y : Int64} (hd : decode mi.2.1 pc = .ok (.lmul, 1)) (k : z_R lay mi (pc + 1) L (.long (x * y) :: st) σ Φ) : z_R lay mi pc L (.long y :: .long x :: st) σ Φ :=
  fun l ad cI cZ D p e s m args below meth c A H locs ls hC hK hP hD hS hL => lv_lmul hC.1 hC.2.1 hd (k l ad cI cZ D p e s m args below meth c A H locs ls hC hK hP hD hS hL)
theorem z_dup_i {x : Int32} (hd : decode mi.2.1 pc = .ok (.dup, 1)) (k : z_R lay mi (pc + 1) L (.int x :: .int x :: st) σ Φ) : z_R lay mi pc L (.int x :: st) σ Φ :=
  fun l ad cI cZ D p e s m args below meth c A H locs ls hC hK hP hD hS hL => lv_dup hC.1 hC.2.1 hd rfl (k l ad cI cZ D p e s m args below meth c A H locs ls hC hK hP hD hS hL)
theorem z_dup_a {x : Nat} (hd : decode mi.2.1 pc = .ok (.dup, 1)) (k : z_R lay mi (pc + 1) L (.ref x :: .ref x :: st) σ Φ) : z_R lay mi pc L (.ref x :: st) σ Φ :=
  fun l ad cI cZ D p e s m args below meth c A H locs ls hC hK hP hD hS hL => lv_dup hC.1 hC.2.1 hd rfl (k l ad cI cZ D p e s m args below meth c A H locs ls hC hK hP hD hS hL)
theorem z_pop_i {x : Int32} (hd : decode mi.2.1 pc = .ok (.pop, 1)) (k : z_R lay mi (pc + 1) L st σ Φ) : z_R lay mi pc L (.int x :: st) σ Φ :=
  fun l ad cI cZ D p e s m args below meth c A H locs ls hC hK hP hD hS hL => lv_pop hC.1 hC.2.1 hd rfl (k l ad cI cZ D p e s m args below meth c A H locs ls hC hK hP hD hS hL)
theorem z_dup2 {x : Nat} {i : Int32} (hd : decode mi.2.1 pc = .ok (.dup2, 1)) (k : z_R lay mi (pc + 1) L (.int i :: .ref x :: .int i :: .ref x :: st) σ Φ) : z_R lay mi pc L (.int i :: .ref x :: st) σ Φ :=
  fun l ad cI cZ D p e s m args below meth c A H locs ls hC hK hP hD hS hL => lv_dup2_11 hC.1 hC.2.1 hd rfl rfl (k l ad cI cZ D p e s m args below meth c A H locs ls hC hK hP hD hS hL)
theorem z_goto {off : Int} {tgt : Nat} (hd : decode mi.2.1 pc = .ok (.goto off, 3)) (ht : (pc : Int) + off = (tgt : Int)) (k : z_R lay mi tgt L st σ Φ) : z_R lay mi pc L st σ Φ :=
  fun l ad cI cZ D p e s m args below meth c A H locs ls hC hK hP hD hS hL => lv_goto hC.1 hC.2.1 hd ht (k l ad cI cZ D p e s m args below meth c A H locs ls hC hK hP hD hS hL)
end ZR
end
section
section ZB
variable {lay : z_Lay} {mi : z_MI} {pc : Nat} {L : z_Loc} {st : List Value} {σ : z_Sto} {Φ : z_Post}
theorem z_if_eq {x : Int32} {off : Int} {tgt : Nat} (hd : decode mi.2.1 pc = .ok (.ifCond .eq off, 3)) (ht : (pc : Int) + off = (tgt : Int)) (kt : x = 0 → z_R lay mi tgt L st σ Φ) (kf : ¬ x = 0 → z_R lay mi (pc + 3) L st σ Φ) : z_R lay mi pc L (.int x :: st) σ Φ :=
  fun l ad cI cZ D p e s m args below meth c A H locs ls hC hK hP hD hS hL => lv_if_eq hC.1 hC.2.1 hd ht (fun q => kt q l ad cI cZ D p e s m args below meth c A H locs ls hC hK hP hD hS hL) (fun q => kf q l ad cI cZ D p e s m args below meth c A H locs ls hC hK hP hD hS hL)
theorem z_icmp_eq {x y : Int32} {off : Int} {tgt : Nat} (hd : decode mi.2.1 pc = .ok (.if_icmp .eq off, 3)) (ht : (pc : Int) + off = (tgt : Int)) (kt : x = y → z_R lay mi tgt L st σ Φ) (kf : ¬ x = y → z_R lay mi (pc + 3) L st σ Φ) : z_R lay mi pc L (.int y :: .int x :: st) σ Φ :=
  fun l ad cI cZ D p e s m args below meth c A H locs ls hC hK hP hD hS hL => lv_icmp_eq hC.1 hC.2.1 hd ht (fun q => kt q l ad cI cZ D p e s m args below meth c A H locs ls hC hK hP hD hS hL) (fun q => kf q l ad cI cZ D p e s m args below meth c A H locs ls hC hK hP hD hS hL)
theorem z_if_ne {x : Int32} {off : Int} {tgt : Nat} (hd : decode mi.2.1 pc = .ok (.ifCond .ne off, 3)) (ht : (pc : Int) + off = (tgt : Int)) (kt : ¬ x = 0 → z_R lay mi tgt L st σ Φ) (kf : x = 0 → z_R lay mi (pc + 3) L st σ Φ) : z_R lay mi pc L (.int x :: st) σ Φ :=
  fun l ad cI cZ D p e s m args below meth c A H locs ls hC hK hP hD hS hL => lv_if_ne hC.1 hC.2.1 hd ht (fun q => kt q l ad cI cZ D p e s m args below meth c A H locs ls hC hK hP hD hS hL) (fun q => kf q l ad cI cZ D p e s m args below meth c A H locs ls hC hK hP hD hS hL)
theorem z_icmp_ne {x y : Int32} {off : Int} {tgt : Nat} (hd : decode mi.2.1 pc = .ok (.if_icmp .ne off, 3)) (ht : (pc : Int) + off = (tgt : Int)) (kt : ¬ x = y → z_R lay mi tgt L st σ Φ) (kf : x = y → z_R lay mi (pc + 3) L st σ Φ) : z_R lay mi pc L (.int y :: .int x :: st) σ Φ :=
  fun l ad cI cZ D p e s m args below meth c A H locs ls hC hK hP hD hS hL => lv_icmp_ne hC.1 hC.2.1 hd ht (fun q => kt q l ad cI cZ D p e s m args below meth c A H locs ls hC hK hP hD hS hL) (fun q => kf q l ad cI cZ D p e s m args below meth c A H locs ls hC hK hP hD hS hL)
theorem z_if_lt {x : Int32} {off : Int} {tgt : Nat} (hd : decode mi.2.1 pc = .ok (.ifCond .lt off, 3)) (ht : (pc : Int) + off = (tgt : Int)) (kt : x < 0 → z_R lay mi tgt L st σ Φ) (kf : ¬ x < 0 → z_R lay mi (pc + 3) L st σ Φ) : z_R lay mi pc L (.int x :: st) σ Φ :=
  fun l ad cI cZ D p e s m args below meth c A H locs ls hC hK hP hD hS hL => lv_if_lt hC.1 hC.2.1 hd ht (fun q => kt q l ad cI cZ D p e s m args below meth c A H locs ls hC hK hP hD hS hL) (fun q => kf q l ad cI cZ D p e s m args below meth c A H locs ls hC hK hP hD hS hL)
theorem z_icmp_lt {x y : Int32} {off : Int} {tgt : Nat} (hd : decode mi.2.1 pc = .ok (.if_icmp .lt off, 3)) (ht : (pc : Int) + off = (tgt : Int)) (kt : x < y → z_R lay mi tgt L st σ Φ) (kf : ¬ x < y → z_R lay mi (pc + 3) L st σ Φ) : z_R lay mi pc L (.int y :: .int x :: st) σ Φ :=
  fun l ad cI cZ D p e s m args below meth c A H locs ls hC hK hP hD hS hL => lv_icmp_lt hC.1 hC.2.1 hd ht (fun q => kt q l ad cI cZ D p e s m args below meth c A H locs ls hC hK hP hD hS hL) (fun q => kf q l ad cI cZ D p e s m args below meth c A H locs ls hC hK hP hD hS hL)
theorem z_if_ge {x : Int32} {off : Int} {tgt : Nat} (hd : decode mi.2.1 pc = .ok (.ifCond .ge off, 3)) (ht : (pc : Int) + off = (tgt : Int)) (kt : 0 ≤ x → z_R lay mi tgt L st σ Φ) (kf : ¬ 0 ≤ x → z_R lay mi (pc + 3) L st σ Φ) : z_R lay mi pc L (.int x :: st) σ Φ :=
  fun l ad cI cZ D p e s m args below meth c A H locs ls hC hK hP hD hS hL => lv_if_ge hC.1 hC.2.1 hd ht (fun q => kt q l ad cI cZ D p e s m args below meth c A H locs ls hC hK hP hD hS hL) (fun q => kf q l ad cI cZ D p e s m args below meth c A H locs ls hC hK hP hD hS hL)
theorem z_icmp_ge {x y : Int32} {off : Int} {tgt : Nat} (hd : decode mi.2.1 pc = .ok (.if_icmp .ge off, 3)) (ht : (pc : Int) + off = (tgt : Int)) (kt : y ≤ x → z_R lay mi tgt L st σ Φ) (kf : ¬ y ≤ x → z_R lay mi (pc + 3) L st σ Φ) : z_R lay mi pc L (.int y :: .int x :: st) σ Φ :=
  fun l ad cI cZ D p e s m args below meth c A H locs ls hC hK hP hD hS hL => lv_icmp_ge hC.1 hC.2.1 hd ht (fun q => kt q l ad cI cZ D p e s m args below meth c A H locs ls hC hK hP hD hS hL) (fun q => kf q l ad cI cZ D p e s m args below meth c A H locs ls hC hK hP hD hS hL)
theorem z_if_gt {x : Int32} {off : Int} {tgt : Nat} (hd : decode mi.2.1 pc = .ok (.ifCond .gt off, 3)) (ht : (pc : Int) + off = (tgt : Int)) (kt : 0 < x → z_R lay mi tgt L st σ Φ) (kf : ¬ 0 < x → z_R lay mi (pc + 3) L st σ Φ) : z_R lay mi pc L (.int x :: st) σ Φ :=
  fun l ad cI cZ D p e s m args below meth c A H locs ls hC hK hP hD hS hL => lv_if_gt hC.1 hC.2.1 hd ht (fun q => kt q l ad cI cZ D p e s m args below meth c A H locs ls hC hK hP hD hS hL) (fun q => kf q l ad cI cZ D p e s m args below meth c A H locs ls hC hK hP hD hS hL)
theorem z_icmp_gt {x y : Int32} {off : Int} {tgt : Nat} (hd : decode mi.2.1 pc = .ok (.if_icmp .gt off, 3)) (ht : (pc : Int) + off = (tgt : Int)) (kt : y < x → z_R lay mi tgt L st σ Φ) (kf : ¬ y < x → z_R lay mi (pc + 3) L st σ Φ) : z_R lay mi pc L (.int y :: .int x :: st) σ Φ :=
  fun l ad cI cZ D p e s m args below meth c A H locs ls hC hK hP hD hS hL => lv_icmp_gt hC.1 hC.2.1 hd ht (fun q => kt q l ad cI cZ D p e s m args below meth c A H locs ls hC hK hP hD hS hL) (fun q => kf q l ad cI cZ D p e s m args below meth c A H locs ls hC hK hP hD hS hL)
theorem z_if_le {x : Int32} {off : Int} {tgt : Nat} (hd : decode mi.2.1 pc = .ok (.ifCond .le off, 3)) (ht : (pc : Int) + off = (tgt : Int)) (kt : x ≤ 0 → z_R lay mi tgt L st σ Φ) (kf : ¬ x ≤ 0 → z_R lay mi (pc + 3) L st σ Φ) : z_R lay mi pc L (.int x :: st) σ Φ :=
  fun l ad cI cZ D p e s m args below meth c A H locs ls hC hK hP hD hS hL => lv_if_le hC.1 hC.2.1 hd ht (fun q => kt q l ad cI cZ D p e s m args below meth c A H locs ls hC hK hP hD hS hL) (fun q => kf q l ad cI cZ D p e s m args below meth c A H locs ls hC hK hP hD hS hL)
theorem z_icmp_le {x y : Int32} {off : Int} {tgt : Nat} (hd : decode mi.2.1 pc = .ok (.if_icmp .le off, 3)) (ht : (pc : Int) + off = (tgt : Int)) (kt : x ≤ y → z_R lay mi tgt L st σ Φ) (kf : ¬ x ≤ y → z_R lay mi (pc + 3) L st σ Φ) : z_R lay mi pc L (.int y :: .int x :: st) σ Φ :=
  fun l ad cI cZ D p e s m args below meth c A H locs ls hC hK hP hD hS hL => lv_icmp_le hC.1 hC.2.1 hd ht (fun q => kt q l ad cI cZ D p e s m args below meth c A H locs ls hC hK hP hD hS hL) (fun q => kf q l ad cI cZ D p e s m args below meth c A H locs ls hC hK hP hD hS hL)
end ZB
end
section
/-! stores into locals, cells, calls, returns -/
theorem z_Lh.lv {ad : Nat → Nat} {nL : Nat} {ls : Array Slot} {L : z_Loc} (h : z_Lh ad nL ls L) : lv_has ls nL ((List.range L.length).filterMap fun i => (L[i]?).join.map fun v => (i, z_v ad v)) := by
  refine ⟨h.1, h.2.1, fun q hq => ?_⟩
  obtain ⟨i, -, hi⟩ := List.mem_filterMap.mp hq
  cases hL : L[i]? with
  | none => rw [hL] at hi; cases hi
  | some o =>
    cases o with
    | none => rw [hL] at hi; cases hi
    | some v =>
      rw [hL] at hi
      cases hi
      exact h.2.2 i v hL
theorem z_cat (ad : Nat → Nat) (v : Value) : (z_v ad v).category = v.category := by cases v <;> rfl
/-- no value of two words ahead of place i -/
def z_no2 (L : z_Loc) (i : Nat) : Prop := ∀ j v, j + 1 = i → L[j]? = some (some v) → v.category = 1
theorem z_Lh.st1 {ad : Nat → Nat} {nL : Nat} {ls : Array Slot} {L : z_Loc} {i : Nat} {v : Value} {lv' : List (Nat × Value)} (hv : lv' = (i, z_v ad v) :: ((List.range L.length).filterMap fun i => (L[i]?).join.map fun v => (i, z_v ad v)).filter (fun q => !(q.1 == i) && !(q.1 + 1 == i && q.2.category == 2))) (h2 : z_no2 L i) (h : lv_has ls nL lv') : z_Lh ad nL ls (L.set i (some v)) := by
  refine ⟨h.1, h.2.1, fun j w hj => ?_⟩
  rw [List.getElem?_set] at hj
  by_cases hij : i = j
  · subst hij
    rw [if_pos rfl] at hj
    split at hj
    · cases hj
      exact h.2.2 (i, z_v ad v) (by rw [hv]; exact List.mem_cons_self)
    · cases hj
  · rw [if_neg hij] at hj
    refine h.2.2 (j, z_v ad w) ?_
    rw [hv]
    refine List.mem_cons_of_mem _ (List.mem_filter.mpr ⟨List.mem_filterMap.mpr ⟨j, List.mem_range.mpr (List.getElem?_eq_some_iff.mp hj).1, by rw [hj]; rfl⟩, ?_⟩)
    have h3 : (j == i) = false := by simp; exact Ne.symm hij
    have h4 : (j + 1 == i && (z_v ad w).category == 2) = false := by
      by_cases h5 : j + 1 = i
      · have := h2 j w h5 hj
        rw [z_cat, this]
        simp
      · simp [h5]
    simp [h3, h4]
theorem z_Lh.st2 {ad : Nat → Nat} {nL : Nat} {ls : Array Slot} {L : z_Loc} {i : Nat} {v : Value} {lv' : List (Nat × Value)} (hv : lv' = (i, z_v ad v) :: ((List.range L.length).filterMap fun i => (L[i]?).join.map fun v => (i, z_v ad v)).filter (fun q => !(q.1 == i) && (!(q.1 == i + 1) && !(q.1 + 1 == i && q.2.category == 2)))) (h2 : z_no2 L i) (h : lv_has ls nL lv') : z_Lh ad nL ls ((L.set i (some v)).set (i + 1) none) := by
  refine ⟨h.1, h.2.1, fun j w hj => ?_⟩
  rw [List.getElem?_set] at hj
  by_cases hij1 : i + 1 = j
  · subst hij1
    rw [if_pos rfl] at hj
    split at hj <;> cases hj
  · rw [if_neg hij1, List.getElem?_set] at hj
    by_cases hij : i = j
    · subst hij
      rw [if_pos rfl] at hj
      split at hj
      · cases hj
        exact h.2.2 (i, z_v ad v) (by rw [hv]; exact List.mem_cons_self)
      · cases hj
    · rw [if_neg hij] at hj
      refine h.2.2 (j, z_v ad w) ?_
      rw [hv]
      refine List.mem_cons_of_mem _ (List.mem_filter.mpr ⟨List.mem_filterMap.mpr ⟨j, List.mem_range.mpr (List.getElem?_eq_some_iff.mp hj).1, by rw [hj]; rfl⟩, ?_⟩)
      have h3 : (j == i) = false := by simp; exact Ne.symm hij
      have h3' : (j == i + 1) = false := by simp; exact Ne.symm hij1
      have h4 : (j + 1 == i && (z_v ad w).category == 2) = false := by
        by_cases h5 : j + 1 = i
        · have := h2 j w h5 hj
          rw [z_cat, this]
          simp
        · simp [h5]
      simp [h3, h3', h4]
section ZM
variable {lay : z_Lay} {mi : z_MI} {pc : Nat} {L L' : z_Loc} {st : List Value} {σ : z_Sto} {Φ : z_Post}
/-- the value ahead of a place takes one word: decided by looking -/
def z_ok1 (L : z_Loc) (i : Nat) : Bool := match i with
  | 0 => true
  | j + 1 => match L[j]? with
    | some (some (.long _)) => false
    | some (some (.double _)) => false
    | _ => true
theorem z_ok1.no2 {L : z_Loc} {i : Nat} (h : z_ok1 L i = true) : z_no2 L i := by
  intro j v hj hL
  subst hj
  rw [z_ok1, hL] at h
  cases v <;> first | rfl | cases h
theorem z_istore_n {k : Fin 4} {x : Int32} (hd : decode mi.2.1 pc = .ok (.istore_n k, 1)) (hn : (k : Nat) < mi.2.2.1) (h2 : z_ok1 L k = true) (hL' : L.set k (some (.int x)) = L') (kk : z_R lay mi (pc + 1) L' st σ Φ) : z_R lay mi pc L (.int x :: st) σ Φ := by
  intro l ad cI cZ D p e s m args below meth c A H locs ls hC hK hP hD hS hL
  subst hL'
  exact lv_istore_n hC.1 hC.2.1 hd rfl hL.lv hn rfl (fun ls' h' => kk l ad cI cZ D p e s m args below meth c A H locs ls' hC hK hP hD hS (z_Lh.st1 (v := .int x) rfl (z_ok1.no2 h2) h'))
theorem z_istore {k : Nat} {x : Int32} (hd : decode mi.2.1 pc = .ok (.istore k, 2)) (hn : k < mi.2.2.1) (h2 : z_ok1 L k = true) (hL' : L.set k (some (.int x)) = L') (kk : z_R lay mi (pc + 2) L' st σ Φ) : z_R lay mi pc L (.int x :: st) σ Φ := by
  intro l ad cI cZ D p e s m args below meth c A H locs ls hC hK hP hD hS hL
  subst hL'
  exact lv_istore hC.1 hC.2.1 hd hL.lv hn rfl (fun ls' h' => kk l ad cI cZ D p e s m args below meth c A H locs ls' hC hK hP hD hS (z_Lh.st1 (v := .int x) rfl (z_ok1.no2 h2) h'))
theorem z_lstore_n {k : Fin 4} {x : Int64} (hd : decode mi.2.1 pc = .ok (.lstore_n k, 1)) (hn : (k : Nat) + 1 < mi.2.2.1) (h2 : z_ok1 L k = true) (hL' : (L.set k (some (.long x))).set (k + 1) none = L') (kk : z_R lay mi (pc + 1) L' st σ Φ) : z_R lay mi pc L (.long x :: st) σ Φ := by
  intro l ad cI cZ D p e s m args below meth c A H locs ls hC hK hP hD hS hL
  subst hL'
  exact lv_lstore_n hC.1 hC.2.1 hd rfl hL.lv hn rfl (fun ls' h' => kk l ad cI cZ D p e s m args below meth c A H locs ls' hC hK hP hD hS (z_Lh.st2 (v := .long x) rfl (z_ok1.no2 h2) h'))
theorem z_lvk {ad : Nat → Nat} {i : Nat} {x : Int32} (h : L[i]? = some (some (.int x))) : ∃ k : Nat, ((List.range L.length).filterMap fun i => (L[i]?).join.map fun v => (i, z_v ad v))[k]? = some (i, .int x) := by
  have hm : (i, Value.int x) ∈ ((List.range L.length).filterMap fun i => (L[i]?).join.map fun v => (i, z_v ad v)) :=
    List.mem_filterMap.mpr ⟨i, List.mem_range.mpr (List.getElem?_eq_some_iff.mp h).1, by rw [h]; rfl⟩
  exact List.mem_iff_getElem?.mp hm
theorem z_iinc {i : Nat} {n : Int} {x : Int32} (hd : decode mi.2.1 pc = .ok (.iinc i n, 3)) (hx : L[i]? = some (some (.int x))) (hn : i < mi.2.2.1) (h2 : z_ok1 L i = true) (hL' : L.set i (some (.int (x + Int32.ofInt n))) = L') (kk : z_R lay mi (pc + 3) L' st σ Φ) : z_R lay mi pc L st σ Φ := by
  intro l ad cI cZ D p e s m args below meth c A H locs ls hC hK hP hD hS hL
  subst hL'
  obtain ⟨k, hk⟩ := z_lvk (ad := ad) hx
  exact lv_iinc hC.1 hC.2.1 hd hL.lv hk rfl hn rfl (fun ls' h' => kk l ad cI cZ D p e s m args below meth c A H locs ls' hC hK hP hD hS (z_Lh.st1 (v := .int (x + Int32.ofInt n)) rfl (z_ok1.no2 h2) h'))
/-- a switch: in the table, or out of it -/
theorem z_tabIn {dflt lo hi : Int} {offs : Array Int} {len : Nat} {x : Int32} {off : Int} {tgt : Nat} (hd : decode mi.2.1 pc = .ok (.tableswitch dflt lo hi offs, len)) (h1 : ¬ x.toInt < lo) (h2 : ¬ hi < x.toInt) (ho : offs[(x.toInt - lo).toNat]? = some off) (ht : (pc : Int) + off = (tgt : Int)) (k : z_R lay mi tgt L st σ Φ) : z_R lay mi pc L (.int x :: st) σ Φ :=
  fun l ad cI cZ D p e s m args below meth c A H locs ls hC hK hP hD hS hL => lv_tableIn hC.1 hC.2.1 hd h1 h2 ho ht (k l ad cI cZ D p e s m args below meth c A H locs ls hC hK hP hD hS hL)
theorem z_tabOut {dflt lo hi : Int} {offs : Array Int} {len : Nat} {x : Int32} {tgt : Nat} (hd : decode mi.2.1 pc = .ok (.tableswitch dflt lo hi offs, len)) (h : x.toInt < lo ∨ hi < x.toInt) (ht : (pc : Int) + dflt = (tgt : Int)) (k : z_R lay mi tgt L st σ Φ) : z_R lay mi pc L (.int x :: st) σ Φ :=
  fun l ad cI cZ D p e s m args below meth c A H locs ls hC hK hP hD hS hL => lv_tableOut hC.1 hC.2.1 hd h ht (k l ad cI cZ D p e s m args below meth c A H locs ls hC hK hP hD hS hL)
theorem z_look {dflt : Int} {ps : Array (Int × Int)} {len : Nat} {x : Int32} {off : Int} {tgt : Nat} (hd : decode mi.2.1 pc = .ok (.lookupswitch dflt ps, len)) (hp : (ps.toList.zip (ps.toList.drop 1)).all (fun (a, next) => a.1 < next.1) = true) (ho : Op.lookupswitch.offset ps.toList dflt x.toInt = off) (ht : (pc : Int) + off = (tgt : Int)) (k : z_R lay mi tgt L st σ Φ) : z_R lay mi pc L (.int x :: st) σ Φ :=
  fun l ad cI cZ D p e s m args below meth c A H locs ls hC hK hP hD hS hL => lv_lookup hC.1 hC.2.1 hd hp ho ht (k l ad cI cZ D p e s m args below meth c A H locs ls hC hK hP hD hS hL)
/-- what a class's fields are, by its number -/
def z_F (own : String) (ci k index : Nat) (C : String) (T : u_T) (N : Nat) : Prop := vwCl[ci]? = some (C, T, N) ∧ k < N ∧ (∀ w ∈ u_ws C T N, w ∈ z_tbl) ∧ (T k).1 = C ∧ Cond.fieldLink own index C (T k).2.1 (T k).2.2.1 ∈ z_tbl
theorem z_getA {c k j ci index : Nat} {fs : List (Option Nat)} {C : String} {T : u_T} {N : Nat} (hF : z_F mi.1.cls ci k index C T N) (hd : decode mi.2.1 pc = .ok (.getfield index, 3)) (hc : c < lay.1) (hl : lay.2 c = .inr (ci, fs)) (hk : fs[k]? = some (some j)) (kk : z_R lay mi (pc + 3) L (.ref j :: st) σ Φ) : z_R lay mi pc L (.ref c :: st) σ Φ := by
  intro l ad cI cZ D p e s m args below meth cc A H locs ls hC hK hP hD hS hL
  have hw := z_wd_at (ad := ad) (cI := cI) (cZ := cZ) (σ := σ) hc
  rw [hl] at hw
  refine va_get (v := .ref (ad j)) hC.1 hC.2.1 hC.2.2.2.2.2.1 (fun w h => List.mem_cons_of_mem _ (hF.2.2.1 w h)) hC.2.2.2.2.1 hK hP c hw hF.1 k hF.2.1 (hC.2.2.2.2.2.1 _ (List.mem_cons_of_mem _ hF.2.2.2.2)) (fun _ h9 => by rw [hF.2.2.2.1] at h9; exact h9) (by rw [z_fs_at, hk]; rfl) hd ?_
  exact kk l ad cI cZ D p e s m args below meth cc A H locs ls hC hK hP hD hS hL
theorem z_getI {c k ci index : Nat} {fs : List (Option Nat)} {C : String} {T : u_T} {N : Nat} (hF : z_F mi.1.cls ci k index C T N) (hd : decode mi.2.1 pc = .ok (.getfield index, 3)) (hc : c < lay.1) (hl : lay.2 c = .inr (ci, fs)) (hk : fs[k]? = some none) (kk : z_R lay mi (pc + 3) L (.int (σ c k) :: st) σ Φ) : z_R lay mi pc L (.ref c :: st) σ Φ := by
  intro l ad cI cZ D p e s m args below meth cc A H locs ls hC hK hP hD hS hL
  have hw := z_wd_at (ad := ad) (cI := cI) (cZ := cZ) (σ := σ) hc
  rw [hl] at hw
  refine va_get (v := .int (σ c k)) hC.1 hC.2.1 hC.2.2.2.2.2.1 (fun w h => List.mem_cons_of_mem _ (hF.2.2.1 w h)) hC.2.2.2.2.1 hK hP c hw hF.1 k hF.2.1 (hC.2.2.2.2.2.1 _ (List.mem_cons_of_mem _ hF.2.2.2.2)) (fun _ h9 => by rw [hF.2.2.2.1] at h9; exact h9) (by rw [z_fs_at, hk]; rfl) hd ?_
  exact kk l ad cI cZ D p e s m args below meth cc A H locs ls hC hK hP hD hS hL
theorem z_putI {c k ci index : Nat} {fs : List (Option Nat)} {C : String} {T : u_T} {N : Nat} {ty : FieldType} {v : Int32} {ty0 : Nat → FieldType} (hF : z_F mi.1.cls ci k index C T N) (hty : ∀ k, k < N → parseFieldDescriptor (T k).2.2.1 = some (ty0 k)) (hnm : ∀ a, a < N → ∀ b, b < N → a ≠ b → (T a).2.1 ≠ (T b).2.1) (hfin : (T k).2.2.2 = false) (hpd : ty0 k = ty) (hn : narrow ty (.int v) = .int v) (hfit : fits ty (.int v) = true)
    (hd : decode mi.2.1 pc = .ok (.putfield index, 3)) (hc : c < lay.1) (hl : lay.2 c = .inr (ci, fs)) (hk : fs[k]? = some none) (kk : z_R lay mi (pc + 3) L st (z_up σ c k v) Φ) : z_R lay mi pc L (.int v :: .ref c :: st) σ Φ := by
  intro l ad cI cZ D p e s m args below meth cc A H locs ls hC hK hP hD hS hL
  have hw := z_wd_at (ad := ad) (cI := cI) (cZ := cZ) (σ := σ) hc
  rw [hl] at hw
  have hset : (z_wd lay ad cI cZ σ).set c (ad c, .inr (ci, (z_fs ad (σ c) fs).set k (.int v))) = z_wd lay ad cI cZ (z_up σ c k v) := by
    rw [← z_wd_set (σ := σ) (σ' := z_up σ c k v) hc (fun c' h => z_up_ne σ k v h), hl, z_up_same, z_fs_set ad (σ c) hk]
    rfl
  refine va_put (v := .int v) (ty := ty) hC.1 hC.2.1 hC.2.2.2.2.2.1 (fun w h => List.mem_cons_of_mem _ (hF.2.2.1 w h)) ty0 hty hnm hC.2.2.2.2.1 hK hP hD hS c hw hF.1 k hF.2.1 (hC.2.2.2.2.2.1 _ (List.mem_cons_of_mem _ hF.2.2.2.2)) (fun _ h9 => by rw [hF.2.2.2.1] at h9; exact h9) hfin (by rw [hty k hF.2.1, hpd]) hn hfit (by simp [z_fs]; exact (List.getElem?_eq_some_iff.mp hk).1) hd (fun H1 locs1 hP1 hD1 hS1 => ?_)
  rw [hset] at hP1 hD1
  exact kk l ad cI cZ D p e s m args below meth cc A H1 locs1 ls hC hK hP1 hD1 hS1 hL
theorem z_iald {c n : Nat} {i : Int32} (hd : decode mi.2.1 pc = .ok (.iaload, 1)) (hc : c < lay.1) (hl : lay.2 c = .inl (false, n)) (hin : vp_in i n) (kk : z_R lay mi (pc + 1) L (.int (σ c i.toNatClampNeg) :: st) σ Φ) : z_R lay mi pc L (.int i :: .ref c :: st) σ Φ := by
  intro l ad cI cZ D p e s m args below meth cc A H locs ls hC hK hP hD hS hL
  have hw := z_wd_at (ad := ad) (cI := cI) (cZ := cZ) (σ := σ) hc
  rw [hl] at hw
  exact va_iald hC.1 hC.2.1 hK hP c 0 hw rfl hin hd (kk l ad cI cZ D p e s m args below meth cc A H locs ls hC hK hP hD hS hL)
theorem z_zald {c n : Nat} {i : Int32} (hd : decode mi.2.1 pc = .ok (.baload, 1)) (hc : c < lay.1) (hl : lay.2 c = .inl (true, n)) (hin : vp_in i n) (kk : z_R lay mi (pc + 1) L (.int (σ c i.toNatClampNeg) :: st) σ Φ) : z_R lay mi pc L (.int i :: .ref c :: st) σ Φ := by
  intro l ad cI cZ D p e s m args below meth cc A H locs ls hC hK hP hD hS hL
  have hw := z_wd_at (ad := ad) (cI := cI) (cZ := cZ) (σ := σ) hc
  rw [hl] at hw
  exact va_zald hC.1 hC.2.1 hK hP c 1 hw rfl hin hd (kk l ad cI cZ D p e s m args below meth cc A H locs ls hC hK hP hD hS hL)
theorem z_iast {c n : Nat} {i x : Int32} (hd : decode mi.2.1 pc = .ok (.iastore, 1)) (hc : c < lay.1) (hl : lay.2 c = .inl (false, n)) (hin : vp_in i n) (kk : z_R lay mi (pc + 1) L st (z_up σ c i.toNatClampNeg x) Φ) : z_R lay mi pc L (.int x :: .int i :: .ref c :: st) σ Φ := by
  intro l ad cI cZ D p e s m args below meth cc A H locs ls hC hK hP hD hS hL
  have hw := z_wd_at (ad := ad) (cI := cI) (cZ := cZ) (σ := σ) hc
  have hset : (z_wd lay ad cI cZ σ).set c (ad c, .inl (cI, n, .inl (upd (σ c) i.toNatClampNeg x))) = z_wd lay ad cI cZ (z_up σ c i.toNatClampNeg x) := by
    rw [← z_wd_set (σ := σ) (σ' := z_up σ c i.toNatClampNeg x) hc (fun c' h => z_up_ne σ _ x h), hl, z_up_same]
    rfl
  rw [hl] at hw
  refine va_iast hC.1 hC.2.1 hK hP hD hS c 0 hw rfl hin hd (fun H1 locs1 hP1 hD1 hS1 => ?_)
  have e1 := hset
  exact kk l ad cI cZ D p e s m args below meth cc A H1 locs1 ls hC hK (by rw [← hset]; exact hP1) (by rw [← hset]; exact hD1) hS1 hL
theorem z_zast {c n : Nat} {i x : Int32} (hd : decode mi.2.1 pc = .ok (.bastore, 1)) (hc : c < lay.1) (hl : lay.2 c = .inl (true, n)) (hin : vp_in i n) (hx : x = 0 ∨ x = 1) (kk : z_R lay mi (pc + 1) L st (z_up σ c i.toNatClampNeg x) Φ) : z_R lay mi pc L (.int x :: .int i :: .ref c :: st) σ Φ := by
  intro l ad cI cZ D p e s m args below meth cc A H locs ls hC hK hP hD hS hL
  have hw := z_wd_at (ad := ad) (cI := cI) (cZ := cZ) (σ := σ) hc
  have hset : (z_wd lay ad cI cZ σ).set c (ad c, .inl (cZ, n, .inl (upd (σ c) i.toNatClampNeg x))) = z_wd lay ad cI cZ (z_up σ c i.toNatClampNeg x) := by
    rw [← z_wd_set (σ := σ) (σ' := z_up σ c i.toNatClampNeg x) hc (fun c' h => z_up_ne σ _ x h), hl, z_up_same]
    rfl
  have hnar : vp_nar .boolean x = x := by rcases hx with rfl | rfl <;> decide
  rw [hl] at hw
  refine va_zast hC.1 hC.2.1 hK hP hD hS c 1 hw rfl hin hd (fun H1 locs1 hP1 hD1 hS1 => ?_)
  rw [hnar] at hP1 hD1
  exact kk l ad cI cZ D p e s m args below meth cc A H1 locs1 ls hC hK (by rw [← hset]; exact hP1) (by rw [← hset]; exact hD1) hS1 hL
theorem z_alenI {c n : Nat} (hd : decode mi.2.1 pc = .ok (.arraylength, 1)) (hc : c < lay.1) (hl : lay.2 c = .inl (false, n)) (kk : z_R lay mi (pc + 1) L (.int (Int32.ofNat n) :: st) σ Φ) : z_R lay mi pc L (.ref c :: st) σ Φ := by
  intro l ad cI cZ D p e s m args below meth cc A H locs ls hC hK hP hD hS hL
  have hw := z_wd_at (ad := ad) (cI := cI) (cZ := cZ) (σ := σ) hc
  rw [hl] at hw
  exact va_alen hC.1 hC.2.1 hK hP c 0 hw (ty := .int) rfl rfl hd (kk l ad cI cZ D p e s m args below meth cc A H locs ls hC hK hP hD hS hL)
/-- returns -/
theorem z_ireturn {x : Int32} {ty : FieldType} (hd : decode mi.2.1 pc = .ok (.ireturn, 1)) (ht : mi.2.2.2.1 = some ty) (hn : narrow ty (.int x) = .int x) (k : Φ (some (.int x)) σ) : z_R lay mi pc L [.int x] σ Φ := by
  intro l ad cI cZ D p e s m args below meth cc A H locs ls hC hK hP hD hS hL
  refine W.zret hC.1 hC.2.1 (hC.2.2.2.1.trans ht) hn (fun t ht' hW => ⟨⟨some (.int x), σ, rfl, k, by rw [ht']; exact hP, va_K.moved hW.alike hK, hD⟩, hS.F ht'⟩) hS.2.2 hd hC.2.2.2.2.2.2.1
theorem z_lreturn {x : Int64} (hd : decode mi.2.1 pc = .ok (.lreturn, 1)) (ht : mi.2.2.2.1 = some .long) (k : Φ (some (.long x)) σ) : z_R lay mi pc L [.long x] σ Φ := by
  intro l ad cI cZ D p e s m args below meth cc A H locs ls hC hK hP hD hS hL
  refine W.lret hC.1 hC.2.1 (hC.2.2.2.1.trans ht) (fun t ht' hW => ⟨⟨some (.long x), σ, rfl, k, by rw [ht']; exact hP, va_K.moved hW.alike hK, hD⟩, hS.F ht'⟩) hS.2.2 hd hC.2.2.2.2.2.2.1
theorem z_return (hd : decode mi.2.1 pc = .ok (.return_, 1)) (ht : mi.2.2.2.1 = none) (k : Φ none σ) : z_R lay mi pc L [] σ Φ := by
  intro l ad cI cZ D p e s m args below meth cc A H locs ls hC hK hP hD hS hL
  refine W.vret hC.1 hC.2.1 (hC.2.2.2.1.trans ht) (fun t ht' hW => ⟨⟨none, σ, rfl, k, by rw [ht']; exact hP, va_K.moved hW.alike hK, hD⟩, hS.F ht'⟩) hS.2.2 hd hC.2.2.2.2.2.2.1
end ZM
end
section
/-! a body's judgement gives the method's contract; calls -/
def z_c1 (vs : List Value) : Bool := vs.all (fun v => v.category == 1)
theorem z_args_mem : ∀ (vs : List Value) (i k : Nat) (v : Value), z_c1 vs = true → vs[k]? = some v → (i + k, v) ∈ lv_args i vs
  | [], _, _, _, _, h => by simp at h
  | w :: vs, i, 0, v, _, h => by
    simp at h
    subst h
    exact List.mem_cons_self
  | w :: vs, i, k + 1, v, hc, h => by
    simp only [z_c1, List.all_cons, Bool.and_eq_true, beq_iff_eq] at hc
    have h1 := z_args_mem vs (i + 1) k v (by simp only [z_c1]; exact hc.2) (by simpa using h)
    rw [lv_args]
    have h2 : ¬ w.category = 2 := by rw [hc.1]; decide
    rw [if_neg h2]
    refine List.mem_cons_of_mem _ ?_
    rw [show i + (k + 1) = i + 1 + k by omega]
    exact h1
theorem z_sl_len : ∀ (vs : List Value), z_c1 vs = true → (lg_sl vs).length = vs.length
  | [], _ => rfl
  | w :: vs, hc => by
    simp only [z_c1, List.all_cons, Bool.and_eq_true, beq_iff_eq] at hc
    have h1 := z_sl_len vs (by simp only [z_c1]; exact hc.2)
    have h2 : ¬ w.category = 2 := by rw [hc.1]; decide
    simp only [lg_sl, List.flatMap_cons, if_neg h2] at h1 ⊢
    simp [h1]
theorem z_c1_map (ad : Nat → Nat) {vs : List Value} (h : z_c1 vs = true) : z_c1 (vs.map (z_v ad)) = true := by
  simp only [z_c1, List.all_map, List.all_eq_true, Function.comp] at h ⊢
  intro v hv
  rw [z_cat]
  exact h v hv
theorem z_met {lay : z_Lay} {mi : z_MI} {σ : z_Sto} {Φ : z_Post} {l : Launch} {ad : Nat → Nat} {cI cZ : ClassId} {D : va_G} {sz : Nat} {vs : List Value} (hy : plainName mi.1.cls = true) (hc : z_c1 vs = true) (hn : vs.length ≤ mi.2.2.1) (h : z_R lay mi 0 (vs.map some ++ List.replicate (mi.2.2.1 - vs.length) none) [] σ Φ) :
    Met l mi.1 (z_ws mi) (z_rm mi.2.2.2.2) (va_Pc (vs.map (z_v ad)) (fun U => U.heap.size = sz ∧ va_P D vwCl (z_wd lay ad cI cZ σ) U.heap ∧ va_K D vwCl (z_tys cI cZ) U ∧ va_D (fun _ => True) (z_wd lay ad cI cZ σ) ∧ z_T (va_A (z_wd lay ad cI cZ σ) sz) U)) (z_Q lay ad cI cZ D (va_A (z_wd lay ad cI cZ σ) sz) Φ) 0 0 (va_A (z_wd lay ad cI cZ σ) sz) := by
  refine Met.ofW (cc := mi.2.1) (maxL := mi.2.2.1) (ret := mi.2.2.2.1) hy rfl ?_
  intro p e s m args below meth c s₁ B hml hv
  obtain ⟨rfl, hsz, hP, hK, hD0, hT⟩ := hv
  have hts := atoms_spec (ws := z_ws mi) B.pre
  have hown : s.vm.findClass mi.1.cls = some m.cls := findClass_of_methodNamed B.named
  subst hsz
  have hD := hD0.self (sz := s.heap.size)
  have hl := lv_entry (vs.map (z_v ad)) (n := mi.2.2.1) (by rw [z_sl_len _ (z_c1_map ad hc), List.length_map]; exact hn)
  rw [lg_entry_eq]
  refine h l ad cI cZ D p e s m _ below meth c _ s.heap [] _ ⟨B.exec, B.bytes, hml, B.returns, hown, hts, B.notSynchronized, fun q hq => Or.inr hq, hT⟩ hK hP hD va_S.rf ⟨hl.1, hl.2.1, fun i v hi => ?_⟩
  by_cases hlt : i < vs.length
  · rw [List.getElem?_append_left (by simpa using hlt), List.getElem?_map] at hi
    cases hv : vs[i]? with
    | none => rw [hv] at hi; cases hi
    | some w =>
      rw [hv] at hi
      cases hi
      have := z_args_mem (vs.map (z_v ad)) 0 i (z_v ad v) (z_c1_map ad hc) (by rw [List.getElem?_map, hv]; rfl)
      rw [Nat.zero_add] at this
      exact hl.2.2 _ this
  · rw [List.getElem?_append_right (by simpa using Nat.not_lt.mp hlt), List.getElem?_replicate] at hi
    split at hi <;> cases hi
theorem z_callx {p : Program} {l : Launch} {e : Env} {R : Room} {s : State} {m : MethodId} {args : Array Value} {below : List Frame} {meth : Method} {c : Code} {H : Heap} {locs : List Loc} {Q : State → Prop} {pc : Nat} {ls : Array Slot} {rest st0 : List Value} {a : Array Value} {A0 A1 : Nat → Prop} {H0 : Heap} {lay : z_Lay} {ad : Nat → Nat} {cI cZ : ClassId} {D : va_G} {Ψ : z_Post}
    (hr : va_Run p l e R s m args below meth c H locs 0 0 0 0 (F0 m pc ls st0) rest (z_Q lay ad cI cZ D A1 Ψ a) A1) (hS : va_S A0 H0 H locs) (hA : ∀ q, A1 q → A0 q)
    (kk : ∀ (r : Option Value) (σ : z_Sto) (t : State) (H1 : Heap) (locs1 : List Loc), t.heap = H1 → s.vm.Alike t.vm → Ψ r σ → va_P D vwCl (z_wd lay ad cI cZ σ) H1 → va_D A1 (z_wd lay ad cI cZ σ) → va_S A0 H0 H1 locs1 → W p l e R s m args below meth c H1 locs1 0 0 Q (F0 m (pc + 3) ls ((r.map (z_v ad)).toList ++ rest))) : W p l e R s m args below meth c H locs 0 0 Q (F0 m pc ls st0) := by
  intro T hT X
  obtain ⟨v, st₀, t, T', L, h0, X', hL, e1, e2, ⟨⟨r, σ, hv, hp, hP, hK, hD⟩, hz, hk⟩, st⟩ := hr T hT X
  cases hv
  rw [h0] at hz hk
  obtain ⟨t2, a1, b1⟩ := kk r σ t T'.heap (locs ++ L) e1.symm (by rw [← e2]; exact X'.warmed.alike) hp (by rw [e1]; exact hP) hD
    ⟨Nat.le_trans hS.1 (by rw [e1]; exact hz), fun q h1 h2 => by rw [e1, hk q (Nat.lt_of_lt_of_le h1 hS.1) (fun z => h2 (hA q z))]; exact hS.2.1 q h1 h2, fun q hq => by
      rcases List.mem_append.mp hq with h | h
      · exact hS.2.2 q h
      · exact hA _ (hL q h)⟩ T' rfl X'
  exact ⟨t2, st t2 a1, b1⟩
theorem z_good {w : Cond} (h : w ∈ z_tbl) : ((w.onTables && w.keeps) = true ∨ ∃ ty, w = .arrayClass ty) := good_of_word (List.mem_filter.mp h).2
theorem z_goodIn {mi : z_MI} {ws : List Cond} (h : ∀ w ∈ ws, w ∈ z_tbl) : GoodIn (z_ws mi) ws := fun w hw => ⟨List.mem_cons_of_mem _ (h w hw), z_good (h w hw)⟩
def z_MB (mj : z_MI) (n : Nat) : Prop := plainName mj.1.cls = true ∧ Cond.initialized mj.1.cls ∈ z_tbl ∧ Cond.code mj.1 mj.2.1 mj.2.2.1 mj.2.2.2.1 ∈ z_tbl ∧ mj.1.cls ≠ "java/lang/invoke/MethodHandle" ∧ mj.1.cls ≠ "java/lang/invoke/VarHandle" ∧ (parseMethodDescriptor mj.1.desc).map (fun d => d.parameters.length) = some n ∧ mj.2.2.1 ≤ 13
def z_MV (mj : z_MI) (n : Nat) : Prop := z_MB mj n ∧ Cond.instanceMethod mj.1 ∈ z_tbl ∧ Cond.selects mj.1.cls mj.1 mj.1 ∈ z_tbl
def z_MS (mj : z_MI) (n : Nat) : Prop := z_MB mj n ∧ Cond.static mj.1 ∈ z_tbl
theorem z_ws_in {mj : z_MI} {n : Nat} (h : z_MB mj n) : ∀ w ∈ z_ws mj, w ∈ z_tbl := by
  intro w hw
  rcases List.mem_cons.mp hw with rfl | hw
  · exact h.2.2.1
  · exact hw
section ZCALL
variable {lay : z_Lay} {mi mj : z_MI} {pc : Nat} {L L' : z_Loc} {st st0 : List Value} {σ : z_Sto} {Φ Ψ : z_Post} {index n : Nat} {As : List Value}
theorem z_callV {b ci : Nat} {fs : List (Option Nat)} {T : u_T} {N : Nat} (hM : z_MV mj n) (hlk : Cond.methodLink mi.1.cls index mj.1 ∈ z_tbl) (hdp : mj.2.2.2.2 < mi.2.2.2.2)
    (hd : decode mi.2.1 pc = .ok (.invokevirtual index, 3)) (hb : b < lay.1) (hl : lay.2 b = .inr (ci, fs)) (hcl : vwCl[ci]? = some (mj.1.cls, T, N))
    (hs : st0 = As.reverse ++ .ref b :: st) (hc1 : z_c1 As = true) (hn : As.length = n) (hnn : n + 1 ≤ mj.2.2.1) (hst : (st.map (fun v => v.category)).sum ≤ 8)
    (hcal : z_R lay mj 0 L' [] σ Ψ) (hL' : L' = (.ref b :: As).map some ++ List.replicate (mj.2.2.1 - (n + 1)) none)
    (kk : ∀ r σ', Ψ r σ' → z_R lay mi (pc + 3) L (r.toList ++ st) σ' Φ) : z_R lay mi pc L st0 σ Φ := by
  intro l ad cI cZ D p e s m args below meth c A H locs ls hC hK hP hD hS hL
  subst hs
  subst hn
  subst hL'
  obtain ⟨hx, hbc, hml, hr, hown, hts, hlk', hA, hT⟩ := id hC
  have hG : GoodIn (z_ws mi) (wsV mi.1.cls index mj.1.cls mj.1 (z_ws mj)) := z_goodIn (fun w hw => by
    simp only [wsV, List.cons_append, List.nil_append, List.mem_cons] at hw
    rcases hw with rfl | rfl | rfl | rfl | hw
    · exact hlk
    · exact hM.2.1
    · exact hM.2.2
    · exact hM.1.2.1
    · exact z_ws_in hM.1 w hw)
  have hw := z_wd_at (ad := ad) (cI := cI) (cZ := cZ) (σ := σ) hb
  rw [hl] at hw
  have hF : ∀ q, va_A (z_wd lay ad cI cZ σ) H.size q → A q := fun q h => by
    rcases h with ⟨k, e, h⟩ | h
    · exact hD.2 k (q, e) h
    · exact hA q (Nat.le_trans hS.1 h)
  have hMet := z_met (l := l) (ad := ad) (cI := cI) (cZ := cZ) (D := D) (sz := H.size) (vs := .ref b :: As) hM.1.1 (by simp only [z_c1, List.all_cons] at hc1 ⊢; rw [hc1]; rfl) hnn hcal
  have hcat : ((st.map (z_v ad)).map (fun v => v.category)).sum ≤ 8 := by
    rw [List.map_map]
    have : ((fun v : Value => v.category) ∘ z_v ad) = (fun v : Value => v.category) := funext fun v => z_cat ad v
    rw [this]; exact hst
  refine z_callx (va_runV (As := As.map (z_v ad)) (rest := st.map (z_v ad)) (b := ad b) ⟨hx, hbc, hml, hown, hts⟩ hMet (cwV As.length hts hG rfl rfl rfl ⟨rfl, hM.1.2.2.2.1, hM.1.2.2.2.2.1, hM.1.2.2.2.2.2.1⟩ ⟨hdp, ?_⟩) ⟨fun a U g mk q => by obtain ⟨q0, q1, qP, qK, qD, qT⟩ := q; exact ⟨q0, q1, qP, va_K.moved (u := U) (U := U.calling g mk a) (Vm.Alike.refl U.vm) qK, qD, qT.calling⟩, va_recv hK hP hcl hw, fun U hU hW => ⟨rfl, by rw [hU], by rw [hU]; exact hP, va_K.moved hW.alike hK, hD.weaken (fun _ _ _ _ => trivial), hT.go hS hU hW.alike hF⟩⟩ rfl (by rw [List.length_map]) hL.1 ?_ (lv_room hcat) hd ⟨Nat.zero_le _, Nat.zero_le _⟩) hS hF (fun r σ' t H1 locs1 ht hvm hΨ hP1 hD1 hS1 => ?_)
  · have h13 := hM.1.2.2.2.2.2.2
    show 8 + (mj.2.2.1 + 11) + 32 * mj.2.2.2.2 ≤ 32 * mi.2.2.2.2
    omega
  · show List.map (z_v ad) (As.reverse ++ .ref b :: st) = _
    rw [List.map_append, List.map_reverse]
    rfl
  · have h1 := kk r σ' hΨ l ad cI cZ D p e s m args below meth c A H1 locs1 ls hC hK hP1 (hD1.weaken (fun k q _ h => hF q.1 h)) hS1 hL
    have h2 : (r.toList ++ st).map (z_v ad) = (r.map (z_v ad)).toList ++ st.map (z_v ad) := by
      rw [List.map_append]
      cases r <;> rfl
    rw [h2] at h1
    exact h1
theorem z_callS (hM : z_MS mj n) (hlk : Cond.methodLink mi.1.cls index mj.1 ∈ z_tbl) (hdp : mj.2.2.2.2 < mi.2.2.2.2)
    (hd : decode mi.2.1 pc = .ok (.invokestatic index, 3))
    (hs : st0 = As.reverse ++ st) (hc1 : z_c1 As = true) (hn : As.length = n) (hnn : n ≤ mj.2.2.1) (hst : (st.map (fun v => v.category)).sum ≤ 8)
    (hcal : z_R lay mj 0 L' [] σ Ψ) (hL' : L' = As.map some ++ List.replicate (mj.2.2.1 - n) none)
    (kk : ∀ r σ', Ψ r σ' → z_R lay mi (pc + 3) L (r.toList ++ st) σ' Φ) : z_R lay mi pc L st0 σ Φ := by
  intro l ad cI cZ D p e s m args below meth c A H locs ls hC hK hP hD hS hL
  subst hs
  subst hn
  subst hL'
  obtain ⟨hx, hbc, hml, hr, hown, hts, hlk', hA, hT⟩ := id hC
  have hG : GoodIn (z_ws mi) (va_wsS mi.1.cls index mj.1 (z_ws mj)) := z_goodIn (fun w hw => by
    simp only [va_wsS, List.cons_append, List.nil_append, List.mem_cons] at hw
    rcases hw with rfl | rfl | rfl | hw
    · exact hlk
    · exact hM.2
    · exact hM.1.2.1
    · exact z_ws_in hM.1 w hw)
  have hF : ∀ q, va_A (z_wd lay ad cI cZ σ) H.size q → A q := fun q h => by
    rcases h with ⟨k, e, h⟩ | h
    · exact hD.2 k (q, e) h
    · exact hA q (Nat.le_trans hS.1 h)
  have hMet := z_met (l := l) (ad := ad) (cI := cI) (cZ := cZ) (D := D) (sz := H.size) (vs := As) hM.1.1 hc1 hnn hcal
  have hcat : ((st.map (z_v ad)).map (fun v => v.category)).sum ≤ 8 := by
    rw [List.map_map]
    have : ((fun v : Value => v.category) ∘ z_v ad) = (fun v : Value => v.category) := funext fun v => z_cat ad v
    rw [this]; exact hst
  refine z_callx (va_runS (As := As.map (z_v ad)) (rest := st.map (z_v ad)) ⟨hx, hbc, hml, hown, hts⟩ hMet (va_cwS As.length hts hG rfl rfl rfl ⟨hM.1.2.2.2.1, hM.1.2.2.2.2.1, hM.1.2.2.2.2.2.1⟩ ⟨hdp, ?_⟩) ⟨fun a U g mk q => by obtain ⟨q0, q1, qP, qK, qD, qT⟩ := q; exact ⟨q0, q1, qP, va_K.moved (u := U) (U := U.calling g mk a) (Vm.Alike.refl U.vm) qK, qD, qT.calling⟩, fun U hU hW => ⟨rfl, by rw [hU], by rw [hU]; exact hP, va_K.moved hW.alike hK, hD.weaken (fun _ _ _ _ => trivial), hT.go hS hU hW.alike hF⟩⟩ rfl (by rw [List.length_map]) hL.1 ?_ (lv_room hcat) hd ⟨Nat.zero_le _, Nat.zero_le _⟩) hS hF (fun r σ' t H1 locs1 ht hvm hΨ hP1 hD1 hS1 => ?_)
  · have h13 := hM.1.2.2.2.2.2.2
    show 8 + (mj.2.2.1 + 11) + 32 * mj.2.2.2.2 ≤ 32 * mi.2.2.2.2
    omega
  · show List.map (z_v ad) (As.reverse ++ st) = _
    rw [List.map_append, List.map_reverse]
  · have h1 := kk r σ' hΨ l ad cI cZ D p e s m args below meth c A H1 locs1 ls hC hK hP1 (hD1.weaken (fun k q _ h => hF q.1 h)) hS1 hL
    have h2 : (r.toList ++ st).map (z_v ad) = (r.map (z_v ad)).toList ++ st.map (z_v ad) := by
      rw [List.map_append]
      cases r <;> rfl
    rw [h2] at h1
    exact h1
end ZCALL
theorem z_w_max : Cond.static Lib.Math.max.name ∈ z_tbl ∧ Cond.initialized "java/lang/Math" ∈ z_tbl ∧ Cond.code Lib.Math.max.name Lib.Math.max.code 2 (some .int) ∈ z_tbl := ⟨by decide +kernel, by decide +kernel, by decide +kernel⟩
theorem z_w_min : Cond.static Lib.Math.min.name ∈ z_tbl ∧ Cond.initialized "java/lang/Math" ∈ z_tbl ∧ Cond.code Lib.Math.min.name Lib.Math.min.code 2 (some .int) ∈ z_tbl := ⟨by decide +kernel, by decide +kernel, by decide +kernel⟩
theorem z_w_copy : Cond.native arraycopyName ∈ z_tbl ∧ Cond.static arraycopyName ∈ z_tbl ∧ Cond.initialized "java/lang/System" ∈ z_tbl := ⟨by decide +kernel, by decide +kernel, by decide +kernel⟩
section ZLIB
variable {lay : z_Lay} {mi : z_MI} {pc : Nat} {L : z_Loc} {st : List Value} {σ : z_Sto} {Φ : z_Post} {index : Nat}
theorem z_catmap (ad : Nat → Nat) (st : List Value) : ((st.map (z_v ad)).map (fun v => v.category)).sum = (st.map (fun v => v.category)).sum := by
  rw [List.map_map]
  have : ((fun v : Value => v.category) ∘ z_v ad) = (fun v : Value => v.category) := funext fun v => z_cat ad v
  rw [this]
theorem z_max {x y : Int32} (hlk : Cond.methodLink mi.1.cls index Lib.Math.max.name ∈ z_tbl) (hdp : 1 ≤ mi.2.2.2.2) (hst : (st.map (fun v => v.category)).sum ≤ 8) (hd : decode mi.2.1 pc = .ok (.invokestatic index, 3)) (k : z_R lay mi (pc + 3) L (.int (if x < y then y else x) :: st) σ Φ) : z_R lay mi pc L (.int y :: .int x :: st) σ Φ := by
  intro l ad cI cZ D p e s m args below meth c A H locs ls hC hK hP hD hS hL
  have hw : ∀ w ∈ z_tbl, w.before args s = true := fun w h => hC.2.2.2.2.2.1 w (List.mem_cons_of_mem _ h)
  refine va_mmax hC.1 hC.2.1 (hC.2.2.1.trans hL.1.symm) hC.2.2.2.2.1 (hw _ hlk) (hw _ z_w_max.1) (hw _ z_w_max.2.1) (hw _ z_w_max.2.2) hdp ?_ (Nat.zero_le _) (Nat.zero_le _) hd (k l ad cI cZ D p e s m args below meth c A H locs ls hC hK hP hD hS hL)
  rw [z_catmap]
  show _ ≤ 32 * mi.2.2.2.2
  omega
theorem z_min {x y : Int32} (hlk : Cond.methodLink mi.1.cls index Lib.Math.min.name ∈ z_tbl) (hdp : 1 ≤ mi.2.2.2.2) (hst : (st.map (fun v => v.category)).sum ≤ 8) (hd : decode mi.2.1 pc = .ok (.invokestatic index, 3)) (k : z_R lay mi (pc + 3) L (.int (if y < x then y else x) :: st) σ Φ) : z_R lay mi pc L (.int y :: .int x :: st) σ Φ := by
  intro l ad cI cZ D p e s m args below meth c A H locs ls hC hK hP hD hS hL
  have hw : ∀ w ∈ z_tbl, w.before args s = true := fun w h => hC.2.2.2.2.2.1 w (List.mem_cons_of_mem _ h)
  refine va_mmin hC.1 hC.2.1 (hC.2.2.1.trans hL.1.symm) hC.2.2.2.2.1 (hw _ hlk) (hw _ z_w_min.1) (hw _ z_w_min.2.1) (hw _ z_w_min.2.2) hdp ?_ (Nat.zero_le _) (Nat.zero_le _) hd (k l ad cI cZ D p e s m args below meth c A H locs ls hC hK hP hD hS hL)
  rw [z_catmap]
  show _ ≤ 32 * mi.2.2.2.2
  omega
/-- the whole of one int array over another of the same length 8 -/
theorem z_copy8 {a b : Nat} (hlk : Cond.methodLink mi.1.cls index arraycopyName ∈ z_tbl) (hdp : 1 ≤ mi.2.2.2.2) (hst : (st.map (fun v => v.category)).sum ≤ 8) (ha : a < lay.1) (hb : b < lay.1) (hla : lay.2 a = .inl (false, 8)) (hlb : lay.2 b = .inl (false, 8)) (hd : decode mi.2.1 pc = .ok (.invokestatic index, 3))
    (k : z_R lay mi (pc + 3) L st (fun c => if c = b then (fun j => if j < 8 then σ a j else σ b j) else σ c) Φ) : z_R lay mi pc L (.int 8 :: .int 0 :: .ref b :: .int 0 :: .ref a :: st) σ Φ := by
  intro l ad cI cZ D p e s m args below meth c A H locs ls hC hK hP hD hS hL
  have hw : ∀ w ∈ z_tbl, w.before args s = true := fun w h => hC.2.2.2.2.2.1 w (List.mem_cons_of_mem _ h)
  have wa := z_wd_at (ad := ad) (cI := cI) (cZ := cZ) (σ := σ) ha
  have wb := z_wd_at (ad := ad) (cI := cI) (cZ := cZ) (σ := σ) hb
  have e0 : (0 : Int32).toNatClampNeg = 0 := by decide
  have e8 : (8 : Int32).toNatClampNeg = 8 := by decide
  have hcp : va_cpy (σ a) (σ b) 0 0 8 = (fun j => if j < 8 then σ a j else σ b j) := by
    funext j
    simp [va_cpy]
  have hset : (z_wd lay ad cI cZ σ).set b (ad b, .inl (cI, 8, .inl (va_cpy (σ a) (σ b) 0 0 8))) = z_wd lay ad cI cZ (fun c => if c = b then (fun j => if j < 8 then σ a j else σ b j) else σ c) := by
    rw [← z_wd_set (σ := σ) (σ' := fun c => if c = b then (fun j => if j < 8 then σ a j else σ b j) else σ c) hb (fun c' h => by simp [h]), hlb, hcp]
    simp [z_ent]
  rw [hla] at wa
  rw [hlb] at wb
  refine va_copyi (ty := .int) hC.1 hC.2.1 (hC.2.2.1.trans hL.1.symm) hC.2.2.2.2.1 (hw _ hlk) (hw _ z_w_copy.1) (hw _ z_w_copy.2.1) (hw _ z_w_copy.2.2) hK hP hD hS a b 0 0 wa wb rfl rfl rfl (by decide) (by decide) (by decide) (by decide) (by decide) (fun i _ => rfl) hdp ?_ hd (fun H1 locs1 hP1 hD1 hS1 => ?_)
  · rw [z_catmap]
    show _ + (nativeFrameWords "java/lang/System" "arraycopy" 5 + 11) ≤ 32 * mi.2.2.2.2
    have : nativeFrameWords "java/lang/System" "arraycopy" 5 = 7 := by decide
    omega
  · rw [e0, e8] at hP1 hD1
    exact k l ad cI cZ D p e s m args below meth c A H1 locs1 ls hC hK (by rw [← hset]; exact hP1) (by rw [← hset]; exact hD1) hS1 hL
/-- a static row of numbers, read at a local's place, or at a constant one -/
theorem z_stl {n : String} {f : Nat → Int32} {x : Int32} {kf : Fin 4} (hT : ∀ A s, z_T A s → z_T1 n f A s) (hlk : Cond.fieldLink mi.1.cls index "CalmLines$Rules" n "[I" ∈ z_tbl) (h1 : decode mi.2.1 pc = .ok (.getstatic index, 3)) (h2 : decode mi.2.1 (pc + 3) = .ok (.iload_n kf, 1)) (h3 : decode mi.2.1 (pc + 3 + 1) = .ok (.iaload, 1)) (hl : L[(kf : Nat)]? = some (some (.int x))) (hin : vp_in x 8) (k : z_R lay mi (pc + 3 + 1 + 1) L (.int (f x.toNatClampNeg) :: st) σ Φ) : z_R lay mi pc L st σ Φ := by
  intro l ad cI cZ D p e s m args below meth c A H locs ls hC hK hP hD hS hL
  have hw : ∀ w ∈ z_tbl, w.before args s = true := fun w h => hC.2.2.2.2.2.1 w (List.mem_cons_of_mem _ h)
  obtain ⟨t, hZ, hTt⟩ := hT A s hC.2.2.2.2.2.2.2.2
  refine va_gets hC.1 hC.2.1 hZ hS hC.2.2.2.2.1 (hw _ hlk) (fun _ h => h) h1 ?_
  refine lv_iload_n hC.1 hC.2.1 h2 rfl (hL.2.2 _ _ hl) ?_
  exact va_ti hC.1 hC.2.1 hTt hS hin rfl h3 (k l ad cI cZ D p e s m args below meth c A H locs ls hC hK hP hD hS hL)
theorem z_stc {n : String} {f : Nat → Int32} {x : Int32} {v : Int} (hT : ∀ A s, z_T A s → z_T1 n f A s) (hlk : Cond.fieldLink mi.1.cls index "CalmLines$Rules" n "[I" ∈ z_tbl) (h1 : decode mi.2.1 pc = .ok (.getstatic index, 3)) (h2 : decode mi.2.1 (pc + 3) = .ok (.iconst v, 1)) (h3 : decode mi.2.1 (pc + 3 + 1) = .ok (.iaload, 1)) (hv : Int32.ofInt v = x) (hin : vp_in x 8) (k : z_R lay mi (pc + 3 + 1 + 1) L (.int (f x.toNatClampNeg) :: st) σ Φ) : z_R lay mi pc L st σ Φ := by
  intro l ad cI cZ D p e s m args below meth c A H locs ls hC hK hP hD hS hL
  have hw : ∀ w ∈ z_tbl, w.before args s = true := fun w h => hC.2.2.2.2.2.1 w (List.mem_cons_of_mem _ h)
  obtain ⟨t, hZ, hTt⟩ := hT A s hC.2.2.2.2.2.2.2.2
  refine va_gets hC.1 hC.2.1 hZ hS hC.2.2.2.2.1 (hw _ hlk) (fun _ h => h) h1 ?_
  refine lv_iconst hC.1 hC.2.1 h2 hv ?_
  exact va_ti hC.1 hC.2.1 hTt hS hin rfl h3 (k l ad cI cZ D p e s m args below meth c A H locs ls hC hK hP hD hS hL)
end ZLIB
end
section
/-! facts of methods, fields, links: by program -/
theorem inZ0 : ∀ w ∈ wsX00, w ∈ z_tbl := fun w h => z_in ((by decide +kernel : ∀ w ∈ wsX00, w ∈ lw_tbl) w h) (List.all_eq_true.mp (by decide +kernel : wsX00.all goodWord = true) w h)
theorem inZ1 : ∀ w ∈ wsX10, w ∈ z_tbl := fun w h => z_in ((by decide +kernel : ∀ w ∈ wsX10, w ∈ lw_tbl) w h) (List.all_eq_true.mp (by decide +kernel : wsX10.all goodWord = true) w h)
theorem inZ2 : ∀ w ∈ wsX20, w ∈ z_tbl := fun w h => z_in ((by decide +kernel : ∀ w ∈ wsX20, w ∈ lw_tbl) w h) (List.all_eq_true.mp (by decide +kernel : wsX20.all goodWord = true) w h)
theorem inZ3 : ∀ w ∈ wsX30, w ∈ z_tbl := fun w h => z_in ((by decide +kernel : ∀ w ∈ wsX30, w ∈ lw_tbl) w h) (List.all_eq_true.mp (by decide +kernel : wsX30.all goodWord = true) w h)
theorem inZ4 : ∀ w ∈ wsX40, w ∈ z_tbl := fun w h => z_in ((by decide +kernel : ∀ w ∈ wsX40, w ∈ lw_tbl) w h) (List.all_eq_true.mp (by decide +kernel : wsX40.all goodWord = true) w h)
theorem inZ5 : ∀ w ∈ wsX50, w ∈ z_tbl := fun w h => z_in ((by decide +kernel : ∀ w ∈ wsX50, w ∈ lw_tbl) w h) (List.all_eq_true.mp (by decide +kernel : wsX50.all goodWord = true) w h)
theorem inZ6 : ∀ w ∈ wsX60, w ∈ z_tbl := fun w h => z_in ((by decide +kernel : ∀ w ∈ wsX60, w ∈ lw_tbl) w h) (List.all_eq_true.mp (by decide +kernel : wsX60.all goodWord = true) w h)
theorem inZ7 : ∀ w ∈ wsX70, w ∈ z_tbl := fun w h => z_in ((by decide +kernel : ∀ w ∈ wsX70, w ∈ lw_tbl) w h) (List.all_eq_true.mp (by decide +kernel : wsX70.all goodWord = true) w h)
theorem f_X6_10 : z_F RX6 6 0 10 RX6 TX6 7 := ⟨rfl, by decide, inZ6, by decide +kernel, z_tb (n := 198) (by decide +kernel) (by decide +kernel)⟩
theorem f_X6_19 : z_F RX6 6 1 19 RX6 TX6 7 := ⟨rfl, by decide, inZ6, by decide +kernel, z_tb (n := 199) (by decide +kernel) (by decide +kernel)⟩
theorem f_X6_26 : z_F RX6 6 2 26 RX6 TX6 7 := ⟨rfl, by decide, inZ6, by decide +kernel, z_tb (n := 200) (by decide +kernel) (by decide +kernel)⟩
theorem f_X6_35 : z_F RX6 6 3 35 RX6 TX6 7 := ⟨rfl, by decide, inZ6, by decide +kernel, z_tb (n := 201) (by decide +kernel) (by decide +kernel)⟩
theorem f_X6_44 : z_F RX6 6 4 44 RX6 TX6 7 := ⟨rfl, by decide, inZ6, by decide +kernel, z_tb (n := 202) (by decide +kernel) (by decide +kernel)⟩
theorem f_X6_51 : z_F RX6 6 5 51 RX6 TX6 7 := ⟨rfl, by decide, inZ6, by decide +kernel, z_tb (n := 203) (by decide +kernel) (by decide +kernel)⟩
theorem f_X6_55 : z_F RX6 6 6 55 RX6 TX6 7 := ⟨rfl, by decide, inZ6, by decide +kernel, z_tb (n := 204) (by decide +kernel) (by decide +kernel)⟩
theorem f_X0_11 : z_F RX0 0 2 11 RX0 TX0 12 := ⟨rfl, by decide, inZ0, by decide +kernel, z_tb (n := 90) (by decide +kernel) (by decide +kernel)⟩
theorem f_X0_17 : z_F RX0 0 3 17 RX0 TX0 12 := ⟨rfl, by decide, inZ0, by decide +kernel, z_tb (n := 91) (by decide +kernel) (by decide +kernel)⟩
theorem f_X0_20 : z_F RX0 0 4 20 RX0 TX0 12 := ⟨rfl, by decide, inZ0, by decide +kernel, z_tb (n := 92) (by decide +kernel) (by decide +kernel)⟩
theorem f_X0_23 : z_F RX0 0 5 23 RX0 TX0 12 := ⟨rfl, by decide, inZ0, by decide +kernel, z_tb (n := 93) (by decide +kernel) (by decide +kernel)⟩
theorem f_X0_27 : z_F RX0 0 6 27 RX0 TX0 12 := ⟨rfl, by decide, inZ0, by decide +kernel, z_tb (n := 94) (by decide +kernel) (by decide +kernel)⟩
theorem f_X0_30 : z_F RX0 0 7 30 RX0 TX0 12 := ⟨rfl, by decide, inZ0, by decide +kernel, z_tb (n := 95) (by decide +kernel) (by decide +kernel)⟩
theorem f_X0_33 : z_F RX0 0 8 33 RX0 TX0 12 := ⟨rfl, by decide, inZ0, by decide +kernel, z_tb (n := 96) (by decide +kernel) (by decide +kernel)⟩
theorem f_X0_36 : z_F RX0 0 9 36 RX0 TX0 12 := ⟨rfl, by decide, inZ0, by decide +kernel, z_tb (n := 97) (by decide +kernel) (by decide +kernel)⟩
theorem f_X0_39 : z_F RX0 0 10 39 RX0 TX0 12 := ⟨rfl, by decide, inZ0, by decide +kernel, z_tb (n := 98) (by decide +kernel) (by decide +kernel)⟩
theorem f_X0_42 : z_F RX0 0 0 42 RX0 TX0 12 := ⟨rfl, by decide, inZ0, by decide +kernel, z_tb (n := 88) (by decide +kernel) (by decide +kernel)⟩
theorem f_X0_46 : z_F RX0 0 1 46 RX0 TX0 12 := ⟨rfl, by decide, inZ0, by decide +kernel, z_tb (n := 89) (by decide +kernel) (by decide +kernel)⟩
theorem f_X0_53 : z_F RX0 0 11 53 RX0 TX0 12 := ⟨rfl, by decide, inZ0, by decide +kernel, z_tb (n := 99) (by decide +kernel) (by decide +kernel)⟩
theorem f_X1_9 : z_F RX1 1 0 9 RX1 TX1 4 := ⟨rfl, by decide, inZ1, by decide +kernel, z_tb (n := 64) (by decide +kernel) (by decide +kernel)⟩
theorem f_X1_15 : z_F RX1 1 1 15 RX1 TX1 4 := ⟨rfl, by decide, inZ1, by decide +kernel, z_tb (n := 65) (by decide +kernel) (by decide +kernel)⟩
theorem f_X1_18 : z_F RX1 1 2 18 RX1 TX1 4 := ⟨rfl, by decide, inZ1, by decide +kernel, z_tb (n := 66) (by decide +kernel) (by decide +kernel)⟩
theorem f_X1_21 : z_F RX1 1 3 21 RX1 TX1 4 := ⟨rfl, by decide, inZ1, by decide +kernel, z_tb (n := 67) (by decide +kernel) (by decide +kernel)⟩
theorem f_X2_11 : z_F RX2 2 0 11 RX2 TX2 11 := ⟨rfl, by decide, inZ2, by decide +kernel, z_tb (n := 164) (by decide +kernel) (by decide +kernel)⟩
theorem f_X2_15 : z_F RX2 2 1 15 RX2 TX2 11 := ⟨rfl, by decide, inZ2, by decide +kernel, z_tb (n := 165) (by decide +kernel) (by decide +kernel)⟩
theorem f_X2_19 : z_F RX2 2 2 19 RX2 TX2 11 := ⟨rfl, by decide, inZ2, by decide +kernel, z_tb (n := 166) (by decide +kernel) (by decide +kernel)⟩
theorem f_X2_22 : z_F RX2 2 3 22 RX2 TX2 11 := ⟨rfl, by decide, inZ2, by decide +kernel, z_tb (n := 167) (by decide +kernel) (by decide +kernel)⟩
theorem f_X2_25 : z_F RX2 2 4 25 RX2 TX2 11 := ⟨rfl, by decide, inZ2, by decide +kernel, z_tb (n := 168) (by decide +kernel) (by decide +kernel)⟩
theorem f_X2_28 : z_F RX2 2 5 28 RX2 TX2 11 := ⟨rfl, by decide, inZ2, by decide +kernel, z_tb (n := 169) (by decide +kernel) (by decide +kernel)⟩
theorem f_X2_31 : z_F RX2 2 6 31 RX2 TX2 11 := ⟨rfl, by decide, inZ2, by decide +kernel, z_tb (n := 170) (by decide +kernel) (by decide +kernel)⟩
theorem f_X2_35 : z_F RX2 2 7 35 RX2 TX2 11 := ⟨rfl, by decide, inZ2, by decide +kernel, z_tb (n := 171) (by decide +kernel) (by decide +kernel)⟩
theorem f_X2_38 : z_F RX2 2 8 38 RX2 TX2 11 := ⟨rfl, by decide, inZ2, by decide +kernel, z_tb (n := 172) (by decide +kernel) (by decide +kernel)⟩
theorem f_X2_41 : z_F RX2 2 9 41 RX2 TX2 11 := ⟨rfl, by decide, inZ2, by decide +kernel, z_tb (n := 173) (by decide +kernel) (by decide +kernel)⟩
theorem f_X2_44 : z_F RX2 2 10 44 RX2 TX2 11 := ⟨rfl, by decide, inZ2, by decide +kernel, z_tb (n := 174) (by decide +kernel) (by decide +kernel)⟩
theorem f_X3_12 : z_F RX3 3 3 12 RX3 TX3 7 := ⟨rfl, by decide, inZ3, by decide +kernel, z_tb (n := 139) (by decide +kernel) (by decide +kernel)⟩
theorem f_X3_18 : z_F RX3 3 5 18 RX3 TX3 7 := ⟨rfl, by decide, inZ3, by decide +kernel, z_tb (n := 141) (by decide +kernel) (by decide +kernel)⟩
theorem f_X3_22 : z_F RX3 3 6 22 RX3 TX3 7 := ⟨rfl, by decide, inZ3, by decide +kernel, z_tb (n := 142) (by decide +kernel) (by decide +kernel)⟩
theorem f_X3_26 : z_F RX3 3 0 26 RX3 TX3 7 := ⟨rfl, by decide, inZ3, by decide +kernel, z_tb (n := 136) (by decide +kernel) (by decide +kernel)⟩
theorem f_X3_29 : z_F RX3 3 1 29 RX3 TX3 7 := ⟨rfl, by decide, inZ3, by decide +kernel, z_tb (n := 137) (by decide +kernel) (by decide +kernel)⟩
theorem f_X3_33 : z_F RX3 3 2 33 RX3 TX3 7 := ⟨rfl, by decide, inZ3, by decide +kernel, z_tb (n := 138) (by decide +kernel) (by decide +kernel)⟩
theorem f_X3_42 : z_F RX3 3 4 42 RX3 TX3 7 := ⟨rfl, by decide, inZ3, by decide +kernel, z_tb (n := 140) (by decide +kernel) (by decide +kernel)⟩
theorem f_X4_9 : z_F RX4 4 0 9 RX4 TX4 4 := ⟨rfl, by decide, inZ4, by decide +kernel, z_tb (n := 45) (by decide +kernel) (by decide +kernel)⟩
theorem f_X4_15 : z_F RX4 4 1 15 RX4 TX4 4 := ⟨rfl, by decide, inZ4, by decide +kernel, z_tb (n := 46) (by decide +kernel) (by decide +kernel)⟩
theorem f_X4_18 : z_F RX4 4 2 18 RX4 TX4 4 := ⟨rfl, by decide, inZ4, by decide +kernel, z_tb (n := 47) (by decide +kernel) (by decide +kernel)⟩
theorem f_X4_21 : z_F RX4 4 3 21 RX4 TX4 4 := ⟨rfl, by decide, inZ4, by decide +kernel, z_tb (n := 48) (by decide +kernel) (by decide +kernel)⟩
theorem sX_X5_7 : Cond.fieldLink RX5 7 "CalmLines$Rules" "FIRST" "[I" ∈ z_tbl := z_tb (n := 25) (by decide +kernel) (by decide +kernel)
theorem f_X5_18 : z_F RX5 5 0 18 RX5 TX5 1 := ⟨rfl, by decide, inZ5, by decide +kernel, z_tb (n := 34) (by decide +kernel) (by decide +kernel)⟩
theorem sX_X5_21 : Cond.fieldLink RX5 21 "CalmLines$Rules" "LEAST" "[I" ∈ z_tbl := z_tb (n := 256) (by decide +kernel) (by decide +kernel)
theorem sX_X5_24 : Cond.fieldLink RX5 24 "CalmLines$Rules" "MOST" "[I" ∈ z_tbl := z_tb (n := 258) (by decide +kernel) (by decide +kernel)
theorem f_X7_7 : z_F RX7 7 0 7 RX7 TX7 37 := ⟨rfl, by decide, inZ7, by decide +kernel, z_tb (n := 633) (by decide +kernel) (by decide +kernel)⟩
theorem f_X7_13 : z_F RX7 7 2 13 RX7 TX7 37 := ⟨rfl, by decide, inZ7, by decide +kernel, z_tb (n := 635) (by decide +kernel) (by decide +kernel)⟩
theorem f_X7_16 : z_F RX7 7 3 16 RX7 TX7 37 := ⟨rfl, by decide, inZ7, by decide +kernel, z_tb (n := 636) (by decide +kernel) (by decide +kernel)⟩
theorem f_X7_19 : z_F RX7 7 4 19 RX7 TX7 37 := ⟨rfl, by decide, inZ7, by decide +kernel, z_tb (n := 637) (by decide +kernel) (by decide +kernel)⟩
theorem f_X7_22 : z_F RX7 7 5 22 RX7 TX7 37 := ⟨rfl, by decide, inZ7, by decide +kernel, z_tb (n := 638) (by decide +kernel) (by decide +kernel)⟩
theorem f_X7_25 : z_F RX7 7 6 25 RX7 TX7 37 := ⟨rfl, by decide, inZ7, by decide +kernel, z_tb (n := 639) (by decide +kernel) (by decide +kernel)⟩
theorem f_X7_28 : z_F RX7 7 7 28 RX7 TX7 37 := ⟨rfl, by decide, inZ7, by decide +kernel, z_tb (n := 640) (by decide +kernel) (by decide +kernel)⟩
theorem f_X7_31 : z_F RX7 7 8 31 RX7 TX7 37 := ⟨rfl, by decide, inZ7, by decide +kernel, z_tb (n := 641) (by decide +kernel) (by decide +kernel)⟩
theorem f_X7_34 : z_F RX7 7 9 34 RX7 TX7 37 := ⟨rfl, by decide, inZ7, by decide +kernel, z_tb (n := 642) (by decide +kernel) (by decide +kernel)⟩
theorem f_X7_37 : z_F RX7 7 10 37 RX7 TX7 37 := ⟨rfl, by decide, inZ7, by decide +kernel, z_tb (n := 643) (by decide +kernel) (by decide +kernel)⟩
theorem f_X7_41 : z_F RX7 7 11 41 RX7 TX7 37 := ⟨rfl, by decide, inZ7, by decide +kernel, z_tb (n := 644) (by decide +kernel) (by decide +kernel)⟩
theorem f_X7_44 : z_F RX7 7 12 44 RX7 TX7 37 := ⟨rfl, by decide, inZ7, by decide +kernel, z_tb (n := 645) (by decide +kernel) (by decide +kernel)⟩
theorem f_X7_47 : z_F RX7 7 13 47 RX7 TX7 37 := ⟨rfl, by decide, inZ7, by decide +kernel, z_tb (n := 646) (by decide +kernel) (by decide +kernel)⟩
theorem f_X7_50 : z_F RX7 7 14 50 RX7 TX7 37 := ⟨rfl, by decide, inZ7, by decide +kernel, z_tb (n := 647) (by decide +kernel) (by decide +kernel)⟩
theorem f_X7_53 : z_F RX7 7 15 53 RX7 TX7 37 := ⟨rfl, by decide, inZ7, by decide +kernel, z_tb (n := 648) (by decide +kernel) (by decide +kernel)⟩
theorem f_X7_56 : z_F RX7 7 17 56 RX7 TX7 37 := ⟨rfl, by decide, inZ7, by decide +kernel, z_tb (n := 650) (by decide +kernel) (by decide +kernel)⟩
theorem f_X7_59 : z_F RX7 7 18 59 RX7 TX7 37 := ⟨rfl, by decide, inZ7, by decide +kernel, z_tb (n := 651) (by decide +kernel) (by decide +kernel)⟩
theorem f_X7_62 : z_F RX7 7 19 62 RX7 TX7 37 := ⟨rfl, by decide, inZ7, by decide +kernel, z_tb (n := 652) (by decide +kernel) (by decide +kernel)⟩
theorem f_X7_65 : z_F RX7 7 20 65 RX7 TX7 37 := ⟨rfl, by decide, inZ7, by decide +kernel, z_tb (n := 653) (by decide +kernel) (by decide +kernel)⟩
theorem f_X7_68 : z_F RX7 7 21 68 RX7 TX7 37 := ⟨rfl, by decide, inZ7, by decide +kernel, z_tb (n := 654) (by decide +kernel) (by decide +kernel)⟩
theorem f_X7_71 : z_F RX7 7 22 71 RX7 TX7 37 := ⟨rfl, by decide, inZ7, by decide +kernel, z_tb (n := 655) (by decide +kernel) (by decide +kernel)⟩
theorem f_X7_74 : z_F RX7 7 23 74 RX7 TX7 37 := ⟨rfl, by decide, inZ7, by decide +kernel, z_tb (n := 656) (by decide +kernel) (by decide +kernel)⟩
theorem f_X7_77 : z_F RX7 7 24 77 RX7 TX7 37 := ⟨rfl, by decide, inZ7, by decide +kernel, z_tb (n := 657) (by decide +kernel) (by decide +kernel)⟩
theorem f_X7_80 : z_F RX7 7 25 80 RX7 TX7 37 := ⟨rfl, by decide, inZ7, by decide +kernel, z_tb (n := 658) (by decide +kernel) (by decide +kernel)⟩
theorem f_X7_83 : z_F RX7 7 26 83 RX7 TX7 37 := ⟨rfl, by decide, inZ7, by decide +kernel, z_tb (n := 659) (by decide +kernel) (by decide +kernel)⟩
theorem f_X7_86 : z_F RX7 7 27 86 RX7 TX7 37 := ⟨rfl, by decide, inZ7, by decide +kernel, z_tb (n := 660) (by decide +kernel) (by decide +kernel)⟩
theorem f_X7_89 : z_F RX7 7 29 89 RX7 TX7 37 := ⟨rfl, by decide, inZ7, by decide +kernel, z_tb (n := 662) (by decide +kernel) (by decide +kernel)⟩
theorem f_X7_92 : z_F RX7 7 32 92 RX7 TX7 37 := ⟨rfl, by decide, inZ7, by decide +kernel, z_tb (n := 665) (by decide +kernel) (by decide +kernel)⟩
theorem f_X7_95 : z_F RX7 7 33 95 RX7 TX7 37 := ⟨rfl, by decide, inZ7, by decide +kernel, z_tb (n := 666) (by decide +kernel) (by decide +kernel)⟩
theorem f_X7_98 : z_F RX7 7 34 98 RX7 TX7 37 := ⟨rfl, by decide, inZ7, by decide +kernel, z_tb (n := 667) (by decide +kernel) (by decide +kernel)⟩
theorem f_X7_102 : z_F RX7 7 35 102 RX7 TX7 37 := ⟨rfl, by decide, inZ7, by decide +kernel, z_tb (n := 668) (by decide +kernel) (by decide +kernel)⟩
theorem f_X7_115 : z_F RX7 7 1 115 RX7 TX7 37 := ⟨rfl, by decide, inZ7, by decide +kernel, z_tb (n := 634) (by decide +kernel) (by decide +kernel)⟩
theorem f_X7_147 : z_F RX7 7 16 147 RX7 TX7 37 := ⟨rfl, by decide, inZ7, by decide +kernel, z_tb (n := 649) (by decide +kernel) (by decide +kernel)⟩
theorem f_X7_199 : z_F RX7 7 30 199 RX7 TX7 37 := ⟨rfl, by decide, inZ7, by decide +kernel, z_tb (n := 663) (by decide +kernel) (by decide +kernel)⟩
theorem f_X7_209 : z_F RX7 7 31 209 RX7 TX7 37 := ⟨rfl, by decide, inZ7, by decide +kernel, z_tb (n := 664) (by decide +kernel) (by decide +kernel)⟩
theorem f_X7_212 : z_F RX7 7 36 212 RX7 TX7 37 := ⟨rfl, by decide, inZ7, by decide +kernel, z_tb (n := 669) (by decide +kernel) (by decide +kernel)⟩
theorem f_X7_222 : z_F RX7 7 28 222 RX7 TX7 37 := ⟨rfl, by decide, inZ7, by decide +kernel, z_tb (n := 661) (by decide +kernel) (by decide +kernel)⟩
def iX0_endOf : z_MI := (yX0_endOf, cX0_endOf, 2, (some .int), 1)
theorem mX0_endOf : z_MV iX0_endOf 1 := ⟨⟨by decide +kernel, z_tb (n := 5) (by decide +kernel) (by decide +kernel), z_tb (n := 346) (by decide +kernel) (by decide +kernel), by decide +kernel, by decide +kernel, by decide +kernel, by decide⟩, z_tb (n := 345) (by decide +kernel) (by decide +kernel), z_in (List.mem_append_left _ (List.mem_of_getElem? (i := 6) (by decide +kernel))) (by decide +kernel)⟩
def iX0_firstOf : z_MI := (yX0_firstOf, cX0_firstOf, 2, (some .int), 0)
theorem mX0_firstOf : z_MV iX0_firstOf 1 := ⟨⟨by decide +kernel, z_tb (n := 5) (by decide +kernel) (by decide +kernel), z_tb (n := 342) (by decide +kernel) (by decide +kernel), by decide +kernel, by decide +kernel, by decide +kernel, by decide⟩, z_tb (n := 341) (by decide +kernel) (by decide +kernel), z_in (List.mem_append_left _ (List.mem_of_getElem? (i := 5) (by decide +kernel))) (by decide +kernel)⟩
def iX0_flipsOf : z_MI := (yX0_flipsOf, cX0_flipsOf, 2, (some .int), 0)
theorem mX0_flipsOf : z_MV iX0_flipsOf 1 := ⟨⟨by decide +kernel, z_tb (n := 5) (by decide +kernel) (by decide +kernel), z_tb (n := 391) (by decide +kernel) (by decide +kernel), by decide +kernel, by decide +kernel, by decide +kernel, by decide⟩, z_tb (n := 389) (by decide +kernel) (by decide +kernel), z_tb (n := 390) (by decide +kernel) (by decide +kernel)⟩
def iX0_isSeen : z_MI := (yX0_isSeen, cX0_isSeen, 2, (some .boolean), 2)
theorem mX0_isSeen : z_MV iX0_isSeen 1 := ⟨⟨by decide +kernel, z_tb (n := 5) (by decide +kernel) (by decide +kernel), z_tb (n := 239) (by decide +kernel) (by decide +kernel), by decide +kernel, by decide +kernel, by decide +kernel, by decide⟩, z_tb (n := 237) (by decide +kernel) (by decide +kernel), z_tb (n := 238) (by decide +kernel) (by decide +kernel)⟩
def iX0_isShut : z_MI := (yX0_isShut, cX0_isShut, 2, (some .boolean), 1)
theorem mX0_isShut : z_MV iX0_isShut 1 := ⟨⟨by decide +kernel, z_tb (n := 5) (by decide +kernel) (by decide +kernel), z_tb (n := 243) (by decide +kernel) (by decide +kernel), by decide +kernel, by decide +kernel, by decide +kernel, by decide⟩, z_tb (n := 241) (by decide +kernel) (by decide +kernel), z_tb (n := 242) (by decide +kernel) (by decide +kernel)⟩
def iX0_isUp : z_MI := (yX0_isUp, cX0_isUp, 2, (some .boolean), 0)
theorem mX0_isUp : z_MV iX0_isUp 1 := ⟨⟨by decide +kernel, z_tb (n := 5) (by decide +kernel) (by decide +kernel), z_tb (n := 300) (by decide +kernel) (by decide +kernel), by decide +kernel, by decide +kernel, by decide +kernel, by decide⟩, z_tb (n := 298) (by decide +kernel) (by decide +kernel), z_tb (n := 299) (by decide +kernel) (by decide +kernel)⟩
def iX0_join : z_MI := (yX0_join, cX0_join, 2, none, 3)
theorem mX0_join : z_MV iX0_join 1 := ⟨⟨by decide +kernel, z_tb (n := 5) (by decide +kernel) (by decide +kernel), z_tb (n := 235) (by decide +kernel) (by decide +kernel), by decide +kernel, by decide +kernel, by decide +kernel, by decide⟩, z_tb (n := 233) (by decide +kernel) (by decide +kernel), z_tb (n := 234) (by decide +kernel) (by decide +kernel)⟩
def iX0_lookAt : z_MI := (yX0_lookAt, cX0_lookAt, 4, none, 2)
theorem mX0_lookAt : z_MV iX0_lookAt 1 := ⟨⟨by decide +kernel, z_tb (n := 5) (by decide +kernel) (by decide +kernel), z_tb (n := 354) (by decide +kernel) (by decide +kernel), by decide +kernel, by decide +kernel, by decide +kernel, by decide⟩, z_tb (n := 353) (by decide +kernel) (by decide +kernel), z_in (List.mem_append_left _ (List.mem_of_getElem? (i := 7) (by decide +kernel))) (by decide +kernel)⟩
def iX0_lostOf : z_MI := (yX0_lostOf, cX0_lostOf, 2, (some .int), 0)
theorem mX0_lostOf : z_MV iX0_lostOf 1 := ⟨⟨by decide +kernel, z_tb (n := 5) (by decide +kernel) (by decide +kernel), z_tb (n := 395) (by decide +kernel) (by decide +kernel), by decide +kernel, by decide +kernel, by decide +kernel, by decide⟩, z_tb (n := 393) (by decide +kernel) (by decide +kernel), z_tb (n := 394) (by decide +kernel) (by decide +kernel)⟩
def iX0_openingTick : z_MI := (yX0_openingTick, cX0_openingTick, 4, (some .int), 2)
theorem mX0_openingTick : z_MV iX0_openingTick 2 := ⟨⟨by decide +kernel, z_tb (n := 5) (by decide +kernel) (by decide +kernel), z_tb (n := 328) (by decide +kernel) (by decide +kernel), by decide +kernel, by decide +kernel, by decide +kernel, by decide⟩, z_tb (n := 327) (by decide +kernel) (by decide +kernel), z_in (List.mem_append_left _ (List.mem_of_getElem? (i := 4) (by decide +kernel))) (by decide +kernel)⟩
def iX0_penaltyAt : z_MI := (yX0_penaltyAt, cX0_penaltyAt, 3, (some .int), 2)
theorem mX0_penaltyAt : z_MV iX0_penaltyAt 2 := ⟨⟨by decide +kernel, z_tb (n := 5) (by decide +kernel) (by decide +kernel), z_tb (n := 271) (by decide +kernel) (by decide +kernel), by decide +kernel, by decide +kernel, by decide +kernel, by decide⟩, z_tb (n := 270) (by decide +kernel) (by decide +kernel), z_in (List.mem_append_left _ (List.mem_of_getElem? (i := 0) (by decide +kernel))) (by decide +kernel)⟩
def iX0_penaltyOf : z_MI := (yX0_penaltyOf, cX0_penaltyOf, 3, (some .int), 3)
theorem mX0_penaltyOf : z_MV iX0_penaltyOf 2 := ⟨⟨by decide +kernel, z_tb (n := 5) (by decide +kernel) (by decide +kernel), z_tb (n := 366) (by decide +kernel) (by decide +kernel), by decide +kernel, by decide +kernel, by decide +kernel, by decide⟩, z_tb (n := 364) (by decide +kernel) (by decide +kernel), z_tb (n := 365) (by decide +kernel) (by decide +kernel)⟩
def iX0_restPenalties : z_MI := (yX0_restPenalties, cX0_restPenalties, 3, none, 3)
theorem mX0_restPenalties : z_MV iX0_restPenalties 1 := ⟨⟨by decide +kernel, z_tb (n := 5) (by decide +kernel) (by decide +kernel), z_tb (n := 267) (by decide +kernel) (by decide +kernel), by decide +kernel, by decide +kernel, by decide +kernel, by decide⟩, z_tb (n := 265) (by decide +kernel) (by decide +kernel), z_tb (n := 266) (by decide +kernel) (by decide +kernel)⟩
def iX0_restart : z_MI := (yX0_restart, cX0_restart, 2, none, 0)
theorem mX0_restart : z_MV iX0_restart 0 := ⟨⟨by decide +kernel, z_tb (n := 5) (by decide +kernel) (by decide +kernel), z_tb (n := 86) (by decide +kernel) (by decide +kernel), by decide +kernel, by decide +kernel, by decide +kernel, by decide⟩, z_tb (n := 84) (by decide +kernel) (by decide +kernel), z_tb (n := 85) (by decide +kernel) (by decide +kernel)⟩
def iX0_settle : z_MI := (yX0_settle, cX0_settle, 7, none, 3)
theorem mX0_settle : z_MV iX0_settle 2 := ⟨⟨by decide +kernel, z_tb (n := 5) (by decide +kernel) (by decide +kernel), z_tb (n := 324) (by decide +kernel) (by decide +kernel), by decide +kernel, by decide +kernel, by decide +kernel, by decide⟩, z_tb (n := 323) (by decide +kernel) (by decide +kernel), z_in (List.mem_append_left _ (List.mem_of_getElem? (i := 3) (by decide +kernel))) (by decide +kernel)⟩
def iX0_settleAll : z_MI := (yX0_settleAll, cX0_settleAll, 3, none, 4)
theorem mX0_settleAll : z_MV iX0_settleAll 1 := ⟨⟨by decide +kernel, z_tb (n := 5) (by decide +kernel) (by decide +kernel), z_tb (n := 378) (by decide +kernel) (by decide +kernel), by decide +kernel, by decide +kernel, by decide +kernel, by decide⟩, z_tb (n := 376) (by decide +kernel) (by decide +kernel), z_tb (n := 377) (by decide +kernel) (by decide +kernel)⟩
def iX0_shutLines : z_MI := (yX0_shutLines, cX0_shutLines, 3, (some .int), 2)
theorem mX0_shutLines : z_MV iX0_shutLines 0 := ⟨⟨by decide +kernel, z_tb (n := 5) (by decide +kernel) (by decide +kernel), z_tb (n := 603) (by decide +kernel) (by decide +kernel), by decide +kernel, by decide +kernel, by decide +kernel, by decide⟩, z_tb (n := 601) (by decide +kernel) (by decide +kernel), z_tb (n := 602) (by decide +kernel) (by decide +kernel)⟩
def iX0_take : z_MI := (yX0_take, cX0_take, 6, none, 4)
theorem mX0_take : z_MV iX0_take 3 := ⟨⟨by decide +kernel, z_tb (n := 5) (by decide +kernel) (by decide +kernel), z_tb (n := 320) (by decide +kernel) (by decide +kernel), by decide +kernel, by decide +kernel, by decide +kernel, by decide⟩, z_tb (n := 318) (by decide +kernel) (by decide +kernel), z_tb (n := 319) (by decide +kernel) (by decide +kernel)⟩
def iX0_ticksTillOpen : z_MI := (yX0_ticksTillOpen, cX0_ticksTillOpen, 4, (some .int), 3)
theorem mX0_ticksTillOpen : z_MV iX0_ticksTillOpen 2 := ⟨⟨by decide +kernel, z_tb (n := 5) (by decide +kernel) (by decide +kernel), z_tb (n := 400) (by decide +kernel) (by decide +kernel), by decide +kernel, by decide +kernel, by decide +kernel, by decide⟩, z_tb (n := 398) (by decide +kernel) (by decide +kernel), z_tb (n := 399) (by decide +kernel) (by decide +kernel)⟩
def iX0_wasEverShut : z_MI := (yX0_wasEverShut, cX0_wasEverShut, 1, (some .boolean), 0)
theorem mX0_wasEverShut : z_MV iX0_wasEverShut 0 := ⟨⟨by decide +kernel, z_tb (n := 5) (by decide +kernel) (by decide +kernel), z_tb (n := 501) (by decide +kernel) (by decide +kernel), by decide +kernel, by decide +kernel, by decide +kernel, by decide⟩, z_tb (n := 499) (by decide +kernel) (by decide +kernel), z_tb (n := 500) (by decide +kernel) (by decide +kernel)⟩
def iX0_weightOf : z_MI := (yX0_weightOf, cX0_weightOf, 5, (some .int), 1)
theorem mX0_weightOf : z_MV iX0_weightOf 3 := ⟨⟨by decide +kernel, z_tb (n := 5) (by decide +kernel) (by decide +kernel), z_tb (n := 358) (by decide +kernel) (by decide +kernel), by decide +kernel, by decide +kernel, by decide +kernel, by decide⟩, z_tb (n := 357) (by decide +kernel) (by decide +kernel), z_in (List.mem_append_left _ (List.mem_of_getElem? (i := 8) (by decide +kernel))) (by decide +kernel)⟩
def iX1_isFull : z_MI := (yX1_isFull, cX1_isFull, 1, (some .boolean), 0)
theorem mX1_isFull : z_MV iX1_isFull 0 := ⟨⟨by decide +kernel, z_tb (n := 4) (by decide +kernel) (by decide +kernel), z_tb (n := 312) (by decide +kernel) (by decide +kernel), by decide +kernel, by decide +kernel, by decide +kernel, by decide⟩, z_tb (n := 310) (by decide +kernel) (by decide +kernel), z_tb (n := 311) (by decide +kernel) (by decide +kernel)⟩
def iX1_lineAt : z_MI := (yX1_lineAt, cX1_lineAt, 2, (some .int), 0)
theorem mX1_lineAt : z_MV iX1_lineAt 1 := ⟨⟨by decide +kernel, z_tb (n := 4) (by decide +kernel) (by decide +kernel), z_tb (n := 421) (by decide +kernel) (by decide +kernel), by decide +kernel, by decide +kernel, by decide +kernel, by decide⟩, z_tb (n := 419) (by decide +kernel) (by decide +kernel), z_tb (n := 420) (by decide +kernel) (by decide +kernel)⟩
def iX1_size : z_MI := (yX1_size, cX1_size, 1, (some .int), 0)
theorem mX1_size : z_MV iX1_size 0 := ⟨⟨by decide +kernel, z_tb (n := 4) (by decide +kernel) (by decide +kernel), z_tb (n := 417) (by decide +kernel) (by decide +kernel), by decide +kernel, by decide +kernel, by decide +kernel, by decide⟩, z_tb (n := 415) (by decide +kernel) (by decide +kernel), z_tb (n := 416) (by decide +kernel) (by decide +kernel)⟩
def iX1_tickAt : z_MI := (yX1_tickAt, cX1_tickAt, 2, (some .int), 0)
theorem mX1_tickAt : z_MV iX1_tickAt 1 := ⟨⟨by decide +kernel, z_tb (n := 4) (by decide +kernel) (by decide +kernel), z_tb (n := 429) (by decide +kernel) (by decide +kernel), by decide +kernel, by decide +kernel, by decide +kernel, by decide⟩, z_tb (n := 427) (by decide +kernel) (by decide +kernel), z_tb (n := 428) (by decide +kernel) (by decide +kernel)⟩
def iX1_whatAt : z_MI := (yX1_whatAt, cX1_whatAt, 2, (some .int), 0)
theorem mX1_whatAt : z_MV iX1_whatAt 1 := ⟨⟨by decide +kernel, z_tb (n := 4) (by decide +kernel) (by decide +kernel), z_tb (n := 425) (by decide +kernel) (by decide +kernel), by decide +kernel, by decide +kernel, by decide +kernel, by decide⟩, z_tb (n := 423) (by decide +kernel) (by decide +kernel), z_tb (n := 424) (by decide +kernel) (by decide +kernel)⟩
def iX1_write : z_MI := (yX1_write, cX1_write, 4, none, 0)
theorem mX1_write : z_MV iX1_write 3 := ⟨⟨by decide +kernel, z_tb (n := 4) (by decide +kernel) (by decide +kernel), z_tb (n := 316) (by decide +kernel) (by decide +kernel), by decide +kernel, by decide +kernel, by decide +kernel, by decide⟩, z_tb (n := 314) (by decide +kernel) (by decide +kernel), z_tb (n := 315) (by decide +kernel) (by decide +kernel)⟩
def iX2_echoesOf : z_MI := (yX2_echoesOf, cX2_echoesOf, 2, (some .int), 0)
theorem mX2_echoesOf : z_MV iX2_echoesOf 1 := ⟨⟨by decide +kernel, z_tb (n := 7) (by decide +kernel) (by decide +kernel), z_tb (n := 594) (by decide +kernel) (by decide +kernel), by decide +kernel, by decide +kernel, by decide +kernel, by decide⟩, z_tb (n := 592) (by decide +kernel) (by decide +kernel), z_tb (n := 593) (by decide +kernel) (by decide +kernel)⟩
def iX2_findOwn : z_MI := (yX2_findOwn, cX2_findOwn, 3, none, 3)
theorem mX2_findOwn : z_MV iX2_findOwn 1 := ⟨⟨by decide +kernel, z_tb (n := 7) (by decide +kernel) (by decide +kernel), z_tb (n := 550) (by decide +kernel) (by decide +kernel), by decide +kernel, by decide +kernel, by decide +kernel, by decide⟩, z_tb (n := 549) (by decide +kernel) (by decide +kernel), z_in (List.mem_append_left _ (List.mem_of_getElem? (i := 13) (by decide +kernel))) (by decide +kernel)⟩
def iX2_goalRow : z_MI := (yX2_goalRow, cX2_goalRow, 1, (some .int), 0)
theorem mX2_goalRow : z_MV iX2_goalRow 0 := ⟨⟨by decide +kernel, z_tb (n := 7) (by decide +kernel) (by decide +kernel), z_tb (n := 554) (by decide +kernel) (by decide +kernel), by decide +kernel, by decide +kernel, by decide +kernel, by decide⟩, z_tb (n := 553) (by decide +kernel) (by decide +kernel), z_in (List.mem_append_left _ (List.mem_of_getElem? (i := 14) (by decide +kernel))) (by decide +kernel)⟩
def iX2_hasLetter : z_MI := (yX2_hasLetter, cX2_hasLetter, 1, (some .boolean), 0)
theorem mX2_hasLetter : z_MV iX2_hasLetter 0 := ⟨⟨by decide +kernel, z_tb (n := 7) (by decide +kernel) (by decide +kernel), z_tb (n := 573) (by decide +kernel) (by decide +kernel), by decide +kernel, by decide +kernel, by decide +kernel, by decide⟩, z_tb (n := 571) (by decide +kernel) (by decide +kernel), z_tb (n := 572) (by decide +kernel) (by decide +kernel)⟩
def iX2_hasWay : z_MI := (yX2_hasWay, cX2_hasWay, 3, (some .boolean), 1)
theorem mX2_hasWay : z_MV iX2_hasWay 2 := ⟨⟨by decide +kernel, z_tb (n := 7) (by decide +kernel) (by decide +kernel), z_tb (n := 523) (by decide +kernel) (by decide +kernel), by decide +kernel, by decide +kernel, by decide +kernel, by decide⟩, z_tb (n := 521) (by decide +kernel) (by decide +kernel), z_tb (n := 522) (by decide +kernel) (by decide +kernel)⟩
def iX2_holds : z_MI := (yX2_holds, cX2_holds, 3, (some .boolean), 0)
theorem mX2_holds : z_MS iX2_holds 2 := ⟨⟨by decide +kernel, z_tb (n := 7) (by decide +kernel) (by decide +kernel), z_tb (n := 561) (by decide +kernel) (by decide +kernel), by decide +kernel, by decide +kernel, by decide +kernel, by decide⟩, z_tb (n := 560) (by decide +kernel) (by decide +kernel)⟩
def iX2_isHouse : z_MI := (yX2_isHouse, cX2_isHouse, 1, (some .boolean), 0)
theorem mX2_isHouse : z_MS iX2_isHouse 1 := ⟨⟨by decide +kernel, z_tb (n := 7) (by decide +kernel) (by decide +kernel), z_tb (n := 519) (by decide +kernel) (by decide +kernel), by decide +kernel, by decide +kernel, by decide +kernel, by decide⟩, z_tb (n := 518) (by decide +kernel) (by decide +kernel)⟩
def iX2_lengthOf : z_MI := (yX2_lengthOf, cX2_lengthOf, 2, (some .int), 0)
theorem mX2_lengthOf : z_MS iX2_lengthOf 1 := ⟨⟨by decide +kernel, z_tb (n := 7) (by decide +kernel) (by decide +kernel), z_tb (n := 564) (by decide +kernel) (by decide +kernel), by decide +kernel, by decide +kernel, by decide +kernel, by decide⟩, z_tb (n := 563) (by decide +kernel) (by decide +kernel)⟩
def iX2_lettersOfAll : z_MI := (yX2_lettersOfAll, cX2_lettersOfAll, 1, (some .int), 0)
theorem mX2_lettersOfAll : z_MV iX2_lettersOfAll 0 := ⟨⟨by decide +kernel, z_tb (n := 7) (by decide +kernel) (by decide +kernel), z_tb (n := 611) (by decide +kernel) (by decide +kernel), by decide +kernel, by decide +kernel, by decide +kernel, by decide⟩, z_tb (n := 609) (by decide +kernel) (by decide +kernel), z_tb (n := 610) (by decide +kernel) (by decide +kernel)⟩
def iX2_ownAt : z_MI := (yX2_ownAt, cX2_ownAt, 3, (some .int), 0)
theorem mX2_ownAt : z_MV iX2_ownAt 2 := ⟨⟨by decide +kernel, z_tb (n := 7) (by decide +kernel) (by decide +kernel), z_tb (n := 586) (by decide +kernel) (by decide +kernel), by decide +kernel, by decide +kernel, by decide +kernel, by decide⟩, z_tb (n := 584) (by decide +kernel) (by decide +kernel), z_tb (n := 585) (by decide +kernel) (by decide +kernel)⟩
def iX2_place : z_MI := (yX2_place, cX2_place, 2, (some .int), 0)
theorem mX2_place : z_MS iX2_place 2 := ⟨⟨by decide +kernel, z_tb (n := 7) (by decide +kernel) (by decide +kernel), z_tb (n := 526) (by decide +kernel) (by decide +kernel), by decide +kernel, by decide +kernel, by decide +kernel, by decide⟩, z_tb (n := 525) (by decide +kernel) (by decide +kernel)⟩
def iX2_putBound : z_MI := (yX2_putBound, cX2_putBound, 4, none, 1)
theorem mX2_putBound : z_MV iX2_putBound 3 := ⟨⟨by decide +kernel, z_tb (n := 7) (by decide +kernel) (by decide +kernel), z_tb (n := 538) (by decide +kernel) (by decide +kernel), by decide +kernel, by decide +kernel, by decide +kernel, by decide⟩, z_tb (n := 536) (by decide +kernel) (by decide +kernel), z_tb (n := 537) (by decide +kernel) (by decide +kernel)⟩
def iX2_putWay : z_MI := (yX2_putWay, cX2_putWay, 4, none, 1)
theorem mX2_putWay : z_MV iX2_putWay 3 := ⟨⟨by decide +kernel, z_tb (n := 7) (by decide +kernel) (by decide +kernel), z_tb (n := 530) (by decide +kernel) (by decide +kernel), by decide +kernel, by decide +kernel, by decide +kernel, by decide⟩, z_tb (n := 528) (by decide +kernel) (by decide +kernel), z_tb (n := 529) (by decide +kernel) (by decide +kernel)⟩
def iX2_send : z_MI := (yX2_send, cX2_send, 4, none, 2)
theorem mX2_send : z_MV iX2_send 2 := ⟨⟨by decide +kernel, z_tb (n := 7) (by decide +kernel) (by decide +kernel), z_tb (n := 568) (by decide +kernel) (by decide +kernel), by decide +kernel, by decide +kernel, by decide +kernel, by decide⟩, z_tb (n := 567) (by decide +kernel) (by decide +kernel), z_in (List.mem_append_left _ (List.mem_of_getElem? (i := 16) (by decide +kernel))) (by decide +kernel)⟩
def iX2_shortestRow : z_MI := (yX2_shortestRow, cX2_shortestRow, 5, (some .int), 1)
theorem mX2_shortestRow : z_MV iX2_shortestRow 1 := ⟨⟨by decide +kernel, z_tb (n := 7) (by decide +kernel) (by decide +kernel), z_tb (n := 558) (by decide +kernel) (by decide +kernel), by decide +kernel, by decide +kernel, by decide +kernel, by decide⟩, z_tb (n := 557) (by decide +kernel) (by decide +kernel), z_in (List.mem_append_left _ (List.mem_of_getElem? (i := 15) (by decide +kernel))) (by decide +kernel)⟩
def iX2_startFlood : z_MI := (yX2_startFlood, cX2_startFlood, 3, none, 4)
theorem mX2_startFlood : z_MV iX2_startFlood 1 := ⟨⟨by decide +kernel, z_tb (n := 7) (by decide +kernel) (by decide +kernel), z_tb (n := 546) (by decide +kernel) (by decide +kernel), by decide +kernel, by decide +kernel, by decide +kernel, by decide⟩, z_tb (n := 544) (by decide +kernel) (by decide +kernel), z_tb (n := 545) (by decide +kernel) (by decide +kernel)⟩
def iX2_takeLetter : z_MI := (yX2_takeLetter, cX2_takeLetter, 5, (some .int), 4)
theorem mX2_takeLetter : z_MV iX2_takeLetter 0 := ⟨⟨by decide +kernel, z_tb (n := 7) (by decide +kernel) (by decide +kernel), z_tb (n := 577) (by decide +kernel) (by decide +kernel), by decide +kernel, by decide +kernel, by decide +kernel, by decide⟩, z_tb (n := 575) (by decide +kernel) (by decide +kernel), z_tb (n := 576) (by decide +kernel) (by decide +kernel)⟩
def iX2_ways : z_MI := (yX2_ways, cX2_ways, 1, (some .int), 0)
theorem mX2_ways : z_MV iX2_ways 0 := ⟨⟨by decide +kernel, z_tb (n := 7) (by decide +kernel) (by decide +kernel), z_tb (n := 607) (by decide +kernel) (by decide +kernel), by decide +kernel, by decide +kernel, by decide +kernel, by decide⟩, z_tb (n := 605) (by decide +kernel) (by decide +kernel), z_tb (n := 606) (by decide +kernel) (by decide +kernel)⟩
def iX3_canMeet : z_MI := (yX3_canMeet, cX3_canMeet, 5, (some .boolean), 0)
theorem mX3_canMeet : z_MV iX3_canMeet 2 := ⟨⟨by decide +kernel, z_tb (n := 6) (by decide +kernel) (by decide +kernel), z_tb (n := 509) (by decide +kernel) (by decide +kernel), by decide +kernel, by decide +kernel, by decide +kernel, by decide⟩, z_tb (n := 508) (by decide +kernel) (by decide +kernel), z_in (List.mem_append_left _ (List.mem_of_getElem? (i := 12) (by decide +kernel))) (by decide +kernel)⟩
def iX3_conflict : z_MI := (yX3_conflict, cX3_conflict, 4, (some .int), 1)
theorem mX3_conflict : z_MV iX3_conflict 0 := ⟨⟨by decide +kernel, z_tb (n := 6) (by decide +kernel) (by decide +kernel), z_tb (n := 505) (by decide +kernel) (by decide +kernel), by decide +kernel, by decide +kernel, by decide +kernel, by decide⟩, z_tb (n := 504) (by decide +kernel) (by decide +kernel), z_in (List.mem_append_left _ (List.mem_of_getElem? (i := 11) (by decide +kernel))) (by decide +kernel)⟩
def iX3_findMarks : z_MI := (yX3_findMarks, cX3_findMarks, 8, (some .int), 6)
theorem mX3_findMarks : z_MV iX3_findMarks 2 := ⟨⟨by decide +kernel, z_tb (n := 6) (by decide +kernel) (by decide +kernel), z_tb (n := 484) (by decide +kernel) (by decide +kernel), by decide +kernel, by decide +kernel, by decide +kernel, by decide⟩, z_tb (n := 482) (by decide +kernel) (by decide +kernel), z_tb (n := 483) (by decide +kernel) (by decide +kernel)⟩
def iX3_flipsOf : z_MI := (yX3_flipsOf, cX3_flipsOf, 2, (some .int), 1)
theorem mX3_flipsOf : z_MV iX3_flipsOf 1 := ⟨⟨by decide +kernel, z_tb (n := 6) (by decide +kernel) (by decide +kernel), z_tb (n := 458) (by decide +kernel) (by decide +kernel), by decide +kernel, by decide +kernel, by decide +kernel, by decide⟩, z_tb (n := 456) (by decide +kernel) (by decide +kernel), z_tb (n := 457) (by decide +kernel) (by decide +kernel)⟩
def iX3_goOver : z_MI := (yX3_goOver, cX3_goOver, 5, none, 5)
theorem mX3_goOver : z_MV iX3_goOver 3 := ⟨⟨by decide +kernel, z_tb (n := 6) (by decide +kernel) (by decide +kernel), z_tb (n := 440) (by decide +kernel) (by decide +kernel), by decide +kernel, by decide +kernel, by decide +kernel, by decide⟩, z_tb (n := 438) (by decide +kernel) (by decide +kernel), z_tb (n := 439) (by decide +kernel) (by decide +kernel)⟩
def iX3_keep : z_MI := (yX3_keep, cX3_keep, 2, none, 0)
theorem mX3_keep : z_MV iX3_keep 1 := ⟨⟨by decide +kernel, z_tb (n := 6) (by decide +kernel) (by decide +kernel), z_tb (n := 497) (by decide +kernel) (by decide +kernel), by decide +kernel, by decide +kernel, by decide +kernel, by decide⟩, z_tb (n := 496) (by decide +kernel) (by decide +kernel), z_in (List.mem_append_left _ (List.mem_of_getElem? (i := 10) (by decide +kernel))) (by decide +kernel)⟩
def iX3_lostOf : z_MI := (yX3_lostOf, cX3_lostOf, 2, (some .int), 1)
theorem mX3_lostOf : z_MV iX3_lostOf 1 := ⟨⟨by decide +kernel, z_tb (n := 6) (by decide +kernel) (by decide +kernel), z_tb (n := 463) (by decide +kernel) (by decide +kernel), by decide +kernel, by decide +kernel, by decide +kernel, by decide⟩, z_tb (n := 461) (by decide +kernel) (by decide +kernel), z_tb (n := 462) (by decide +kernel) (by decide +kernel)⟩
def iX3_metLines : z_MI := (yX3_metLines, cX3_metLines, 7, (some .int), 1)
theorem mX3_metLines : z_MV iX3_metLines 1 := ⟨⟨by decide +kernel, z_tb (n := 6) (by decide +kernel) (by decide +kernel), z_tb (n := 490) (by decide +kernel) (by decide +kernel), by decide +kernel, by decide +kernel, by decide +kernel, by decide⟩, z_tb (n := 489) (by decide +kernel) (by decide +kernel), z_in (List.mem_append_left _ (List.mem_of_getElem? (i := 9) (by decide +kernel))) (by decide +kernel)⟩
def iX3_told : z_MI := (yX3_told, cX3_told, 2, (some .int), 0)
theorem mX3_told : z_MS iX3_told 2 := ⟨⟨by decide +kernel, z_tb (n := 6) (by decide +kernel) (by decide +kernel), z_tb (n := 512) (by decide +kernel) (by decide +kernel), by decide +kernel, by decide +kernel, by decide +kernel, by decide⟩, z_tb (n := 511) (by decide +kernel) (by decide +kernel)⟩
def iX4_enter : z_MI := (yX4_enter, cX4_enter, 4, (some .int), 0)
theorem mX4_enter : z_MV iX4_enter 2 := ⟨⟨by decide +kernel, z_tb (n := 3) (by decide +kernel) (by decide +kernel), z_tb (n := 231) (by decide +kernel) (by decide +kernel), by decide +kernel, by decide +kernel, by decide +kernel, by decide⟩, z_tb (n := 229) (by decide +kernel) (by decide +kernel), z_tb (n := 230) (by decide +kernel) (by decide +kernel)⟩
def iX4_has : z_MI := (yX4_has, cX4_has, 2, (some .boolean), 0)
theorem mX4_has : z_MV iX4_has 1 := ⟨⟨by decide +kernel, z_tb (n := 3) (by decide +kernel) (by decide +kernel), z_tb (n := 296) (by decide +kernel) (by decide +kernel), by decide +kernel, by decide +kernel, by decide +kernel, by decide⟩, z_tb (n := 294) (by decide +kernel) (by decide +kernel), z_tb (n := 295) (by decide +kernel) (by decide +kernel)⟩
def iX4_isFull : z_MI := (yX4_isFull, cX4_isFull, 1, (some .boolean), 0)
theorem mX4_isFull : z_MV iX4_isFull 0 := ⟨⟨by decide +kernel, z_tb (n := 3) (by decide +kernel) (by decide +kernel), z_tb (n := 227) (by decide +kernel) (by decide +kernel), by decide +kernel, by decide +kernel, by decide +kernel, by decide⟩, z_tb (n := 225) (by decide +kernel) (by decide +kernel), z_tb (n := 226) (by decide +kernel) (by decide +kernel)⟩
def iX4_kindOf : z_MI := (yX4_kindOf, cX4_kindOf, 2, (some .int), 0)
theorem mX4_kindOf : z_MV iX4_kindOf 1 := ⟨⟨by decide +kernel, z_tb (n := 3) (by decide +kernel) (by decide +kernel), z_tb (n := 362) (by decide +kernel) (by decide +kernel), by decide +kernel, by decide +kernel, by decide +kernel, by decide⟩, z_tb (n := 360) (by decide +kernel) (by decide +kernel), z_tb (n := 361) (by decide +kernel) (by decide +kernel)⟩
def iX4_markOf : z_MI := (yX4_markOf, cX4_markOf, 2, (some .int), 0)
theorem mX4_markOf : z_MV iX4_markOf 1 := ⟨⟨by decide +kernel, z_tb (n := 3) (by decide +kernel) (by decide +kernel), z_tb (n := 404) (by decide +kernel) (by decide +kernel), by decide +kernel, by decide +kernel, by decide +kernel, by decide⟩, z_tb (n := 402) (by decide +kernel) (by decide +kernel), z_tb (n := 403) (by decide +kernel) (by decide +kernel)⟩
def iX4_markedLines : z_MI := (yX4_markedLines, cX4_markedLines, 3, (some .int), 0)
theorem mX4_markedLines : z_MV iX4_markedLines 0 := ⟨⟨by decide +kernel, z_tb (n := 3) (by decide +kernel) (by decide +kernel), z_tb (n := 480) (by decide +kernel) (by decide +kernel), by decide +kernel, by decide +kernel, by decide +kernel, by decide⟩, z_tb (n := 478) (by decide +kernel) (by decide +kernel), z_tb (n := 479) (by decide +kernel) (by decide +kernel)⟩
def iX4_putMark : z_MI := (yX4_putMark, cX4_putMark, 4, (some .int), 0)
theorem mX4_putMark : z_MV iX4_putMark 2 := ⟨⟨by decide +kernel, z_tb (n := 3) (by decide +kernel) (by decide +kernel), z_tb (n := 472) (by decide +kernel) (by decide +kernel), by decide +kernel, by decide +kernel, by decide +kernel, by decide⟩, z_tb (n := 470) (by decide +kernel) (by decide +kernel), z_tb (n := 471) (by decide +kernel) (by decide +kernel)⟩
def iX4_size : z_MI := (yX4_size, cX4_size, 1, (some .int), 0)
theorem mX4_size : z_MV iX4_size 0 := ⟨⟨by decide +kernel, z_tb (n := 3) (by decide +kernel) (by decide +kernel), z_tb (n := 350) (by decide +kernel) (by decide +kernel), by decide +kernel, by decide +kernel, by decide +kernel, by decide⟩, z_tb (n := 348) (by decide +kernel) (by decide +kernel), z_tb (n := 349) (by decide +kernel) (by decide +kernel)⟩
def iX4_slotOf : z_MI := (yX4_slotOf, cX4_slotOf, 2, (some .int), 0)
theorem mX4_slotOf : z_MV iX4_slotOf 1 := ⟨⟨by decide +kernel, z_tb (n := 3) (by decide +kernel) (by decide +kernel), z_tb (n := 247) (by decide +kernel) (by decide +kernel), by decide +kernel, by decide +kernel, by decide +kernel, by decide⟩, z_tb (n := 245) (by decide +kernel) (by decide +kernel), z_tb (n := 246) (by decide +kernel) (by decide +kernel)⟩
def iX5_admits : z_MI := (yX5_admits, cX5_admits, 3, (some .boolean), 0)
theorem mX5_admits : z_MV iX5_admits 2 := ⟨⟨by decide +kernel, z_tb (n := 2) (by decide +kernel) (by decide +kernel), z_tb (n := 255) (by decide +kernel) (by decide +kernel), by decide +kernel, by decide +kernel, by decide +kernel, by decide⟩, z_tb (n := 253) (by decide +kernel) (by decide +kernel), z_tb (n := 254) (by decide +kernel) (by decide +kernel)⟩
def iX5_areMarks : z_MI := (yX5_areMarks, cX5_areMarks, 2, (some .boolean), 0)
theorem mX5_areMarks : z_MS iX5_areMarks 2 := ⟨⟨by decide +kernel, z_tb (n := 2) (by decide +kernel) (by decide +kernel), z_tb (n := 436) (by decide +kernel) (by decide +kernel), by decide +kernel, by decide +kernel, by decide +kernel, by decide⟩, z_tb (n := 435) (by decide +kernel) (by decide +kernel)⟩
def iX5_copyWithMarks : z_MI := (yX5_copyWithMarks, cX5_copyWithMarks, 4, none, 1)
theorem mX5_copyWithMarks : z_MV iX5_copyWithMarks 3 := ⟨⟨by decide +kernel, z_tb (n := 2) (by decide +kernel) (by decide +kernel), z_tb (n := 444) (by decide +kernel) (by decide +kernel), by decide +kernel, by decide +kernel, by decide +kernel, by decide⟩, z_tb (n := 442) (by decide +kernel) (by decide +kernel), z_tb (n := 443) (by decide +kernel) (by decide +kernel)⟩
def iX5_fade : z_MI := (yX5_fade, cX5_fade, 6, (some .int), 1)
theorem mX5_fade : z_MV iX5_fade 2 := ⟨⟨by decide +kernel, z_tb (n := 2) (by decide +kernel) (by decide +kernel), z_tb (n := 275) (by decide +kernel) (by decide +kernel), by decide +kernel, by decide +kernel, by decide +kernel, by decide⟩, z_tb (n := 273) (by decide +kernel) (by decide +kernel), z_tb (n := 274) (by decide +kernel) (by decide +kernel)⟩
def iX5_get : z_MI := (yX5_get, cX5_get, 2, (some .int), 0)
theorem mX5_get : z_MV iX5_get 1 := ⟨⟨by decide +kernel, z_tb (n := 2) (by decide +kernel) (by decide +kernel), z_tb (n := 263) (by decide +kernel) (by decide +kernel), by decide +kernel, by decide +kernel, by decide +kernel, by decide⟩, z_tb (n := 261) (by decide +kernel) (by decide +kernel), z_tb (n := 262) (by decide +kernel) (by decide +kernel)⟩
def iX5_put : z_MI := (yX5_put, cX5_put, 3, none, 0)
theorem mX5_put : z_MV iX5_put 2 := ⟨⟨by decide +kernel, z_tb (n := 2) (by decide +kernel) (by decide +kernel), z_tb (n := 282) (by decide +kernel) (by decide +kernel), by decide +kernel, by decide +kernel, by decide +kernel, by decide⟩, z_tb (n := 280) (by decide +kernel) (by decide +kernel), z_tb (n := 281) (by decide +kernel) (by decide +kernel)⟩
def iX5_ticksTillBelow : z_MI := (yX5_ticksTillBelow, cX5_ticksTillBelow, 9, (some .int), 1)
theorem mX5_ticksTillBelow : z_MV iX5_ticksTillBelow 2 := ⟨⟨by decide +kernel, z_tb (n := 2) (by decide +kernel) (by decide +kernel), z_tb (n := 333) (by decide +kernel) (by decide +kernel), by decide +kernel, by decide +kernel, by decide +kernel, by decide⟩, z_tb (n := 331) (by decide +kernel) (by decide +kernel), z_tb (n := 332) (by decide +kernel) (by decide +kernel)⟩
def iX6_about : z_MI := (yX6_about, cX6_about, 3, (some .int), 4)
theorem mX6_about : z_MV iX6_about 2 := ⟨⟨by decide +kernel, z_tb (n := 1) (by decide +kernel) (by decide +kernel), z_tb (n := 382) (by decide +kernel) (by decide +kernel), by decide +kernel, by decide +kernel, by decide +kernel, by decide⟩, z_tb (n := 380) (by decide +kernel) (by decide +kernel), z_tb (n := 381) (by decide +kernel) (by decide +kernel)⟩
def iX6_again : z_MI := (yX6_again, cX6_again, 5, (some .int), 6)
theorem mX6_again : z_MV iX6_again 4 := ⟨⟨by decide +kernel, z_tb (n := 1) (by decide +kernel) (by decide +kernel), z_tb (n := 433) (by decide +kernel) (by decide +kernel), by decide +kernel, by decide +kernel, by decide +kernel, by decide⟩, z_tb (n := 431) (by decide +kernel) (by decide +kernel), z_tb (n := 432) (by decide +kernel) (by decide +kernel)⟩
def iX6_asNumber : z_MI := (yX6_asNumber, cX6_asNumber, 1, (some .int), 0)
theorem mX6_asNumber : z_MS iX6_asNumber 1 := ⟨⟨by decide +kernel, z_tb (n := 1) (by decide +kernel) (by decide +kernel), z_tb (n := 385) (by decide +kernel) (by decide +kernel), by decide +kernel, by decide +kernel, by decide +kernel, by decide⟩, z_tb (n := 384) (by decide +kernel) (by decide +kernel)⟩
def iX6_bind : z_MI := (yX6_bind, cX6_bind, 4, (some .int), 2)
theorem mX6_bind : z_MV iX6_bind 3 := ⟨⟨by decide +kernel, z_tb (n := 1) (by decide +kernel) (by decide +kernel), z_tb (n := 534) (by decide +kernel) (by decide +kernel), by decide +kernel, by decide +kernel, by decide +kernel, by decide⟩, z_tb (n := 532) (by decide +kernel) (by decide +kernel), z_tb (n := 533) (by decide +kernel) (by decide +kernel)⟩
def iX6_change : z_MI := (yX6_change, cX6_change, 3, (some .int), 7)
theorem mX6_change : z_MV iX6_change 2 := ⟨⟨by decide +kernel, z_tb (n := 1) (by decide +kernel) (by decide +kernel), z_tb (n := 292) (by decide +kernel) (by decide +kernel), by decide +kernel, by decide +kernel, by decide +kernel, by decide⟩, z_tb (n := 290) (by decide +kernel) (by decide +kernel), z_tb (n := 291) (by decide +kernel) (by decide +kernel)⟩
def iX6_count : z_MI := (yX6_count, cX6_count, 2, (some .int), 3)
theorem mX6_count : z_MV iX6_count 1 := ⟨⟨by decide +kernel, z_tb (n := 1) (by decide +kernel) (by decide +kernel), z_tb (n := 598) (by decide +kernel) (by decide +kernel), by decide +kernel, by decide +kernel, by decide +kernel, by decide⟩, z_tb (n := 596) (by decide +kernel) (by decide +kernel), z_tb (n := 597) (by decide +kernel) (by decide +kernel)⟩
def iX6_digest : z_MI := (yX6_digest, cX6_digest, 5, (some .long), 5)
theorem mX6_digest : z_MV iX6_digest 0 := ⟨⟨by decide +kernel, z_tb (n := 1) (by decide +kernel) (by decide +kernel), z_tb (n := 615) (by decide +kernel) (by decide +kernel), by decide +kernel, by decide +kernel, by decide +kernel, by decide⟩, z_tb (n := 613) (by decide +kernel) (by decide +kernel), z_tb (n := 614) (by decide +kernel) (by decide +kernel)⟩
def iX6_echo : z_MI := (yX6_echo, cX6_echo, 2, (some .int), 7)
theorem mX6_echo : z_MV iX6_echo 1 := ⟨⟨by decide +kernel, z_tb (n := 1) (by decide +kernel) (by decide +kernel), z_tb (n := 370) (by decide +kernel) (by decide +kernel), by decide +kernel, by decide +kernel, by decide +kernel, by decide⟩, z_tb (n := 368) (by decide +kernel) (by decide +kernel), z_tb (n := 369) (by decide +kernel) (by decide +kernel)⟩
def iX6_echoes : z_MI := (yX6_echoes, cX6_echoes, 2, (some .int), 1)
theorem mX6_echoes : z_MV iX6_echoes 1 := ⟨⟨by decide +kernel, z_tb (n := 1) (by decide +kernel) (by decide +kernel), z_tb (n := 590) (by decide +kernel) (by decide +kernel), by decide +kernel, by decide +kernel, by decide +kernel, by decide⟩, z_tb (n := 588) (by decide +kernel) (by decide +kernel), z_tb (n := 589) (by decide +kernel) (by decide +kernel)⟩
def iX6_event : z_MI := (yX6_event, cX6_event, 3, (some .int), 1)
theorem mX6_event : z_MV iX6_event 2 := ⟨⟨by decide +kernel, z_tb (n := 1) (by decide +kernel) (by decide +kernel), z_tb (n := 413) (by decide +kernel) (by decide +kernel), by decide +kernel, by decide +kernel, by decide +kernel, by decide⟩, z_tb (n := 411) (by decide +kernel) (by decide +kernel), z_tb (n := 412) (by decide +kernel) (by decide +kernel)⟩
def iX6_faded : z_MI := (yX6_faded, cX6_faded, 3, (some .int), 2)
theorem mX6_faded : z_MV iX6_faded 2 := ⟨⟨by decide +kernel, z_tb (n := 1) (by decide +kernel) (by decide +kernel), z_tb (n := 286) (by decide +kernel) (by decide +kernel), by decide +kernel, by decide +kernel, by decide +kernel, by decide⟩, z_tb (n := 284) (by decide +kernel) (by decide +kernel), z_tb (n := 285) (by decide +kernel) (by decide +kernel)⟩
def iX6_flood : z_MI := (yX6_flood, cX6_flood, 5, (some .int), 6)
theorem mX6_flood : z_MV iX6_flood 1 := ⟨⟨by decide +kernel, z_tb (n := 1) (by decide +kernel) (by decide +kernel), z_tb (n := 542) (by decide +kernel) (by decide +kernel), by decide +kernel, by decide +kernel, by decide +kernel, by decide⟩, z_tb (n := 540) (by decide +kernel) (by decide +kernel), z_tb (n := 541) (by decide +kernel) (by decide +kernel)⟩
def iX6_happen : z_MI := (yX6_happen, cX6_happen, 3, (some .boolean), 5)
theorem mX6_happen : z_MV iX6_happen 2 := ⟨⟨by decide +kernel, z_tb (n := 1) (by decide +kernel) (by decide +kernel), z_tb (n := 308) (by decide +kernel) (by decide +kernel), by decide +kernel, by decide +kernel, by decide +kernel, by decide⟩, z_tb (n := 307) (by decide +kernel) (by decide +kernel), z_in (List.mem_append_left _ (List.mem_of_getElem? (i := 2) (by decide +kernel))) (by decide +kernel)⟩
def iX6_line : z_MI := (yX6_line, cX6_line, 4, (some .int), 4)
theorem mX6_line : z_MV iX6_line 2 := ⟨⟨by decide +kernel, z_tb (n := 1) (by decide +kernel) (by decide +kernel), z_tb (n := 223) (by decide +kernel) (by decide +kernel), by decide +kernel, by decide +kernel, by decide +kernel, by decide⟩, z_tb (n := 221) (by decide +kernel) (by decide +kernel), z_tb (n := 222) (by decide +kernel) (by decide +kernel)⟩
def iX6_longest : z_MI := (yX6_longest, cX6_longest, 1, (some .int), 2)
theorem mX6_longest : z_MV iX6_longest 0 := ⟨⟨by decide +kernel, z_tb (n := 1) (by decide +kernel) (by decide +kernel), z_tb (n := 408) (by decide +kernel) (by decide +kernel), by decide +kernel, by decide +kernel, by decide +kernel, by decide⟩, z_tb (n := 406) (by decide +kernel) (by decide +kernel), z_tb (n := 407) (by decide +kernel) (by decide +kernel)⟩
def iX6_mark : z_MI := (yX6_mark, cX6_mark, 3, (some .int), 1)
theorem mX6_mark : z_MV iX6_mark 2 := ⟨⟨by decide +kernel, z_tb (n := 1) (by decide +kernel) (by decide +kernel), z_tb (n := 468) (by decide +kernel) (by decide +kernel), by decide +kernel, by decide +kernel, by decide +kernel, by decide⟩, z_tb (n := 466) (by decide +kernel) (by decide +kernel), z_tb (n := 467) (by decide +kernel) (by decide +kernel)⟩
def iX6_marks : z_MI := (yX6_marks, cX6_marks, 2, (some .int), 7)
theorem mX6_marks : z_MV iX6_marks 1 := ⟨⟨by decide +kernel, z_tb (n := 1) (by decide +kernel) (by decide +kernel), z_tb (n := 476) (by decide +kernel) (by decide +kernel), by decide +kernel, by decide +kernel, by decide +kernel, by decide⟩, z_tb (n := 474) (by decide +kernel) (by decide +kernel), z_tb (n := 475) (by decide +kernel) (by decide +kernel)⟩
def iX6_own : z_MI := (yX6_own, cX6_own, 3, (some .int), 1)
theorem mX6_own : z_MV iX6_own 2 := ⟨⟨by decide +kernel, z_tb (n := 1) (by decide +kernel) (by decide +kernel), z_tb (n := 582) (by decide +kernel) (by decide +kernel), by decide +kernel, by decide +kernel, by decide +kernel, by decide⟩, z_tb (n := 580) (by decide +kernel) (by decide +kernel), z_tb (n := 581) (by decide +kernel) (by decide +kernel)⟩
def iX6_penaltyAfter : z_MI := (yX6_penaltyAfter, cX6_penaltyAfter, 3, (some .int), 6)
theorem mX6_penaltyAfter : z_MV iX6_penaltyAfter 2 := ⟨⟨by decide +kernel, z_tb (n := 1) (by decide +kernel) (by decide +kernel), z_tb (n := 304) (by decide +kernel) (by decide +kernel), by decide +kernel, by decide +kernel, by decide +kernel, by decide⟩, z_tb (n := 303) (by decide +kernel) (by decide +kernel), z_in (List.mem_append_left _ (List.mem_of_getElem? (i := 1) (by decide +kernel))) (by decide +kernel)⟩
def iX6_rule : z_MI := (yX6_rule, cX6_rule, 4, (some .int), 4)
theorem mX6_rule : z_MV iX6_rule 2 := ⟨⟨by decide +kernel, z_tb (n := 1) (by decide +kernel) (by decide +kernel), z_tb (n := 251) (by decide +kernel) (by decide +kernel), by decide +kernel, by decide +kernel, by decide +kernel, by decide⟩, z_tb (n := 249) (by decide +kernel) (by decide +kernel), z_tb (n := 250) (by decide +kernel) (by decide +kernel)⟩
def iX6_tick : z_MI := (yX6_tick, cX6_tick, 2, (some .int), 5)
theorem mX6_tick : z_MV iX6_tick 1 := ⟨⟨by decide +kernel, z_tb (n := 1) (by decide +kernel) (by decide +kernel), z_tb (n := 374) (by decide +kernel) (by decide +kernel), by decide +kernel, by decide +kernel, by decide +kernel, by decide⟩, z_tb (n := 372) (by decide +kernel) (by decide +kernel), z_tb (n := 373) (by decide +kernel) (by decide +kernel)⟩
def iX6_way : z_MI := (yX6_way, cX6_way, 4, (some .int), 2)
theorem mX6_way : z_MV iX6_way 3 := ⟨⟨by decide +kernel, z_tb (n := 1) (by decide +kernel) (by decide +kernel), z_tb (n := 516) (by decide +kernel) (by decide +kernel), by decide +kernel, by decide +kernel, by decide +kernel, by decide⟩, z_tb (n := 514) (by decide +kernel) (by decide +kernel), z_tb (n := 515) (by decide +kernel) (by decide +kernel)⟩
def iX7_about : z_MI := (yX7_about, cX7_about, 3, (some .int), 3)
theorem mX7_about : z_MV iX7_about 2 := ⟨⟨by decide +kernel, z_tb (n := 8) (by decide +kernel) (by decide +kernel), z_tb (n := 823) (by decide +kernel) (by decide +kernel), by decide +kernel, by decide +kernel, by decide +kernel, by decide⟩, z_tb (n := 821) (by decide +kernel) (by decide +kernel), z_tb (n := 822) (by decide +kernel) (by decide +kernel)⟩
def iX7_aboutOf : z_MI := (yX7_aboutOf, cX7_aboutOf, 3, (some .int), 2)
theorem mX7_aboutOf : z_MV iX7_aboutOf 2 := ⟨⟨by decide +kernel, z_tb (n := 8) (by decide +kernel) (by decide +kernel), z_tb (n := 827) (by decide +kernel) (by decide +kernel), by decide +kernel, by decide +kernel, by decide +kernel, by decide⟩, z_tb (n := 826) (by decide +kernel) (by decide +kernel), z_in (List.mem_append_left _ (List.mem_of_getElem? (i := 28) (by decide +kernel))) (by decide +kernel)⟩
def iX7_again : z_MI := (yX7_again, cX7_again, 5, (some .int), 6)
theorem mX7_again : z_MV iX7_again 4 := ⟨⟨by decide +kernel, z_tb (n := 8) (by decide +kernel) (by decide +kernel), z_tb (n := 843) (by decide +kernel) (by decide +kernel), by decide +kernel, by decide +kernel, by decide +kernel, by decide⟩, z_tb (n := 841) (by decide +kernel) (by decide +kernel), z_tb (n := 842) (by decide +kernel) (by decide +kernel)⟩
def iX7_bearer : z_MI := (yX7_bearer, cX7_bearer, 3, (some .int), 0)
theorem mX7_bearer : z_MV iX7_bearer 2 := ⟨⟨by decide +kernel, z_tb (n := 8) (by decide +kernel) (by decide +kernel), z_tb (n := 764) (by decide +kernel) (by decide +kernel), by decide +kernel, by decide +kernel, by decide +kernel, by decide⟩, z_tb (n := 763) (by decide +kernel) (by decide +kernel), z_in (List.mem_append_left _ (List.mem_of_getElem? (i := 20) (by decide +kernel))) (by decide +kernel)⟩
def iX7_begins : z_MI := (yX7_begins, cX7_begins, 4, none, 2)
theorem mX7_begins : z_MV iX7_begins 2 := ⟨⟨by decide +kernel, z_tb (n := 8) (by decide +kernel) (by decide +kernel), z_tb (n := 755) (by decide +kernel) (by decide +kernel), by decide +kernel, by decide +kernel, by decide +kernel, by decide⟩, z_tb (n := 754) (by decide +kernel) (by decide +kernel), z_in (List.mem_append_left _ (List.mem_of_getElem? (i := 18) (by decide +kernel))) (by decide +kernel)⟩
def iX7_bind : z_MI := (yX7_bind, cX7_bind, 4, (some .int), 2)
theorem mX7_bind : z_MV iX7_bind 3 := ⟨⟨by decide +kernel, z_tb (n := 8) (by decide +kernel) (by decide +kernel), z_tb (n := 894) (by decide +kernel) (by decide +kernel), by decide +kernel, by decide +kernel, by decide +kernel, by decide⟩, z_tb (n := 892) (by decide +kernel) (by decide +kernel), z_tb (n := 893) (by decide +kernel) (by decide +kernel)⟩
def iX7_change : z_MI := (yX7_change, cX7_change, 3, (some .int), 5)
theorem mX7_change : z_MV iX7_change 2 := ⟨⟨by decide +kernel, z_tb (n := 8) (by decide +kernel) (by decide +kernel), z_tb (n := 787) (by decide +kernel) (by decide +kernel), by decide +kernel, by decide +kernel, by decide +kernel, by decide⟩, z_tb (n := 785) (by decide +kernel) (by decide +kernel), z_tb (n := 786) (by decide +kernel) (by decide +kernel)⟩
def iX7_comes : z_MI := (yX7_comes, cX7_comes, 7, none, 5)
theorem mX7_comes : z_MV iX7_comes 2 := ⟨⟨by decide +kernel, z_tb (n := 8) (by decide +kernel) (by decide +kernel), z_tb (n := 914) (by decide +kernel) (by decide +kernel), by decide +kernel, by decide +kernel, by decide +kernel, by decide⟩, z_tb (n := 913) (by decide +kernel) (by decide +kernel), z_in (List.mem_append_left _ (List.mem_of_getElem? (i := 41) (by decide +kernel))) (by decide +kernel)⟩
def iX7_common : z_MI := (yX7_common, cX7_common, 4, (some .int), 1)
theorem mX7_common : z_MV iX7_common 2 := ⟨⟨by decide +kernel, z_tb (n := 8) (by decide +kernel) (by decide +kernel), z_tb (n := 883) (by decide +kernel) (by decide +kernel), by decide +kernel, by decide +kernel, by decide +kernel, by decide⟩, z_tb (n := 882) (by decide +kernel) (by decide +kernel), z_in (List.mem_append_left _ (List.mem_of_getElem? (i := 37) (by decide +kernel))) (by decide +kernel)⟩
def iX7_count : z_MI := (yX7_count, cX7_count, 4, (some .int), 1)
theorem mX7_count : z_MV iX7_count 1 := ⟨⟨by decide +kernel, z_tb (n := 8) (by decide +kernel) (by decide +kernel), z_tb (n := 926) (by decide +kernel) (by decide +kernel), by decide +kernel, by decide +kernel, by decide +kernel, by decide⟩, z_tb (n := 924) (by decide +kernel) (by decide +kernel), z_tb (n := 925) (by decide +kernel) (by decide +kernel)⟩
def iX7_digest : z_MI := (yX7_digest, cX7_digest, 5, (some .long), 3)
theorem mX7_digest : z_MV iX7_digest 0 := ⟨⟨by decide +kernel, z_tb (n := 8) (by decide +kernel) (by decide +kernel), z_tb (n := 930) (by decide +kernel) (by decide +kernel), by decide +kernel, by decide +kernel, by decide +kernel, by decide⟩, z_tb (n := 928) (by decide +kernel) (by decide +kernel), z_tb (n := 929) (by decide +kernel) (by decide +kernel)⟩
def iX7_echo : z_MI := (yX7_echo, cX7_echo, 2, (some .int), 5)
theorem mX7_echo : z_MV iX7_echo 1 := ⟨⟨by decide +kernel, z_tb (n := 8) (by decide +kernel) (by decide +kernel), z_tb (n := 811) (by decide +kernel) (by decide +kernel), by decide +kernel, by decide +kernel, by decide +kernel, by decide⟩, z_tb (n := 809) (by decide +kernel) (by decide +kernel), z_tb (n := 810) (by decide +kernel) (by decide +kernel)⟩
def iX7_echoes : z_MI := (yX7_echoes, cX7_echoes, 2, (some .int), 2)
theorem mX7_echoes : z_MV iX7_echoes 1 := ⟨⟨by decide +kernel, z_tb (n := 8) (by decide +kernel) (by decide +kernel), z_tb (n := 922) (by decide +kernel) (by decide +kernel), by decide +kernel, by decide +kernel, by decide +kernel, by decide⟩, z_tb (n := 920) (by decide +kernel) (by decide +kernel), z_tb (n := 921) (by decide +kernel) (by decide +kernel)⟩
def iX7_event : z_MI := (yX7_event, cX7_event, 3, (some .int), 1)
theorem mX7_event : z_MV iX7_event 2 := ⟨⟨by decide +kernel, z_tb (n := 8) (by decide +kernel) (by decide +kernel), z_tb (n := 839) (by decide +kernel) (by decide +kernel), by decide +kernel, by decide +kernel, by decide +kernel, by decide⟩, z_tb (n := 837) (by decide +kernel) (by decide +kernel), z_tb (n := 838) (by decide +kernel) (by decide +kernel)⟩
def iX7_faded : z_MI := (yX7_faded, cX7_faded, 3, (some .int), 1)
theorem mX7_faded : z_MV iX7_faded 2 := ⟨⟨by decide +kernel, z_tb (n := 8) (by decide +kernel) (by decide +kernel), z_tb (n := 783) (by decide +kernel) (by decide +kernel), by decide +kernel, by decide +kernel, by decide +kernel, by decide⟩, z_tb (n := 781) (by decide +kernel) (by decide +kernel), z_tb (n := 782) (by decide +kernel) (by decide +kernel)⟩
def iX7_fades : z_MI := (yX7_fades, cX7_fades, 5, (some .int), 0)
theorem mX7_fades : z_MV iX7_fades 2 := ⟨⟨by decide +kernel, z_tb (n := 8) (by decide +kernel) (by decide +kernel), z_tb (n := 779) (by decide +kernel) (by decide +kernel), by decide +kernel, by decide +kernel, by decide +kernel, by decide⟩, z_tb (n := 778) (by decide +kernel) (by decide +kernel), z_in (List.mem_append_left _ (List.mem_of_getElem? (i := 21) (by decide +kernel))) (by decide +kernel)⟩
def iX7_findOwn : z_MI := (yX7_findOwn, cX7_findOwn, 6, none, 1)
theorem mX7_findOwn : z_MV iX7_findOwn 2 := ⟨⟨by decide +kernel, z_tb (n := 8) (by decide +kernel) (by decide +kernel), z_tb (n := 906) (by decide +kernel) (by decide +kernel), by decide +kernel, by decide +kernel, by decide +kernel, by decide⟩, z_tb (n := 905) (by decide +kernel) (by decide +kernel), z_in (List.mem_append_left _ (List.mem_of_getElem? (i := 39) (by decide +kernel))) (by decide +kernel)⟩
def iX7_findsAnew : z_MI := (yX7_findsAnew, cX7_findsAnew, 6, none, 2)
theorem mX7_findsAnew : z_MV iX7_findsAnew 2 := ⟨⟨by decide +kernel, z_tb (n := 8) (by decide +kernel) (by decide +kernel), z_tb (n := 902) (by decide +kernel) (by decide +kernel), by decide +kernel, by decide +kernel, by decide +kernel, by decide⟩, z_tb (n := 901) (by decide +kernel) (by decide +kernel), z_in (List.mem_append_left _ (List.mem_of_getElem? (i := 38) (by decide +kernel))) (by decide +kernel)⟩
def iX7_firstOfAll : z_MI := (yX7_firstOfAll, cX7_firstOfAll, 4, (some .int), 1)
theorem mX7_firstOfAll : z_MV iX7_firstOfAll 0 := ⟨⟨by decide +kernel, z_tb (n := 8) (by decide +kernel) (by decide +kernel), z_tb (n := 871) (by decide +kernel) (by decide +kernel), by decide +kernel, by decide +kernel, by decide +kernel, by decide⟩, z_tb (n := 870) (by decide +kernel) (by decide +kernel), z_in (List.mem_append_left _ (List.mem_of_getElem? (i := 34) (by decide +kernel))) (by decide +kernel)⟩
def iX7_flood : z_MI := (yX7_flood, cX7_flood, 3, (some .int), 6)
theorem mX7_flood : z_MV iX7_flood 1 := ⟨⟨by decide +kernel, z_tb (n := 8) (by decide +kernel) (by decide +kernel), z_tb (n := 898) (by decide +kernel) (by decide +kernel), by decide +kernel, by decide +kernel, by decide +kernel, by decide⟩, z_tb (n := 896) (by decide +kernel) (by decide +kernel), z_tb (n := 897) (by decide +kernel) (by decide +kernel)⟩
def iX7_goesOver : z_MI := (yX7_goesOver, cX7_goesOver, 4, none, 5)
theorem mX7_goesOver : z_MV iX7_goesOver 2 := ⟨⟨by decide +kernel, z_tb (n := 8) (by decide +kernel) (by decide +kernel), z_tb (n := 847) (by decide +kernel) (by decide +kernel), by decide +kernel, by decide +kernel, by decide +kernel, by decide⟩, z_tb (n := 846) (by decide +kernel) (by decide +kernel), z_in (List.mem_append_left _ (List.mem_of_getElem? (i := 30) (by decide +kernel))) (by decide +kernel)⟩
def iX7_goesTo : z_MI := (yX7_goesTo, cX7_goesTo, 2, none, 4)
theorem mX7_goesTo : z_MV iX7_goesTo 1 := ⟨⟨by decide +kernel, z_tb (n := 8) (by decide +kernel) (by decide +kernel), z_tb (n := 851) (by decide +kernel) (by decide +kernel), by decide +kernel, by decide +kernel, by decide +kernel, by decide⟩, z_tb (n := 850) (by decide +kernel) (by decide +kernel), z_in (List.mem_append_left _ (List.mem_of_getElem? (i := 31) (by decide +kernel))) (by decide +kernel)⟩
def iX7_happens : z_MI := (yX7_happens, cX7_happens, 9, none, 3)
theorem mX7_happens : z_MV iX7_happens 3 := ⟨⟨by decide +kernel, z_tb (n := 8) (by decide +kernel) (by decide +kernel), z_tb (n := 799) (by decide +kernel) (by decide +kernel), by decide +kernel, by decide +kernel, by decide +kernel, by decide⟩, z_tb (n := 798) (by decide +kernel) (by decide +kernel), z_in (List.mem_append_left _ (List.mem_of_getElem? (i := 24) (by decide +kernel))) (by decide +kernel)⟩
def iX7_holds : z_MI := (yX7_holds, cX7_holds, 4, (some .boolean), 0)
theorem mX7_holds : z_MV iX7_holds 2 := ⟨⟨by decide +kernel, z_tb (n := 8) (by decide +kernel) (by decide +kernel), z_tb (n := 910) (by decide +kernel) (by decide +kernel), by decide +kernel, by decide +kernel, by decide +kernel, by decide⟩, z_tb (n := 909) (by decide +kernel) (by decide +kernel), z_in (List.mem_append_left _ (List.mem_of_getElem? (i := 40) (by decide +kernel))) (by decide +kernel)⟩
def iX7_in : z_MI := (yX7_in, cX7_in, 3, (some .boolean), 0)
theorem mX7_in : z_MS iX7_in 3 := ⟨⟨by decide +kernel, z_tb (n := 8) (by decide +kernel) (by decide +kernel), z_tb (n := 751) (by decide +kernel) (by decide +kernel), by decide +kernel, by decide +kernel, by decide +kernel, by decide⟩, z_tb (n := 750) (by decide +kernel) (by decide +kernel)⟩
def iX7_isHouse : z_MI := (yX7_isHouse, cX7_isHouse, 1, (some .boolean), 1)
theorem mX7_isHouse : z_MS iX7_isHouse 1 := ⟨⟨by decide +kernel, z_tb (n := 8) (by decide +kernel) (by decide +kernel), z_tb (n := 890) (by decide +kernel) (by decide +kernel), by decide +kernel, by decide +kernel, by decide +kernel, by decide⟩, z_tb (n := 889) (by decide +kernel) (by decide +kernel)⟩
def iX7_isLine : z_MI := (yX7_isLine, cX7_isLine, 2, (some .boolean), 1)
theorem mX7_isLine : z_MV iX7_isLine 1 := ⟨⟨by decide +kernel, z_tb (n := 8) (by decide +kernel) (by decide +kernel), z_tb (n := 791) (by decide +kernel) (by decide +kernel), by decide +kernel, by decide +kernel, by decide +kernel, by decide⟩, z_tb (n := 790) (by decide +kernel) (by decide +kernel), z_in (List.mem_append_left _ (List.mem_of_getElem? (i := 22) (by decide +kernel))) (by decide +kernel)⟩
def iX7_isRightBy : z_MI := (yX7_isRightBy, cX7_isRightBy, 3, (some .boolean), 0)
theorem mX7_isRightBy : z_MV iX7_isRightBy 2 := ⟨⟨by decide +kernel, z_tb (n := 8) (by decide +kernel) (by decide +kernel), z_tb (n := 875) (by decide +kernel) (by decide +kernel), by decide +kernel, by decide +kernel, by decide +kernel, by decide⟩, z_tb (n := 874) (by decide +kernel) (by decide +kernel), z_in (List.mem_append_left _ (List.mem_of_getElem? (i := 35) (by decide +kernel))) (by decide +kernel)⟩
def iX7_isSeen : z_MI := (yX7_isSeen, cX7_isSeen, 3, (some .boolean), 1)
theorem mX7_isSeen : z_MV iX7_isSeen 2 := ⟨⟨by decide +kernel, z_tb (n := 8) (by decide +kernel) (by decide +kernel), z_tb (n := 760) (by decide +kernel) (by decide +kernel), by decide +kernel, by decide +kernel, by decide +kernel, by decide⟩, z_tb (n := 759) (by decide +kernel) (by decide +kernel), z_in (List.mem_append_left _ (List.mem_of_getElem? (i := 19) (by decide +kernel))) (by decide +kernel)⟩
def iX7_isSomeShut : z_MI := (yX7_isSomeShut, cX7_isSomeShut, 2, (some .boolean), 0)
theorem mX7_isSomeShut : z_MV iX7_isSomeShut 0 := ⟨⟨by decide +kernel, z_tb (n := 8) (by decide +kernel) (by decide +kernel), z_tb (n := 855) (by decide +kernel) (by decide +kernel), by decide +kernel, by decide +kernel, by decide +kernel, by decide⟩, z_tb (n := 854) (by decide +kernel) (by decide +kernel), z_in (List.mem_append_left _ (List.mem_of_getElem? (i := 32) (by decide +kernel))) (by decide +kernel)⟩
def iX7_least : z_MI := (yX7_least, cX7_least, 1, (some .int), 0)
theorem mX7_least : z_MS iX7_least 1 := ⟨⟨by decide +kernel, z_tb (n := 8) (by decide +kernel) (by decide +kernel), z_tb (n := 771) (by decide +kernel) (by decide +kernel), by decide +kernel, by decide +kernel, by decide +kernel, by decide⟩, z_tb (n := 770) (by decide +kernel) (by decide +kernel)⟩
def iX7_line : z_MI := (yX7_line, cX7_line, 3, (some .int), 3)
theorem mX7_line : z_MV iX7_line 2 := ⟨⟨by decide +kernel, z_tb (n := 8) (by decide +kernel) (by decide +kernel), z_tb (n := 748) (by decide +kernel) (by decide +kernel), by decide +kernel, by decide +kernel, by decide +kernel, by decide⟩, z_tb (n := 746) (by decide +kernel) (by decide +kernel), z_tb (n := 747) (by decide +kernel) (by decide +kernel)⟩
def iX7_logs : z_MI := (yX7_logs, cX7_logs, 3, none, 4)
theorem mX7_logs : z_MV iX7_logs 2 := ⟨⟨by decide +kernel, z_tb (n := 8) (by decide +kernel) (by decide +kernel), z_tb (n := 795) (by decide +kernel) (by decide +kernel), by decide +kernel, by decide +kernel, by decide +kernel, by decide⟩, z_tb (n := 794) (by decide +kernel) (by decide +kernel), z_in (List.mem_append_left _ (List.mem_of_getElem? (i := 23) (by decide +kernel))) (by decide +kernel)⟩
def iX7_longest : z_MI := (yX7_longest, cX7_longest, 2, (some .int), 1)
theorem mX7_longest : z_MV iX7_longest 0 := ⟨⟨by decide +kernel, z_tb (n := 8) (by decide +kernel) (by decide +kernel), z_tb (n := 835) (by decide +kernel) (by decide +kernel), by decide +kernel, by decide +kernel, by decide +kernel, by decide⟩, z_tb (n := 833) (by decide +kernel) (by decide +kernel), z_tb (n := 834) (by decide +kernel) (by decide +kernel)⟩
def iX7_looks : z_MI := (yX7_looks, cX7_looks, 4, none, 2)
theorem mX7_looks : z_MV iX7_looks 1 := ⟨⟨by decide +kernel, z_tb (n := 8) (by decide +kernel) (by decide +kernel), z_tb (n := 807) (by decide +kernel) (by decide +kernel), by decide +kernel, by decide +kernel, by decide +kernel, by decide⟩, z_tb (n := 806) (by decide +kernel) (by decide +kernel), z_in (List.mem_append_left _ (List.mem_of_getElem? (i := 26) (by decide +kernel))) (by decide +kernel)⟩
def iX7_mark : z_MI := (yX7_mark, cX7_mark, 4, (some .int), 2)
theorem mX7_mark : z_MV iX7_mark 2 := ⟨⟨by decide +kernel, z_tb (n := 8) (by decide +kernel) (by decide +kernel), z_tb (n := 859) (by decide +kernel) (by decide +kernel), by decide +kernel, by decide +kernel, by decide +kernel, by decide⟩, z_tb (n := 857) (by decide +kernel) (by decide +kernel), z_tb (n := 858) (by decide +kernel) (by decide +kernel)⟩
def iX7_marks : z_MI := (yX7_marks, cX7_marks, 6, (some .int), 7)
theorem mX7_marks : z_MV iX7_marks 1 := ⟨⟨by decide +kernel, z_tb (n := 8) (by decide +kernel) (by decide +kernel), z_tb (n := 863) (by decide +kernel) (by decide +kernel), by decide +kernel, by decide +kernel, by decide +kernel, by decide⟩, z_tb (n := 861) (by decide +kernel) (by decide +kernel), z_tb (n := 862) (by decide +kernel) (by decide +kernel)⟩
def iX7_most : z_MI := (yX7_most, cX7_most, 1, (some .int), 0)
theorem mX7_most : z_MS iX7_most 1 := ⟨⟨by decide +kernel, z_tb (n := 8) (by decide +kernel) (by decide +kernel), z_tb (n := 774) (by decide +kernel) (by decide +kernel), by decide +kernel, by decide +kernel, by decide +kernel, by decide⟩, z_tb (n := 773) (by decide +kernel) (by decide +kernel)⟩
def iX7_opensIn : z_MI := (yX7_opensIn, cX7_opensIn, 4, (some .int), 1)
theorem mX7_opensIn : z_MV iX7_opensIn 1 := ⟨⟨by decide +kernel, z_tb (n := 8) (by decide +kernel) (by decide +kernel), z_tb (n := 831) (by decide +kernel) (by decide +kernel), by decide +kernel, by decide +kernel, by decide +kernel, by decide⟩, z_tb (n := 830) (by decide +kernel) (by decide +kernel), z_in (List.mem_append_left _ (List.mem_of_getElem? (i := 29) (by decide +kernel))) (by decide +kernel)⟩
def iX7_own : z_MI := (yX7_own, cX7_own, 3, (some .int), 2)
theorem mX7_own : z_MV iX7_own 2 := ⟨⟨by decide +kernel, z_tb (n := 8) (by decide +kernel) (by decide +kernel), z_tb (n := 918) (by decide +kernel) (by decide +kernel), by decide +kernel, by decide +kernel, by decide +kernel, by decide⟩, z_tb (n := 916) (by decide +kernel) (by decide +kernel), z_tb (n := 917) (by decide +kernel) (by decide +kernel)⟩
def iX7_penaltyNow : z_MI := (yX7_penaltyNow, cX7_penaltyNow, 4, (some .int), 1)
theorem mX7_penaltyNow : z_MV iX7_penaltyNow 2 := ⟨⟨by decide +kernel, z_tb (n := 8) (by decide +kernel) (by decide +kernel), z_tb (n := 803) (by decide +kernel) (by decide +kernel), by decide +kernel, by decide +kernel, by decide +kernel, by decide⟩, z_tb (n := 802) (by decide +kernel) (by decide +kernel), z_in (List.mem_append_left _ (List.mem_of_getElem? (i := 25) (by decide +kernel))) (by decide +kernel)⟩
def iX7_rule : z_MI := (yX7_rule, cX7_rule, 4, (some .int), 1)
theorem mX7_rule : z_MV iX7_rule 2 := ⟨⟨by decide +kernel, z_tb (n := 8) (by decide +kernel) (by decide +kernel), z_tb (n := 768) (by decide +kernel) (by decide +kernel), by decide +kernel, by decide +kernel, by decide +kernel, by decide⟩, z_tb (n := 766) (by decide +kernel) (by decide +kernel), z_tb (n := 767) (by decide +kernel) (by decide +kernel)⟩
def iX7_takesMarks : z_MI := (yX7_takesMarks, cX7_takesMarks, 1, none, 0)
theorem mX7_takesMarks : z_MV iX7_takesMarks 0 := ⟨⟨by decide +kernel, z_tb (n := 8) (by decide +kernel) (by decide +kernel), z_tb (n := 632) (by decide +kernel) (by decide +kernel), by decide +kernel, by decide +kernel, by decide +kernel, by decide⟩, z_tb (n := 631) (by decide +kernel) (by decide +kernel), z_in (List.mem_append_left _ (List.mem_of_getElem? (i := 17) (by decide +kernel))) (by decide +kernel)⟩
def iX7_tick : z_MI := (yX7_tick, cX7_tick, 3, (some .int), 4)
theorem mX7_tick : z_MV iX7_tick 1 := ⟨⟨by decide +kernel, z_tb (n := 8) (by decide +kernel) (by decide +kernel), z_tb (n := 815) (by decide +kernel) (by decide +kernel), by decide +kernel, by decide +kernel, by decide +kernel, by decide⟩, z_tb (n := 813) (by decide +kernel) (by decide +kernel), z_tb (n := 814) (by decide +kernel) (by decide +kernel)⟩
def iX7_ticks : z_MI := (yX7_ticks, cX7_ticks, 3, none, 3)
theorem mX7_ticks : z_MV iX7_ticks 1 := ⟨⟨by decide +kernel, z_tb (n := 8) (by decide +kernel) (by decide +kernel), z_tb (n := 819) (by decide +kernel) (by decide +kernel), by decide +kernel, by decide +kernel, by decide +kernel, by decide⟩, z_tb (n := 818) (by decide +kernel) (by decide +kernel), z_in (List.mem_append_left _ (List.mem_of_getElem? (i := 27) (by decide +kernel))) (by decide +kernel)⟩
def iX7_triesMarks : z_MI := (yX7_triesMarks, cX7_triesMarks, 6, none, 6)
theorem mX7_triesMarks : z_MV iX7_triesMarks 1 := ⟨⟨by decide +kernel, z_tb (n := 8) (by decide +kernel) (by decide +kernel), z_tb (n := 867) (by decide +kernel) (by decide +kernel), by decide +kernel, by decide +kernel, by decide +kernel, by decide⟩, z_tb (n := 866) (by decide +kernel) (by decide +kernel), z_in (List.mem_append_left _ (List.mem_of_getElem? (i := 33) (by decide +kernel))) (by decide +kernel)⟩
def iX7_way : z_MI := (yX7_way, cX7_way, 4, (some .int), 2)
theorem mX7_way : z_MV iX7_way 3 := ⟨⟨by decide +kernel, z_tb (n := 8) (by decide +kernel) (by decide +kernel), z_tb (n := 887) (by decide +kernel) (by decide +kernel), by decide +kernel, by decide +kernel, by decide +kernel, by decide⟩, z_tb (n := 885) (by decide +kernel) (by decide +kernel), z_tb (n := 886) (by decide +kernel) (by decide +kernel)⟩
def iX7_whoForbids : z_MI := (yX7_whoForbids, cX7_whoForbids, 3, (some .int), 2)
theorem mX7_whoForbids : z_MV iX7_whoForbids 0 := ⟨⟨by decide +kernel, z_tb (n := 8) (by decide +kernel) (by decide +kernel), z_tb (n := 879) (by decide +kernel) (by decide +kernel), by decide +kernel, by decide +kernel, by decide +kernel, by decide⟩, z_tb (n := 878) (by decide +kernel) (by decide +kernel), z_in (List.mem_append_left _ (List.mem_of_getElem? (i := 36) (by decide +kernel))) (by decide +kernel)⟩
theorem l_X6_59 : Cond.methodLink RX6 59 yX4_isFull ∈ z_tbl := z_tb (n := 224) (by decide +kernel) (by decide +kernel)
theorem l_X6_63 : Cond.methodLink RX6 63 yX4_enter ∈ z_tbl := z_tb (n := 228) (by decide +kernel) (by decide +kernel)
theorem l_X6_67 : Cond.methodLink RX6 67 yX0_join ∈ z_tbl := z_tb (n := 232) (by decide +kernel) (by decide +kernel)
theorem l_X6_71 : Cond.methodLink RX6 71 yX5_admits ∈ z_tbl := z_tb (n := 252) (by decide +kernel) (by decide +kernel)
theorem l_X6_75 : Cond.methodLink RX6 75 yX5_get ∈ z_tbl := z_tb (n := 260) (by decide +kernel) (by decide +kernel)
theorem l_X6_79 : Cond.methodLink RX6 79 yX0_restPenalties ∈ z_tbl := z_tb (n := 264) (by decide +kernel) (by decide +kernel)
theorem l_X6_82 : Cond.methodLink RX6 82 yX5_put ∈ z_tbl := z_tb (n := 279) (by decide +kernel) (by decide +kernel)
theorem l_X6_87 : Cond.methodLink RX6 87 yX5_fade ∈ z_tbl := z_tb (n := 288) (by decide +kernel) (by decide +kernel)
theorem l_X6_90 : Cond.methodLink RX6 90 yX4_has ∈ z_tbl := z_tb (n := 293) (by decide +kernel) (by decide +kernel)
theorem l_X6_94 : Cond.methodLink RX6 94 yX0_isUp ∈ z_tbl := z_tb (n := 297) (by decide +kernel) (by decide +kernel)
theorem l_X6_97 : Cond.methodLink RX6 97 yX6_penaltyAfter ∈ z_tbl := z_tb (n := 301) (by decide +kernel) (by decide +kernel)
theorem l_X6_100 : Cond.methodLink RX6 100 yX6_happen ∈ z_tbl := z_tb (n := 305) (by decide +kernel) (by decide +kernel)
theorem l_X6_103 : Cond.methodLink RX6 103 yX0_penaltyOf ∈ z_tbl := z_tb (n := 363) (by decide +kernel) (by decide +kernel)
theorem l_X6_106 : Cond.methodLink RX6 106 yX1_isFull ∈ z_tbl := z_tb (n := 309) (by decide +kernel) (by decide +kernel)
theorem l_X6_107 : Cond.methodLink RX6 107 yX1_write ∈ z_tbl := z_tb (n := 313) (by decide +kernel) (by decide +kernel)
theorem l_X6_111 : Cond.methodLink RX6 111 yX0_take ∈ z_tbl := z_tb (n := 317) (by decide +kernel) (by decide +kernel)
theorem l_X6_114 : Cond.methodLink RX6 114 yX0_settleAll ∈ z_tbl := z_tb (n := 375) (by decide +kernel) (by decide +kernel)
theorem l_X6_117 : Cond.methodLink RX6 117 yX6_asNumber ∈ z_tbl := z_tb (n := 383) (by decide +kernel) (by decide +kernel)
theorem l_X6_121 : Cond.methodLink RX6 121 yX0_isShut ∈ z_tbl := z_tb (n := 386) (by decide +kernel) (by decide +kernel)
theorem l_X6_124 : Cond.methodLink RX6 124 yX0_isSeen ∈ z_tbl := z_tb (n := 387) (by decide +kernel) (by decide +kernel)
theorem l_X6_127 : Cond.methodLink RX6 127 yX0_flipsOf ∈ z_tbl := z_tb (n := 388) (by decide +kernel) (by decide +kernel)
theorem l_X6_130 : Cond.methodLink RX6 130 yX0_lostOf ∈ z_tbl := z_tb (n := 392) (by decide +kernel) (by decide +kernel)
theorem l_X6_133 : Cond.methodLink RX6 133 yX4_kindOf ∈ z_tbl := z_tb (n := 396) (by decide +kernel) (by decide +kernel)
theorem l_X6_136 : Cond.methodLink RX6 136 yX0_ticksTillOpen ∈ z_tbl := z_tb (n := 397) (by decide +kernel) (by decide +kernel)
theorem l_X6_139 : Cond.methodLink RX6 139 yX4_markOf ∈ z_tbl := z_tb (n := 401) (by decide +kernel) (by decide +kernel)
theorem l_X6_142 : Cond.methodLink RX6 142 yX5_ticksTillBelow ∈ z_tbl := z_tb (n := 409) (by decide +kernel) (by decide +kernel)
theorem l_X6_145 : Cond.methodLink RX6 145 yX1_size ∈ z_tbl := z_tb (n := 414) (by decide +kernel) (by decide +kernel)
theorem l_X6_149 : Cond.methodLink RX6 149 yX1_lineAt ∈ z_tbl := z_tb (n := 418) (by decide +kernel) (by decide +kernel)
theorem l_X6_152 : Cond.methodLink RX6 152 yX1_whatAt ∈ z_tbl := z_tb (n := 422) (by decide +kernel) (by decide +kernel)
theorem l_X6_155 : Cond.methodLink RX6 155 yX1_tickAt ∈ z_tbl := z_tb (n := 426) (by decide +kernel) (by decide +kernel)
theorem l_X6_158 : Cond.methodLink RX6 158 yX5_areMarks ∈ z_tbl := z_tb (n := 434) (by decide +kernel) (by decide +kernel)
theorem l_X6_161 : Cond.methodLink RX6 161 yX3_goOver ∈ z_tbl := z_tb (n := 437) (by decide +kernel) (by decide +kernel)
theorem l_X6_164 : Cond.methodLink RX6 164 yX3_flipsOf ∈ z_tbl := z_tb (n := 455) (by decide +kernel) (by decide +kernel)
theorem l_X6_165 : Cond.methodLink RX6 165 yX3_lostOf ∈ z_tbl := z_tb (n := 460) (by decide +kernel) (by decide +kernel)
theorem l_X6_166 : Cond.methodLink RX6 166 yX4_putMark ∈ z_tbl := z_tb (n := 469) (by decide +kernel) (by decide +kernel)
theorem l_X6_169 : Cond.methodLink RX6 169 yX4_markedLines ∈ z_tbl := z_tb (n := 477) (by decide +kernel) (by decide +kernel)
theorem l_X6_172 : Cond.methodLink RX6 172 yX3_findMarks ∈ z_tbl := z_tb (n := 481) (by decide +kernel) (by decide +kernel)
theorem l_X6_175 : Cond.methodLink RX6 175 yX2_isHouse ∈ z_tbl := z_tb (n := 517) (by decide +kernel) (by decide +kernel)
theorem l_X6_178 : Cond.methodLink RX6 178 yX2_hasWay ∈ z_tbl := z_tb (n := 520) (by decide +kernel) (by decide +kernel)
theorem l_X6_181 : Cond.methodLink RX6 181 yX2_putWay ∈ z_tbl := z_tb (n := 527) (by decide +kernel) (by decide +kernel)
theorem l_X6_185 : Cond.methodLink RX6 185 yX2_putBound ∈ z_tbl := z_tb (n := 535) (by decide +kernel) (by decide +kernel)
theorem l_X6_188 : Cond.methodLink RX6 188 yX2_startFlood ∈ z_tbl := z_tb (n := 543) (by decide +kernel) (by decide +kernel)
theorem l_X6_192 : Cond.methodLink RX6 192 yX2_hasLetter ∈ z_tbl := z_tb (n := 570) (by decide +kernel) (by decide +kernel)
theorem l_X6_195 : Cond.methodLink RX6 195 yX2_takeLetter ∈ z_tbl := z_tb (n := 574) (by decide +kernel) (by decide +kernel)
theorem l_X6_198 : Cond.methodLink RX6 198 yX2_ownAt ∈ z_tbl := z_tb (n := 583) (by decide +kernel) (by decide +kernel)
theorem l_X6_201 : Cond.methodLink RX6 201 yX2_echoesOf ∈ z_tbl := z_tb (n := 591) (by decide +kernel) (by decide +kernel)
theorem l_X6_204 : Cond.methodLink RX6 204 yX4_size ∈ z_tbl := z_tb (n := 599) (by decide +kernel) (by decide +kernel)
theorem l_X6_205 : Cond.methodLink RX6 205 yX0_shutLines ∈ z_tbl := z_tb (n := 600) (by decide +kernel) (by decide +kernel)
theorem l_X6_208 : Cond.methodLink RX6 208 yX2_ways ∈ z_tbl := z_tb (n := 604) (by decide +kernel) (by decide +kernel)
theorem l_X6_211 : Cond.methodLink RX6 211 yX2_lettersOfAll ∈ z_tbl := z_tb (n := 608) (by decide +kernel) (by decide +kernel)
theorem l_X6_218 : Cond.methodLink RX6 218 yX6_count ∈ z_tbl := z_tb (n := 618) (by decide +kernel) (by decide +kernel)
theorem l_X6_221 : Cond.methodLink RX6 221 yX6_about ∈ z_tbl := z_tb (n := 619) (by decide +kernel) (by decide +kernel)
theorem l_X6_224 : Cond.methodLink RX6 224 yX6_event ∈ z_tbl := z_tb (n := 620) (by decide +kernel) (by decide +kernel)
theorem l_X0_50 : Cond.methodLink RX0 50 yX0_restart ∈ z_tbl := z_tb (n := 83) (by decide +kernel) (by decide +kernel)
theorem l_X0_58 : Cond.methodLink RX0 58 yX0_isSeen ∈ z_tbl := z_tb (n := 236) (by decide +kernel) (by decide +kernel)
theorem l_X0_62 : Cond.methodLink RX0 62 yX4_slotOf ∈ z_tbl := z_tb (n := 244) (by decide +kernel) (by decide +kernel)
theorem l_X0_66 : Cond.methodLink RX0 66 yX0_isShut ∈ z_tbl := z_tb (n := 240) (by decide +kernel) (by decide +kernel)
theorem l_X0_69 : Cond.methodLink RX0 69 yX4_size ∈ z_tbl := z_tb (n := 347) (by decide +kernel) (by decide +kernel)
theorem l_X0_73 : Cond.methodLink RX0 73 yX0_penaltyAt ∈ z_tbl := z_tb (n := 268) (by decide +kernel) (by decide +kernel)
theorem l_X0_77 : Cond.methodLink RX0 77 yX5_fade ∈ z_tbl := z_tb (n := 272) (by decide +kernel) (by decide +kernel)
theorem l_X0_82 : Cond.methodLink RX0 82 yX0_openingTick ∈ z_tbl := z_tb (n := 325) (by decide +kernel) (by decide +kernel)
theorem l_X0_85 : Cond.methodLink RX0 85 yX5_get ∈ z_tbl := z_tb (n := 329) (by decide +kernel) (by decide +kernel)
theorem l_X0_88 : Cond.methodLink RX0 88 yX5_ticksTillBelow ∈ z_tbl := z_tb (n := 330) (by decide +kernel) (by decide +kernel)
theorem l_X0_91 : Cond.methodLink RX0 91 Lib.Math.max.name ∈ z_tbl := z_tb (n := 337) (by decide +kernel) (by decide +kernel)
theorem l_X0_96 : Cond.methodLink RX0 96 yX0_settle ∈ z_tbl := z_tb (n := 321) (by decide +kernel) (by decide +kernel)
theorem l_X0_100 : Cond.methodLink RX0 100 Lib.Math.min.name ∈ z_tbl := z_tb (n := 338) (by decide +kernel) (by decide +kernel)
theorem l_X0_103 : Cond.methodLink RX0 103 yX0_firstOf ∈ z_tbl := z_tb (n := 339) (by decide +kernel) (by decide +kernel)
theorem l_X0_106 : Cond.methodLink RX0 106 yX0_endOf ∈ z_tbl := z_tb (n := 343) (by decide +kernel) (by decide +kernel)
theorem l_X0_109 : Cond.methodLink RX0 109 yX0_lookAt ∈ z_tbl := z_tb (n := 351) (by decide +kernel) (by decide +kernel)
theorem l_X0_113 : Cond.methodLink RX0 113 yX0_weightOf ∈ z_tbl := z_tb (n := 355) (by decide +kernel) (by decide +kernel)
theorem l_X0_117 : Cond.methodLink RX0 117 yX4_kindOf ∈ z_tbl := z_tb (n := 359) (by decide +kernel) (by decide +kernel)
theorem l_X2_48 : Cond.methodLink RX2 48 yX2_place ∈ z_tbl := z_tb (n := 524) (by decide +kernel) (by decide +kernel)
theorem l_X2_52 : Cond.methodLink RX2 52 yX2_findOwn ∈ z_tbl := z_tb (n := 547) (by decide +kernel) (by decide +kernel)
theorem l_X2_56 : Cond.methodLink RX2 56 yX2_hasLetter ∈ z_tbl := z_tb (n := 578) (by decide +kernel) (by decide +kernel)
theorem l_X2_60 : Cond.methodLink RX2 60 yX2_goalRow ∈ z_tbl := z_tb (n := 551) (by decide +kernel) (by decide +kernel)
theorem l_X2_64 : Cond.methodLink RX2 64 yX2_shortestRow ∈ z_tbl := z_tb (n := 555) (by decide +kernel) (by decide +kernel)
theorem l_X2_68 : Cond.methodLink RX2 68 yX2_send ∈ z_tbl := z_tb (n := 565) (by decide +kernel) (by decide +kernel)
theorem l_X2_72 : Cond.methodLink RX2 72 yX2_holds ∈ z_tbl := z_tb (n := 559) (by decide +kernel) (by decide +kernel)
theorem l_X2_76 : Cond.methodLink RX2 76 yX2_lengthOf ∈ z_tbl := z_tb (n := 562) (by decide +kernel) (by decide +kernel)
theorem l_X2_79 : Cond.methodLink RX2 79 yX2_hasWay ∈ z_tbl := z_tb (n := 569) (by decide +kernel) (by decide +kernel)
theorem l_X3_46 : Cond.methodLink RX3 46 yX5_copyWithMarks ∈ z_tbl := z_tb (n := 441) (by decide +kernel) (by decide +kernel)
theorem l_X3_50 : Cond.methodLink RX3 50 yX0_restart ∈ z_tbl := z_tb (n := 448) (by decide +kernel) (by decide +kernel)
theorem l_X3_53 : Cond.methodLink RX3 53 yX1_size ∈ z_tbl := z_tb (n := 449) (by decide +kernel) (by decide +kernel)
theorem l_X3_59 : Cond.methodLink RX3 59 yX1_lineAt ∈ z_tbl := z_tb (n := 450) (by decide +kernel) (by decide +kernel)
theorem l_X3_63 : Cond.methodLink RX3 63 yX1_whatAt ∈ z_tbl := z_tb (n := 451) (by decide +kernel) (by decide +kernel)
theorem l_X3_66 : Cond.methodLink RX3 66 yX1_tickAt ∈ z_tbl := z_tb (n := 452) (by decide +kernel) (by decide +kernel)
theorem l_X3_69 : Cond.methodLink RX3 69 yX0_take ∈ z_tbl := z_tb (n := 453) (by decide +kernel) (by decide +kernel)
theorem l_X3_73 : Cond.methodLink RX3 73 yX0_settleAll ∈ z_tbl := z_tb (n := 454) (by decide +kernel) (by decide +kernel)
theorem l_X3_77 : Cond.methodLink RX3 77 yX0_flipsOf ∈ z_tbl := z_tb (n := 459) (by decide +kernel) (by decide +kernel)
theorem l_X3_80 : Cond.methodLink RX3 80 yX0_lostOf ∈ z_tbl := z_tb (n := 464) (by decide +kernel) (by decide +kernel)
theorem l_X3_83 : Cond.methodLink RX3 83 yX4_markedLines ∈ z_tbl := z_tb (n := 485) (by decide +kernel) (by decide +kernel)
theorem l_X3_88 : Cond.methodLink RX3 88 yX3_goOver ∈ z_tbl := z_tb (n := 486) (by decide +kernel) (by decide +kernel)
theorem l_X3_91 : Cond.methodLink RX3 91 yX3_metLines ∈ z_tbl := z_tb (n := 487) (by decide +kernel) (by decide +kernel)
theorem l_X3_95 : Cond.methodLink RX3 95 yX3_keep ∈ z_tbl := z_tb (n := 494) (by decide +kernel) (by decide +kernel)
theorem l_X3_98 : Cond.methodLink RX3 98 yX0_wasEverShut ∈ z_tbl := z_tb (n := 498) (by decide +kernel) (by decide +kernel)
theorem l_X3_102 : Cond.methodLink RX3 102 yX3_conflict ∈ z_tbl := z_tb (n := 502) (by decide +kernel) (by decide +kernel)
theorem l_X3_105 : Cond.methodLink RX3 105 yX4_size ∈ z_tbl := z_tb (n := 491) (by decide +kernel) (by decide +kernel)
theorem l_X3_106 : Cond.methodLink RX3 106 yX4_markOf ∈ z_tbl := z_tb (n := 492) (by decide +kernel) (by decide +kernel)
theorem l_X3_109 : Cond.methodLink RX3 109 yX3_canMeet ∈ z_tbl := z_tb (n := 506) (by decide +kernel) (by decide +kernel)
theorem l_X3_113 : Cond.methodLink RX3 113 yX3_told ∈ z_tbl := z_tb (n := 510) (by decide +kernel) (by decide +kernel)
theorem l_X5_27 : Cond.methodLink RX5 27 arraycopyName ∈ z_tbl := z_tb (n := 445) (by decide +kernel) (by decide +kernel)
theorem l_X5_33 : Cond.methodLink RX5 33 Lib.Math.max.name ∈ z_tbl := z_tb (n := 276) (by decide +kernel) (by decide +kernel)
theorem l_X5_39 : Cond.methodLink RX5 39 Lib.Math.min.name ∈ z_tbl := z_tb (n := 334) (by decide +kernel) (by decide +kernel)
theorem l_X7_105 : Cond.methodLink RX7 105 yX7_takesMarks ∈ z_tbl := z_tb (n := 629) (by decide +kernel) (by decide +kernel)
theorem l_X7_108 : Cond.methodLink RX7 108 yX7_bearer ∈ z_tbl := z_tb (n := 761) (by decide +kernel) (by decide +kernel)
theorem l_X7_112 : Cond.methodLink RX7 112 yX7_fades ∈ z_tbl := z_tb (n := 776) (by decide +kernel) (by decide +kernel)
theorem l_X7_119 : Cond.methodLink RX7 119 yX7_isSeen ∈ z_tbl := z_tb (n := 757) (by decide +kernel) (by decide +kernel)
theorem l_X7_124 : Cond.methodLink RX7 124 yX7_in ∈ z_tbl := z_tb (n := 749) (by decide +kernel) (by decide +kernel)
theorem l_X7_128 : Cond.methodLink RX7 128 yX7_begins ∈ z_tbl := z_tb (n := 752) (by decide +kernel) (by decide +kernel)
theorem l_X7_133 : Cond.methodLink RX7 133 yX7_least ∈ z_tbl := z_tb (n := 769) (by decide +kernel) (by decide +kernel)
theorem l_X7_137 : Cond.methodLink RX7 137 yX7_most ∈ z_tbl := z_tb (n := 772) (by decide +kernel) (by decide +kernel)
theorem l_X7_140 : Cond.methodLink RX7 140 yX7_penaltyNow ∈ z_tbl := z_tb (n := 800) (by decide +kernel) (by decide +kernel)
theorem l_X7_143 : Cond.methodLink RX7 143 yX7_looks ∈ z_tbl := z_tb (n := 804) (by decide +kernel) (by decide +kernel)
theorem l_X7_150 : Cond.methodLink RX7 150 yX7_happens ∈ z_tbl := z_tb (n := 796) (by decide +kernel) (by decide +kernel)
theorem l_X7_154 : Cond.methodLink RX7 154 yX7_isLine ∈ z_tbl := z_tb (n := 788) (by decide +kernel) (by decide +kernel)
theorem l_X7_158 : Cond.methodLink RX7 158 yX7_logs ∈ z_tbl := z_tb (n := 792) (by decide +kernel) (by decide +kernel)
theorem l_X7_161 : Cond.methodLink RX7 161 yX7_ticks ∈ z_tbl := z_tb (n := 816) (by decide +kernel) (by decide +kernel)
theorem l_X7_164 : Cond.methodLink RX7 164 yX7_opensIn ∈ z_tbl := z_tb (n := 828) (by decide +kernel) (by decide +kernel)
theorem l_X7_167 : Cond.methodLink RX7 167 yX7_aboutOf ∈ z_tbl := z_tb (n := 824) (by decide +kernel) (by decide +kernel)
theorem l_X7_170 : Cond.methodLink RX7 170 yX7_isSomeShut ∈ z_tbl := z_tb (n := 852) (by decide +kernel) (by decide +kernel)
theorem l_X7_174 : Cond.methodLink RX7 174 yX7_goesTo ∈ z_tbl := z_tb (n := 848) (by decide +kernel) (by decide +kernel)
theorem l_X7_177 : Cond.methodLink RX7 177 yX7_goesOver ∈ z_tbl := z_tb (n := 844) (by decide +kernel) (by decide +kernel)
theorem l_X7_180 : Cond.methodLink RX7 180 yX7_isRightBy ∈ z_tbl := z_tb (n := 872) (by decide +kernel) (by decide +kernel)
theorem l_X7_183 : Cond.methodLink RX7 183 yX7_common ∈ z_tbl := z_tb (n := 880) (by decide +kernel) (by decide +kernel)
theorem l_X7_186 : Cond.methodLink RX7 186 yX7_triesMarks ∈ z_tbl := z_tb (n := 864) (by decide +kernel) (by decide +kernel)
theorem l_X7_189 : Cond.methodLink RX7 189 yX7_firstOfAll ∈ z_tbl := z_tb (n := 868) (by decide +kernel) (by decide +kernel)
theorem l_X7_193 : Cond.methodLink RX7 193 yX7_whoForbids ∈ z_tbl := z_tb (n := 876) (by decide +kernel) (by decide +kernel)
theorem l_X7_196 : Cond.methodLink RX7 196 yX7_isHouse ∈ z_tbl := z_tb (n := 888) (by decide +kernel) (by decide +kernel)
theorem l_X7_202 : Cond.methodLink RX7 202 yX7_holds ∈ z_tbl := z_tb (n := 907) (by decide +kernel) (by decide +kernel)
theorem l_X7_205 : Cond.methodLink RX7 205 yX7_findOwn ∈ z_tbl := z_tb (n := 903) (by decide +kernel) (by decide +kernel)
theorem l_X7_216 : Cond.methodLink RX7 216 yX7_findsAnew ∈ z_tbl := z_tb (n := 899) (by decide +kernel) (by decide +kernel)
theorem l_X7_219 : Cond.methodLink RX7 219 yX7_comes ∈ z_tbl := z_tb (n := 911) (by decide +kernel) (by decide +kernel)
theorem l_X7_229 : Cond.methodLink RX7 229 yX7_count ∈ z_tbl := z_tb (n := 933) (by decide +kernel) (by decide +kernel)
theorem k_X6_86 : Cond.constant RX6 86 (nI 100000) ∈ z_tbl := z_tb (n := 287) (by decide +kernel) (by decide +kernel)
theorem k_X6_214 : Cond.constantLong RX6 214 (137) ∈ z_tbl := z_tb (n := 616) (by decide +kernel) (by decide +kernel)
theorem k_X6_216 : Cond.constantLong RX6 216 (31) ∈ z_tbl := z_tb (n := 617) (by decide +kernel) (by decide +kernel)
theorem k_X6_227 : Cond.constantLong RX6 227 (9) ∈ z_tbl := z_tb (n := 621) (by decide +kernel) (by decide +kernel)
theorem k_X0_57 : Cond.constant RX0 57 (-1000000) ∈ z_tbl := z_tb (n := 87) (by decide +kernel) (by decide +kernel)
theorem k_X3_94 : Cond.constant RX3 94 (nI 100000) ∈ z_tbl := z_tb (n := 493) (by decide +kernel) (by decide +kernel)
theorem k_X7_101 : Cond.constant RX7 101 (nI 41000) ∈ z_tbl := z_tb (n := 628) (by decide +kernel) (by decide +kernel)
theorem k_X7_123 : Cond.constant RX7 123 (-100000) ∈ z_tbl := z_tb (n := 756) (by decide +kernel) (by decide +kernel)
theorem k_X7_132 : Cond.constant RX7 132 (nI 100000) ∈ z_tbl := z_tb (n := 775) (by decide +kernel) (by decide +kernel)
theorem k_X7_225 : Cond.constantLong RX7 225 (137) ∈ z_tbl := z_tb (n := 931) (by decide +kernel) (by decide +kernel)
theorem k_X7_227 : Cond.constantLong RX7 227 (31) ∈ z_tbl := z_tb (n := 932) (by decide +kernel) (by decide +kernel)
theorem k_X7_232 : Cond.constantLong RX7 232 (9) ∈ z_tbl := z_tb (n := 934) (by decide +kernel) (by decide +kernel)
end
section
/-! the cells of class and reference -/
def layX : z_Lay := (42, fun c => ([.inr (6, [some 1, some 3, some 7, some 11, some 21, some 35, none]), .inr (5, [some 2]), .inl (false, 8), .inr (4, [some 4, some 5, some 6, none]), .inl (false, 12), .inl (false, 12), .inl (false, 12), .inr (1, [some 8, some 9, some 10, none]), .inl (false, 300), .inl (false, 300), .inl (false, 300), .inr (0, [some 1, some 3, some 12, some 13, some 14, some 15, some 16, some 17, some 18, some 19, some 20, none]), .inl (false, 16), .inl (false, 16), .inl (false, 16), .inl (true, 16), .inl (true, 12), .inl (true, 12), .inl (false, 12), .inl (false, 12), .inl (false, 12), .inr (3, [some 1, some 3, some 7, some 22, some 24, some 34, none]), .inr (5, [some 23]), .inl (false, 8), .inr (0, [some 22, some 3, some 25, some 26, some 27, some 28, some 29, some 30, some 31, some 32, some 33, none]), .inl (false, 16), .inl (false, 16), .inl (false, 16), .inl (true, 16), .inl (true, 12), .inl (true, 12), .inl (false, 12), .inl (false, 12), .inl (false, 12), .inl (false, 420), .inr (2, [some 36, some 37, some 38, some 39, some 40, some 41, none, none, none, none, none]), .inl (true, 25), .inl (false, 25), .inl (false, 25), .inl (false, 5), .inl (false, 5), .inl (false, 2000)] : List z_Cel).getD c (.inl (false, 0)))
def layM : z_Lay := (32, fun c => ([.inr (7, [some 1, none, some 2, some 3, some 4, some 5, some 6, some 7, some 8, some 9, some 10, some 11, some 12, some 13, some 14, some 15, none, some 16, some 17, some 18, some 19, some 20, some 21, some 22, some 23, some 24, some 25, some 26, none, some 27, none, none, some 28, some 29, some 30, some 31, none]), .inl (false, 8), .inl (false, 12), .inl (false, 12), .inl (false, 12), .inl (false, 2), .inl (false, 2), .inl (false, 2), .inl (false, 32), .inl (false, 32), .inl (true, 32), .inl (true, 24), .inl (true, 24), .inl (false, 24), .inl (false, 24), .inl (false, 24), .inl (false, 300), .inl (false, 300), .inl (false, 300), .inl (true, 5040), .inl (true, 25), .inl (false, 25), .inl (false, 125), .inl (false, 25), .inl (false, 25), .inl (false, 5), .inl (false, 5), .inl (false, 5), .inl (false, 8200), .inl (false, 8200), .inl (false, 8200), .inl (false, 41000)] : List z_Cel).getD c (.inl (false, 0)))
theorem z_cV0 {lay : z_Lay} {mi mj : z_MI} {pc : Nat} {L L' : z_Loc} {st : List Value} {σ : z_Sto} {Φ Ψ : z_Post} {index : Nat} {b ci : Nat} {fs : List (Option Nat)} {T : u_T} {N : Nat} (hM : z_MV mj 0) (hlk : Cond.methodLink mi.1.cls index mj.1 ∈ z_tbl) (hdp : mj.2.2.2.2 < mi.2.2.2.2) (hd : decode mi.2.1 pc = .ok (.invokevirtual index, 3)) (hb : b < lay.1) (hl : lay.2 b = .inr (ci, fs)) (hcl : vwCl[ci]? = some (mj.1.cls, T, N)) (hnn : 1 ≤ mj.2.2.1) (hst : (st.map (fun v => v.category)).sum ≤ 8) (hcal : z_R lay mj 0 L' [] σ Ψ) (hL' : L' = (.ref b :: []).map some ++ List.replicate (mj.2.2.1 - 1) none) (kk : ∀ r σ', Ψ r σ' → z_R lay mi (pc + 3) L (r.toList ++ st) σ' Φ)  : z_R lay mi pc L (.ref b :: st) σ Φ :=
  z_callV (As := []) hM hlk hdp hd hb hl hcl rfl (by simp [z_c1]) rfl hnn hst hcal hL' kk
theorem z_cV1 {lay : z_Lay} {mi mj : z_MI} {pc : Nat} {L L' : z_Loc} {st : List Value} {σ : z_Sto} {Φ Ψ : z_Post} {index : Nat} {a1 : Value} {b ci : Nat} {fs : List (Option Nat)} {T : u_T} {N : Nat} (hM : z_MV mj 1) (hlk : Cond.methodLink mi.1.cls index mj.1 ∈ z_tbl) (hdp : mj.2.2.2.2 < mi.2.2.2.2) (hd : decode mi.2.1 pc = .ok (.invokevirtual index, 3)) (hb : b < lay.1) (hl : lay.2 b = .inr (ci, fs)) (hcl : vwCl[ci]? = some (mj.1.cls, T, N)) (hnn : 2 ≤ mj.2.2.1) (hst : (st.map (fun v => v.category)).sum ≤ 8) (hcal : z_R lay mj 0 L' [] σ Ψ) (hL' : L' = (.ref b :: [a1]).map some ++ List.replicate (mj.2.2.1 - 2) none) (kk : ∀ r σ', Ψ r σ' → z_R lay mi (pc + 3) L (r.toList ++ st) σ' Φ) (ha1 : a1.category = 1 := by rfl) : z_R lay mi pc L (a1 :: .ref b :: st) σ Φ :=
  z_callV (As := [a1]) hM hlk hdp hd hb hl hcl rfl (by simp [z_c1, ha1]) rfl hnn hst hcal hL' kk
theorem z_cV2 {lay : z_Lay} {mi mj : z_MI} {pc : Nat} {L L' : z_Loc} {st : List Value} {σ : z_Sto} {Φ Ψ : z_Post} {index : Nat} {a1 a2 : Value} {b ci : Nat} {fs : List (Option Nat)} {T : u_T} {N : Nat} (hM : z_MV mj 2) (hlk : Cond.methodLink mi.1.cls index mj.1 ∈ z_tbl) (hdp : mj.2.2.2.2 < mi.2.2.2.2) (hd : decode mi.2.1 pc = .ok (.invokevirtual index, 3)) (hb : b < lay.1) (hl : lay.2 b = .inr (ci, fs)) (hcl : vwCl[ci]? = some (mj.1.cls, T, N)) (hnn : 3 ≤ mj.2.2.1) (hst : (st.map (fun v => v.category)).sum ≤ 8) (hcal : z_R lay mj 0 L' [] σ Ψ) (hL' : L' = (.ref b :: [a1, a2]).map some ++ List.replicate (mj.2.2.1 - 3) none) (kk : ∀ r σ', Ψ r σ' → z_R lay mi (pc + 3) L (r.toList ++ st) σ' Φ) (ha1 : a1.category = 1 := by rfl) (ha2 : a2.category = 1 := by rfl) : z_R lay mi pc L (a2 :: a1 :: .ref b :: st) σ Φ :=
  z_callV (As := [a1, a2]) hM hlk hdp hd hb hl hcl rfl (by simp [z_c1, ha1, ha2]) rfl hnn hst hcal hL' kk
theorem z_cV3 {lay : z_Lay} {mi mj : z_MI} {pc : Nat} {L L' : z_Loc} {st : List Value} {σ : z_Sto} {Φ Ψ : z_Post} {index : Nat} {a1 a2 a3 : Value} {b ci : Nat} {fs : List (Option Nat)} {T : u_T} {N : Nat} (hM : z_MV mj 3) (hlk : Cond.methodLink mi.1.cls index mj.1 ∈ z_tbl) (hdp : mj.2.2.2.2 < mi.2.2.2.2) (hd : decode mi.2.1 pc = .ok (.invokevirtual index, 3)) (hb : b < lay.1) (hl : lay.2 b = .inr (ci, fs)) (hcl : vwCl[ci]? = some (mj.1.cls, T, N)) (hnn : 4 ≤ mj.2.2.1) (hst : (st.map (fun v => v.category)).sum ≤ 8) (hcal : z_R lay mj 0 L' [] σ Ψ) (hL' : L' = (.ref b :: [a1, a2, a3]).map some ++ List.replicate (mj.2.2.1 - 4) none) (kk : ∀ r σ', Ψ r σ' → z_R lay mi (pc + 3) L (r.toList ++ st) σ' Φ) (ha1 : a1.category = 1 := by rfl) (ha2 : a2.category = 1 := by rfl) (ha3 : a3.category = 1 := by rfl) : z_R lay mi pc L (a3 :: a2 :: a1 :: .ref b :: st) σ Φ :=
  z_callV (As := [a1, a2, a3]) hM hlk hdp hd hb hl hcl rfl (by simp [z_c1, ha1, ha2, ha3]) rfl hnn hst hcal hL' kk
theorem z_cV4 {lay : z_Lay} {mi mj : z_MI} {pc : Nat} {L L' : z_Loc} {st : List Value} {σ : z_Sto} {Φ Ψ : z_Post} {index : Nat} {a1 a2 a3 a4 : Value} {b ci : Nat} {fs : List (Option Nat)} {T : u_T} {N : Nat} (hM : z_MV mj 4) (hlk : Cond.methodLink mi.1.cls index mj.1 ∈ z_tbl) (hdp : mj.2.2.2.2 < mi.2.2.2.2) (hd : decode mi.2.1 pc = .ok (.invokevirtual index, 3)) (hb : b < lay.1) (hl : lay.2 b = .inr (ci, fs)) (hcl : vwCl[ci]? = some (mj.1.cls, T, N)) (hnn : 5 ≤ mj.2.2.1) (hst : (st.map (fun v => v.category)).sum ≤ 8) (hcal : z_R lay mj 0 L' [] σ Ψ) (hL' : L' = (.ref b :: [a1, a2, a3, a4]).map some ++ List.replicate (mj.2.2.1 - 5) none) (kk : ∀ r σ', Ψ r σ' → z_R lay mi (pc + 3) L (r.toList ++ st) σ' Φ) (ha1 : a1.category = 1 := by rfl) (ha2 : a2.category = 1 := by rfl) (ha3 : a3.category = 1 := by rfl) (ha4 : a4.category = 1 := by rfl) : z_R lay mi pc L (a4 :: a3 :: a2 :: a1 :: .ref b :: st) σ Φ :=
  z_callV (As := [a1, a2, a3, a4]) hM hlk hdp hd hb hl hcl rfl (by simp [z_c1, ha1, ha2, ha3, ha4]) rfl hnn hst hcal hL' kk
theorem z_cS1 {lay : z_Lay} {mi mj : z_MI} {pc : Nat} {L L' : z_Loc} {st : List Value} {σ : z_Sto} {Φ Ψ : z_Post} {index : Nat} {a1 : Value} (hM : z_MS mj 1) (hlk : Cond.methodLink mi.1.cls index mj.1 ∈ z_tbl) (hdp : mj.2.2.2.2 < mi.2.2.2.2) (hd : decode mi.2.1 pc = .ok (.invokestatic index, 3)) (hnn : 1 ≤ mj.2.2.1) (hst : (st.map (fun v => v.category)).sum ≤ 8) (hcal : z_R lay mj 0 L' [] σ Ψ) (hL' : L' = [a1].map some ++ List.replicate (mj.2.2.1 - 1) none) (kk : ∀ r σ', Ψ r σ' → z_R lay mi (pc + 3) L (r.toList ++ st) σ' Φ) (ha1 : a1.category = 1 := by rfl) : z_R lay mi pc L (a1 :: st) σ Φ :=
  z_callS (As := [a1]) hM hlk hdp hd rfl (by simp [z_c1, ha1]) rfl hnn hst hcal hL' kk
theorem z_cS2 {lay : z_Lay} {mi mj : z_MI} {pc : Nat} {L L' : z_Loc} {st : List Value} {σ : z_Sto} {Φ Ψ : z_Post} {index : Nat} {a1 a2 : Value} (hM : z_MS mj 2) (hlk : Cond.methodLink mi.1.cls index mj.1 ∈ z_tbl) (hdp : mj.2.2.2.2 < mi.2.2.2.2) (hd : decode mi.2.1 pc = .ok (.invokestatic index, 3)) (hnn : 2 ≤ mj.2.2.1) (hst : (st.map (fun v => v.category)).sum ≤ 8) (hcal : z_R lay mj 0 L' [] σ Ψ) (hL' : L' = [a1, a2].map some ++ List.replicate (mj.2.2.1 - 2) none) (kk : ∀ r σ', Ψ r σ' → z_R lay mi (pc + 3) L (r.toList ++ st) σ' Φ) (ha1 : a1.category = 1 := by rfl) (ha2 : a2.category = 1 := by rfl) : z_R lay mi pc L (a2 :: a1 :: st) σ Φ :=
  z_callS (As := [a1, a2]) hM hlk hdp hd rfl (by simp [z_c1, ha1, ha2]) rfl hnn hst hcal hL' kk
theorem z_cS3 {lay : z_Lay} {mi mj : z_MI} {pc : Nat} {L L' : z_Loc} {st : List Value} {σ : z_Sto} {Φ Ψ : z_Post} {index : Nat} {a1 a2 a3 : Value} (hM : z_MS mj 3) (hlk : Cond.methodLink mi.1.cls index mj.1 ∈ z_tbl) (hdp : mj.2.2.2.2 < mi.2.2.2.2) (hd : decode mi.2.1 pc = .ok (.invokestatic index, 3)) (hnn : 3 ≤ mj.2.2.1) (hst : (st.map (fun v => v.category)).sum ≤ 8) (hcal : z_R lay mj 0 L' [] σ Ψ) (hL' : L' = [a1, a2, a3].map some ++ List.replicate (mj.2.2.1 - 3) none) (kk : ∀ r σ', Ψ r σ' → z_R lay mi (pc + 3) L (r.toList ++ st) σ' Φ) (ha1 : a1.category = 1 := by rfl) (ha2 : a2.category = 1 := by rfl) (ha3 : a3.category = 1 := by rfl) : z_R lay mi pc L (a3 :: a2 :: a1 :: st) σ Φ :=
  z_callS (As := [a1, a2, a3]) hM hlk hdp hd rfl (by simp [z_c1, ha1, ha2, ha3]) rfl hnn hst hcal hL' kk
end
section
theorem z_iincW {lay : z_Lay} {mi : z_MI} {pc : Nat} {L L' : z_Loc} {st : List Value} {σ : z_Sto} {Φ : z_Post} {i : Nat} {n : Int} {x : Int32} (hd : decode mi.2.1 pc = .ok (.iinc i n, 6)) (hx : L[i]? = some (some (.int x))) (hn : i < mi.2.2.1) (h2 : z_ok1 L i = true) (hL' : L.set i (some (.int (x + Int32.ofInt n))) = L') (kk : z_R lay mi (pc + 6) L' st σ Φ) : z_R lay mi pc L st σ Φ := by
  intro l ad cI cZ D p e s m args below meth c A H locs ls hC hK hP hD hS hL
  subst hL'
  obtain ⟨k, hk⟩ := z_lvk (ad := ad) hx
  exact lv_iincW hC.1 hC.2.1 hd hL.lv hk rfl hn rfl (fun ls' h' => kk l ad cI cZ D p e s m args below meth c A H locs ls' hC hK hP hD hS (z_Lh.st1 (v := .int (x + Int32.ofInt n)) rfl (z_ok1.no2 h2) h'))
/-! numbers -/
theorem z_no_neg {x : Int32} {n : Nat} (hn : n < 2 ^ 31) (h : x < 0) : ∀ k, k < n → x ≠ nI k := fun k hk e => nI_pos (n := k) (by omega) (e ▸ h)
theorem z_no_ge {x : Int32} {n : Nat} (hn : n < 2 ^ 31) (h : nI n ≤ x) : ∀ k, k < n → x ≠ nI k := fun k hk e => nI_ge hk hn (e ▸ h)
theorem z_ix {x : Int32} {n : Nat} (hn : n < 2 ^ 31) (h0 : ¬ x < 0) (h1 : ¬ nI n ≤ x) : ∃ k, k < n ∧ x = nI k := by
  rcases pk_ix x hn with h | h | h
  · exact absurd h h0
  · exact absurd h h1
  · exact h
theorem z_lt32 {x y : Int32} : ¬ y ≤ x ↔ x < y := by
  rw [Int32.not_le]
theorem z_in_nI {k n : Nat} (h : k < n) (hn : n < 2 ^ 31 := by decide) : vp_in (nI k) n := vp_in_nI h hn
theorem z_cl {k : Nat} (h : k < 2 ^ 31) : (nI k).toNatClampNeg = k := nI_clamp h
theorem z_upd_s {f : Nat → Int32} {k : Nat} {v : Int32} : upd f k v k = v := pk_us
theorem z_upd_n {f : Nat → Int32} {k j : Nat} {v : Int32} (h : j ≠ k) : upd f k v j = f j := pk_un h
theorem z_up_at (σ : z_Sto) (c k c' k' : Nat) (v : Int32) : z_up σ c k v c' k' = if c' = c then (if k' = k then v else σ c' k') else σ c' k' := by
  unfold z_up
  by_cases h : c' = c
  · subst h
    simp [upd]
  · simp [h]
section ZN
variable {lay : z_Lay} {mi : z_MI} {pc : Nat} {L : z_Loc} {st : List Value} {σ : z_Sto} {Φ : z_Post}
theorem z_iaddN {x y : Nat} (hd : decode mi.2.1 pc = .ok (.iadd, 1)) (k : z_R lay mi (pc + 1) L (.int (nI (x + y)) :: st) σ Φ) : z_R lay mi pc L (.int (nI y) :: .int (nI x) :: st) σ Φ := z_iadd hd (by rw [nI_add]; exact k)
theorem z_imulN {x y : Nat} (hd : decode mi.2.1 pc = .ok (.imul, 1)) (k : z_R lay mi (pc + 1) L (.int (nI (x * y)) :: st) σ Φ) : z_R lay mi pc L (.int (nI y) :: .int (nI x) :: st) σ Φ := z_imul hd (by rw [pk_mul]; exact k)
theorem z_ialdN {c n k : Nat} (hd : decode mi.2.1 pc = .ok (.iaload, 1)) (hc : c < lay.1) (hl : lay.2 c = .inl (false, n)) (hn : n < 2 ^ 31) (hk : k < n) (kk : z_R lay mi (pc + 1) L (.int (σ c k) :: st) σ Φ) : z_R lay mi pc L (.int (nI k) :: .ref c :: st) σ Φ := z_iald hd hc hl (vp_in_nI hk hn) (by rw [nI_clamp (Nat.lt_trans hk hn)]; exact kk)
theorem z_zaldN {c n k : Nat} (hd : decode mi.2.1 pc = .ok (.baload, 1)) (hc : c < lay.1) (hl : lay.2 c = .inl (true, n)) (hn : n < 2 ^ 31) (hk : k < n) (kk : z_R lay mi (pc + 1) L (.int (σ c k) :: st) σ Φ) : z_R lay mi pc L (.int (nI k) :: .ref c :: st) σ Φ := z_zald hd hc hl (vp_in_nI hk hn) (by rw [nI_clamp (Nat.lt_trans hk hn)]; exact kk)
theorem z_iastN {c n k : Nat} {x : Int32} (hd : decode mi.2.1 pc = .ok (.iastore, 1)) (hc : c < lay.1) (hl : lay.2 c = .inl (false, n)) (hn : n < 2 ^ 31) (hk : k < n) (kk : z_R lay mi (pc + 1) L st (z_up σ c k x) Φ) : z_R lay mi pc L (.int x :: .int (nI k) :: .ref c :: st) σ Φ := z_iast hd hc hl (vp_in_nI hk hn) (by rw [nI_clamp (Nat.lt_trans hk hn)]; exact kk)
theorem z_zastN {c n k : Nat} {x : Int32} (hd : decode mi.2.1 pc = .ok (.bastore, 1)) (hc : c < lay.1) (hl : lay.2 c = .inl (true, n)) (hn : n < 2 ^ 31) (hk : k < n) (hx : x = nI 0 ∨ x = nI 1) (kk : z_R lay mi (pc + 1) L st (z_up σ c k x) Φ) : z_R lay mi pc L (.int x :: .int (nI k) :: .ref c :: st) σ Φ := z_zast hd hc hl (vp_in_nI hk hn) hx (by rw [nI_clamp (Nat.lt_trans hk hn)]; exact kk)
theorem z_iincN {L' : z_Loc} {i x : Nat} (hd : decode mi.2.1 pc = .ok (.iinc i 1, 3)) (hx : L[i]? = some (some (.int (nI x)))) (hn : i < mi.2.2.1) (h2 : z_ok1 L i = true) (hL' : L.set i (some (.int (nI (x + 1)))) = L') (kk : z_R lay mi (pc + 3) L' st σ Φ) : z_R lay mi pc L st σ Φ := z_iinc hd hx hn h2 (by rw [show (Int32.ofInt 1) = 1 by decide, nI_1]; exact hL') kk
end ZN
theorem z_nar {x : Int32} (h : x = nI 0 ∨ x = nI 1) : narrow .boolean (.int x) = .int x := by rcases h with rfl | rfl <;> decide
theorem z_nI_inj {a b : Nat} (ha : a < 2 ^ 31) (hb : b < 2 ^ 31) (h : nI a = nI b) : a = b := (nI_eq ha hb).mp h
theorem z_b01 {x : Int32} (h : x = nI 0 ∨ x = nI 1) (h0 : ¬ x = 0) : x = nI 1 := by
  rcases h with rfl | rfl
  · exact absurd rfl h0
  · rfl
theorem z_0 : (0 : Int32) = nI 0 := rfl
end
section
/-! Rules, Roster, Log, Net: the short methods -/
set_option maxRecDepth 20000 in
theorem c_X5_get {σ : z_Sto} {k : Nat} (hk : k < 8) : z_R layX iX5_get 0 [some (.ref 1), some (.int (nI k))] [] σ (fun r σ' => r = some (.int (σ 2 k)) ∧ σ' = σ) := by
  refine z_aload_n (pc := 0) dX5_get_0 rfl ?_
  refine z_getA (pc := 1) f_X5_18 dX5_get_1 (by decide) rfl rfl ?_
  refine z_iload_n (pc := 4) dX5_get_4 rfl ?_
  refine z_ialdN (pc := 5) dX5_get_5 (by decide) rfl (by decide) (hk) ?_
  exact z_ireturn (pc := 6) dX5_get_6 rfl rfl (⟨rfl, rfl⟩)
set_option maxRecDepth 20000 in
theorem c_X5_getT {σ : z_Sto} {k : Nat} (hk : k < 8) : z_R layX iX5_get 0 [some (.ref 22), some (.int (nI k))] [] σ (fun r σ' => r = some (.int (σ 23 k)) ∧ σ' = σ) := by
  refine z_aload_n (pc := 0) dX5_get_0 rfl ?_
  refine z_getA (pc := 1) f_X5_18 dX5_get_1 (by decide) rfl rfl ?_
  refine z_iload_n (pc := 4) dX5_get_4 rfl ?_
  refine z_ialdN (pc := 5) dX5_get_5 (by decide) rfl (by decide) (hk) ?_
  exact z_ireturn (pc := 6) dX5_get_6 rfl rfl (⟨rfl, rfl⟩)
set_option maxRecDepth 20000 in
theorem c_X5_put {σ : z_Sto} {k : Nat} {v : Int32} (hk : k < 8) : z_R layX iX5_put 0 [some (.ref 1), some (.int (nI k)), some (.int v)] [] σ (fun r σ' => r = none ∧ σ' = z_up σ 2 k v) := by
  refine z_aload_n (pc := 0) dX5_put_0 rfl ?_
  refine z_getA (pc := 1) f_X5_18 dX5_put_1 (by decide) rfl rfl ?_
  refine z_iload_n (pc := 4) dX5_put_4 rfl ?_
  refine z_iload_n (pc := 5) dX5_put_5 rfl ?_
  refine z_iastN (pc := 6) dX5_put_6 (by decide) rfl (by decide) (hk) ?_
  exact z_return (pc := 7) dX5_put_7 rfl (⟨rfl, rfl⟩)
set_option maxRecDepth 20000 in
theorem c_X4_has {σ : z_Sto} {x : Int32} {n : Nat} (hn : σ 3 3 = nI n) (h12 : n ≤ 12) : z_R layX iX4_has 0 [some (.ref 3), some (.int x)] [] σ (fun r σ' => ((∃ k, k < n ∧ x = nI k ∧ r = some (.int (nI 1))) ∨ ((∀ k, k < n → x ≠ nI k) ∧ r = some (.int (nI 0)))) ∧ σ' = σ) := by
  refine z_iload_n (pc := 0) dX4_has_0 rfl ?_
  refine z_if_lt (pc := 1) (tgt := 16) dX4_has_1 (by decide) (fun h1 => ?_) (fun h1 => ?_)
  · refine z_iconst (pc := 16) (v := (nI 0)) dX4_has_16 (by decide) ?_
    exact z_ireturn (pc := 17) dX4_has_17 rfl (by decide) ⟨Or.inr ⟨z_no_neg (by omega) h1, rfl⟩, rfl⟩
  · refine z_iload_n (pc := 4) dX4_has_4 rfl ?_
    refine z_aload_n (pc := 5) dX4_has_5 rfl ?_
    refine z_getI (pc := 6) f_X4_21 dX4_has_6 (by decide) rfl rfl ?_
    refine z_icmp_ge (pc := 9) (tgt := 16) dX4_has_9 (by decide) (fun h9 => ?_) (fun h9 => ?_)
    · refine z_iconst (pc := 16) (v := (nI 0)) dX4_has_16 (by decide) ?_
      exact z_ireturn (pc := 17) dX4_has_17 rfl (by decide) ⟨Or.inr ⟨z_no_ge (n := n) (by omega) (hn ▸ h9), rfl⟩, rfl⟩
    · refine z_iconst (pc := 12) (v := (nI 1)) dX4_has_12 (by decide) ?_
      refine z_goto (pc := 13) (tgt := 17) dX4_has_13 (by decide) ?_
      exact z_ireturn (pc := 17) dX4_has_17 rfl (by decide) (by obtain ⟨k, hk, e⟩ := z_ix (n := n) (by omega) h1 (hn ▸ h9); exact ⟨Or.inl ⟨k, hk, e, rfl⟩, rfl⟩)
set_option maxRecDepth 20000 in
theorem c_X4_size {σ : z_Sto} : z_R layX iX4_size 0 [some (.ref 3)] [] σ (fun r σ' => r = some (.int (σ 3 3)) ∧ σ' = σ) := by
  refine z_aload_n (pc := 0) dX4_size_0 rfl ?_
  refine z_getI (pc := 1) f_X4_21 dX4_size_1 (by decide) rfl rfl ?_
  exact z_ireturn (pc := 4) dX4_size_4 rfl rfl (⟨rfl, rfl⟩)
set_option maxRecDepth 20000 in
theorem c_X4_isFull {σ : z_Sto} {n : Nat} (hn : σ 3 3 = nI n) (h12 : n ≤ 12) : z_R layX iX4_isFull 0 [some (.ref 3)] [] σ (fun r σ' => r = some (.int (if n < 12 then nI 0 else nI 1)) ∧ σ' = σ) := by
  refine z_aload_n (pc := 0) dX4_isFull_0 rfl ?_
  refine z_getI (pc := 1) f_X4_21 dX4_isFull_1 (by decide) rfl rfl ?_
  rw [hn]
  refine z_bipush (pc := 4) (v := (nI 12)) dX4_isFull_4 (by decide) ?_
  refine z_icmp_lt (pc := 6) (tgt := 13) dX4_isFull_6 (by decide) (fun h6 => ?_) (fun h6 => ?_)
  · have q6 : n < 12 := (nI_ltI (by omega) (by decide)).mp h6
    refine z_iconst (pc := 13) (v := (nI 0)) dX4_isFull_13 (by decide) ?_
    exact z_ireturn (pc := 14) dX4_isFull_14 rfl (by decide) (⟨by simp [q6], rfl⟩)
  · have q6 : ¬ n < 12 := fun q => h6 ((nI_ltI (by omega) (by decide)).mpr q)
    refine z_iconst (pc := 9) (v := (nI 1)) dX4_isFull_9 (by decide) ?_
    refine z_goto (pc := 10) (tgt := 14) dX4_isFull_10 (by decide) ?_
    exact z_ireturn (pc := 14) dX4_isFull_14 rfl (by decide) (⟨by simp [q6], rfl⟩)
set_option maxRecDepth 20000 in
theorem c_X4_kindOf {σ : z_Sto} {k : Nat} (hk : k < 12) : z_R layX iX4_kindOf 0 [some (.ref 3), some (.int (nI k))] [] σ (fun r σ' => r = some (.int (σ 4 k)) ∧ σ' = σ) := by
  refine z_aload_n (pc := 0) dX4_kindOf_0 rfl ?_
  refine z_getA (pc := 1) f_X4_9 dX4_kindOf_1 (by decide) rfl rfl ?_
  refine z_iload_n (pc := 4) dX4_kindOf_4 rfl ?_
  refine z_ialdN (pc := 5) dX4_kindOf_5 (by decide) rfl (by decide) (hk) ?_
  exact z_ireturn (pc := 6) dX4_kindOf_6 rfl rfl (⟨rfl, rfl⟩)
set_option maxRecDepth 20000 in
theorem c_X4_slotOf {σ : z_Sto} {k : Nat} (hk : k < 12) : z_R layX iX4_slotOf 0 [some (.ref 3), some (.int (nI k))] [] σ (fun r σ' => r = some (.int (σ 5 k)) ∧ σ' = σ) := by
  refine z_aload_n (pc := 0) dX4_slotOf_0 rfl ?_
  refine z_getA (pc := 1) f_X4_15 dX4_slotOf_1 (by decide) rfl rfl ?_
  refine z_iload_n (pc := 4) dX4_slotOf_4 rfl ?_
  refine z_ialdN (pc := 5) dX4_slotOf_5 (by decide) rfl (by decide) (hk) ?_
  exact z_ireturn (pc := 6) dX4_slotOf_6 rfl rfl (⟨rfl, rfl⟩)
set_option maxRecDepth 20000 in
theorem c_X4_markOf {σ : z_Sto} {k : Nat} (hk : k < 12) : z_R layX iX4_markOf 0 [some (.ref 3), some (.int (nI k))] [] σ (fun r σ' => r = some (.int (σ 6 k)) ∧ σ' = σ) := by
  refine z_aload_n (pc := 0) dX4_markOf_0 rfl ?_
  refine z_getA (pc := 1) f_X4_18 dX4_markOf_1 (by decide) rfl rfl ?_
  refine z_iload_n (pc := 4) dX4_markOf_4 rfl ?_
  refine z_ialdN (pc := 5) dX4_markOf_5 (by decide) rfl (by decide) (hk) ?_
  exact z_ireturn (pc := 6) dX4_markOf_6 rfl rfl (⟨rfl, rfl⟩)
set_option maxRecDepth 20000 in
theorem c_X4_putMark {σ : z_Sto} {k : Nat} {v : Int32} (hk : k < 12) : z_R layX iX4_putMark 0 [some (.ref 3), some (.int (nI k)), some (.int v), none] [] σ (fun r σ' => r = some (.int (σ 6 k)) ∧ σ' = z_up σ 6 k v) := by
  refine z_aload_n (pc := 0) dX4_putMark_0 rfl ?_
  refine z_getA (pc := 1) f_X4_18 dX4_putMark_1 (by decide) rfl rfl ?_
  refine z_iload_n (pc := 4) dX4_putMark_4 rfl ?_
  refine z_ialdN (pc := 5) dX4_putMark_5 (by decide) rfl (by decide) (hk) ?_
  refine z_istore_n (pc := 6) dX4_putMark_6 (by decide) rfl rfl ?_
  refine z_aload_n (pc := 7) dX4_putMark_7 rfl ?_
  refine z_getA (pc := 8) f_X4_18 dX4_putMark_8 (by decide) rfl rfl ?_
  refine z_iload_n (pc := 11) dX4_putMark_11 rfl ?_
  refine z_iload_n (pc := 12) dX4_putMark_12 rfl ?_
  refine z_iastN (pc := 13) dX4_putMark_13 (by decide) rfl (by decide) (hk) ?_
  refine z_iload_n (pc := 14) dX4_putMark_14 rfl ?_
  exact z_ireturn (pc := 15) dX4_putMark_15 rfl rfl (⟨rfl, rfl⟩)
set_option maxRecDepth 20000 in
theorem c_X4_enter {σ : z_Sto} {n : Nat} {kd g : Int32} (hn : σ 3 3 = nI n) (h12 : n < 12) : z_R layX iX4_enter 0 [some (.ref 3), some (.int kd), some (.int g), none] [] σ (fun r σ' => r = some (.int (nI n)) ∧ σ' = z_up (z_up (z_up σ 4 n kd) 5 n (if kd = nI 1 then nI 12 + g else nI n)) 3 3 (nI (n + 1))) := by
  refine z_aload_n (pc := 0) dX4_enter_0 rfl ?_
  refine z_getI (pc := 1) f_X4_21 dX4_enter_1 (by decide) rfl rfl ?_
  rw [hn]
  refine z_istore_n (pc := 4) dX4_enter_4 (by decide) rfl rfl ?_
  refine z_aload_n (pc := 5) dX4_enter_5 rfl ?_
  refine z_getA (pc := 6) f_X4_9 dX4_enter_6 (by decide) rfl rfl ?_
  refine z_iload_n (pc := 9) dX4_enter_9 rfl ?_
  refine z_iload_n (pc := 10) dX4_enter_10 rfl ?_
  refine z_iastN (pc := 11) dX4_enter_11 (by decide) rfl (by decide) (h12) ?_
  refine z_aload_n (pc := 12) dX4_enter_12 rfl ?_
  refine z_getA (pc := 13) f_X4_15 dX4_enter_13 (by decide) rfl rfl ?_
  refine z_iload_n (pc := 16) dX4_enter_16 rfl ?_
  refine z_iload_n (pc := 17) dX4_enter_17 rfl ?_
  refine z_iconst (pc := 18) (v := (nI 1)) dX4_enter_18 (by decide) ?_
  refine z_icmp_ne (pc := 19) (tgt := 29) dX4_enter_19 (by decide) (fun h19 => ?_) (fun h19 => ?_)
  · refine z_iload_n (pc := 29) dX4_enter_29 rfl ?_
    refine z_iastN (pc := 30) dX4_enter_30 (by decide) rfl (by decide) (h12) ?_
    refine z_aload_n (pc := 31) dX4_enter_31 rfl ?_
    refine z_dup_a (pc := 32) dX4_enter_32 ?_
    refine z_getI (pc := 33) f_X4_21 dX4_enter_33 (by decide) rfl rfl ?_
    simp only [z_up_at, hn, reduceIte, Nat.reduceEqDiff]
    refine z_iconst (pc := 36) (v := (nI 1)) dX4_enter_36 (by decide) ?_
    refine z_iaddN (pc := 37) dX4_enter_37 ?_
    refine z_putI (pc := 38) f_X4_21 tyX4_ok nmX4 (by decide) rfl rfl rfl dX4_enter_38 (by decide) rfl rfl ?_
    refine z_iload_n (pc := 41) dX4_enter_41 rfl ?_
    exact z_ireturn (pc := 42) dX4_enter_42 rfl rfl (⟨rfl, by simp [h19]⟩)
  · refine z_bipush (pc := 22) (v := (nI 12)) dX4_enter_22 (by decide) ?_
    refine z_iload_n (pc := 24) dX4_enter_24 rfl ?_
    refine z_iadd (pc := 25) dX4_enter_25 ?_
    refine z_goto (pc := 26) (tgt := 30) dX4_enter_26 (by decide) ?_
    refine z_iastN (pc := 30) dX4_enter_30 (by decide) rfl (by decide) (h12) ?_
    refine z_aload_n (pc := 31) dX4_enter_31 rfl ?_
    refine z_dup_a (pc := 32) dX4_enter_32 ?_
    refine z_getI (pc := 33) f_X4_21 dX4_enter_33 (by decide) rfl rfl ?_
    simp only [z_up_at, hn, reduceIte, Nat.reduceEqDiff]
    refine z_iconst (pc := 36) (v := (nI 1)) dX4_enter_36 (by decide) ?_
    refine z_iaddN (pc := 37) dX4_enter_37 ?_
    refine z_putI (pc := 38) f_X4_21 tyX4_ok nmX4 (by decide) rfl rfl rfl dX4_enter_38 (by decide) rfl rfl ?_
    refine z_iload_n (pc := 41) dX4_enter_41 rfl ?_
    exact z_ireturn (pc := 42) dX4_enter_42 rfl rfl (⟨rfl, by simp [h19]⟩)
set_option maxRecDepth 20000 in
theorem c_X1_size {σ : z_Sto} : z_R layX iX1_size 0 [some (.ref 7)] [] σ (fun r σ' => r = some (.int (σ 7 3)) ∧ σ' = σ) := by
  refine z_aload_n (pc := 0) dX1_size_0 rfl ?_
  refine z_getI (pc := 1) f_X1_21 dX1_size_1 (by decide) rfl rfl ?_
  exact z_ireturn (pc := 4) dX1_size_4 rfl rfl (⟨rfl, rfl⟩)
set_option maxRecDepth 20000 in
theorem c_X1_isFull {σ : z_Sto} {e : Nat} (he : σ 7 3 = nI e) (h3 : e ≤ 300) : z_R layX iX1_isFull 0 [some (.ref 7)] [] σ (fun r σ' => r = some (.int (if e < 300 then nI 0 else nI 1)) ∧ σ' = σ) := by
  refine z_aload_n (pc := 0) dX1_isFull_0 rfl ?_
  refine z_getI (pc := 1) f_X1_21 dX1_isFull_1 (by decide) rfl rfl ?_
  rw [he]
  refine z_sipush (pc := 4) (v := (nI 300)) dX1_isFull_4 (by decide) ?_
  refine z_icmp_lt (pc := 7) (tgt := 14) dX1_isFull_7 (by decide) (fun h7 => ?_) (fun h7 => ?_)
  · have q7 : e < 300 := (nI_ltI (by omega) (by decide)).mp h7
    refine z_iconst (pc := 14) (v := (nI 0)) dX1_isFull_14 (by decide) ?_
    exact z_ireturn (pc := 15) dX1_isFull_15 rfl (by decide) (⟨by simp [q7], rfl⟩)
  · have q7 : ¬ e < 300 := fun q => h7 ((nI_ltI (by omega) (by decide)).mpr q)
    refine z_iconst (pc := 10) (v := (nI 1)) dX1_isFull_10 (by decide) ?_
    refine z_goto (pc := 11) (tgt := 15) dX1_isFull_11 (by decide) ?_
    exact z_ireturn (pc := 15) dX1_isFull_15 rfl (by decide) (⟨by simp [q7], rfl⟩)
set_option maxRecDepth 20000 in
theorem c_X1_write {σ : z_Sto} {e : Nat} {a b t : Int32} (he : σ 7 3 = nI e) (h3 : e < 300) : z_R layX iX1_write 0 [some (.ref 7), some (.int a), some (.int b), some (.int t)] [] σ (fun r σ' => r = none ∧ σ' = z_up (z_up (z_up (z_up σ 8 e a) 9 e b) 10 e t) 7 3 (nI (e + 1))) := by
  refine z_aload_n (pc := 0) dX1_write_0 rfl ?_
  refine z_getA (pc := 1) f_X1_9 dX1_write_1 (by decide) rfl rfl ?_
  refine z_aload_n (pc := 4) dX1_write_4 rfl ?_
  refine z_getI (pc := 5) f_X1_21 dX1_write_5 (by decide) rfl rfl ?_
  simp only [z_up_at, he, reduceIte, Nat.reduceEqDiff]
  refine z_iload_n (pc := 8) dX1_write_8 rfl ?_
  refine z_iastN (pc := 9) dX1_write_9 (by decide) rfl (by decide) (h3) ?_
  refine z_aload_n (pc := 10) dX1_write_10 rfl ?_
  refine z_getA (pc := 11) f_X1_15 dX1_write_11 (by decide) rfl rfl ?_
  refine z_aload_n (pc := 14) dX1_write_14 rfl ?_
  refine z_getI (pc := 15) f_X1_21 dX1_write_15 (by decide) rfl rfl ?_
  simp only [z_up_at, he, reduceIte, Nat.reduceEqDiff]
  refine z_iload_n (pc := 18) dX1_write_18 rfl ?_
  refine z_iastN (pc := 19) dX1_write_19 (by decide) rfl (by decide) (h3) ?_
  refine z_aload_n (pc := 20) dX1_write_20 rfl ?_
  refine z_getA (pc := 21) f_X1_18 dX1_write_21 (by decide) rfl rfl ?_
  refine z_aload_n (pc := 24) dX1_write_24 rfl ?_
  refine z_getI (pc := 25) f_X1_21 dX1_write_25 (by decide) rfl rfl ?_
  simp only [z_up_at, he, reduceIte, Nat.reduceEqDiff]
  refine z_iload_n (pc := 28) dX1_write_28 rfl ?_
  refine z_iastN (pc := 29) dX1_write_29 (by decide) rfl (by decide) (h3) ?_
  refine z_aload_n (pc := 30) dX1_write_30 rfl ?_
  refine z_dup_a (pc := 31) dX1_write_31 ?_
  refine z_getI (pc := 32) f_X1_21 dX1_write_32 (by decide) rfl rfl ?_
  simp only [z_up_at, he, reduceIte, Nat.reduceEqDiff]
  refine z_iconst (pc := 35) (v := (nI 1)) dX1_write_35 (by decide) ?_
  refine z_iaddN (pc := 36) dX1_write_36 ?_
  refine z_putI (pc := 37) f_X1_21 tyX1_ok nmX1 (by decide) rfl rfl rfl dX1_write_37 (by decide) rfl rfl ?_
  exact z_return (pc := 40) dX1_write_40 rfl (⟨rfl, rfl⟩)
set_option maxRecDepth 20000 in
theorem c_X1_lineAt {σ : z_Sto} {k : Nat} (hk : k < 300) : z_R layX iX1_lineAt 0 [some (.ref 7), some (.int (nI k))] [] σ (fun r σ' => r = some (.int (σ 8 k)) ∧ σ' = σ) := by
  refine z_aload_n (pc := 0) dX1_lineAt_0 rfl ?_
  refine z_getA (pc := 1) f_X1_9 dX1_lineAt_1 (by decide) rfl rfl ?_
  refine z_iload_n (pc := 4) dX1_lineAt_4 rfl ?_
  refine z_ialdN (pc := 5) dX1_lineAt_5 (by decide) rfl (by decide) (hk) ?_
  exact z_ireturn (pc := 6) dX1_lineAt_6 rfl rfl (⟨rfl, rfl⟩)
set_option maxRecDepth 20000 in
theorem c_X1_whatAt {σ : z_Sto} {k : Nat} (hk : k < 300) : z_R layX iX1_whatAt 0 [some (.ref 7), some (.int (nI k))] [] σ (fun r σ' => r = some (.int (σ 9 k)) ∧ σ' = σ) := by
  refine z_aload_n (pc := 0) dX1_whatAt_0 rfl ?_
  refine z_getA (pc := 1) f_X1_15 dX1_whatAt_1 (by decide) rfl rfl ?_
  refine z_iload_n (pc := 4) dX1_whatAt_4 rfl ?_
  refine z_ialdN (pc := 5) dX1_whatAt_5 (by decide) rfl (by decide) (hk) ?_
  exact z_ireturn (pc := 6) dX1_whatAt_6 rfl rfl (⟨rfl, rfl⟩)
set_option maxRecDepth 20000 in
theorem c_X1_tickAt {σ : z_Sto} {k : Nat} (hk : k < 300) : z_R layX iX1_tickAt 0 [some (.ref 7), some (.int (nI k))] [] σ (fun r σ' => r = some (.int (σ 10 k)) ∧ σ' = σ) := by
  refine z_aload_n (pc := 0) dX1_tickAt_0 rfl ?_
  refine z_getA (pc := 1) f_X1_18 dX1_tickAt_1 (by decide) rfl rfl ?_
  refine z_iload_n (pc := 4) dX1_tickAt_4 rfl ?_
  refine z_ialdN (pc := 5) dX1_tickAt_5 (by decide) rfl (by decide) (hk) ?_
  exact z_ireturn (pc := 6) dX1_tickAt_6 rfl rfl (⟨rfl, rfl⟩)
set_option maxRecDepth 20000 in
theorem c_X2_isHouse {σ : z_Sto} {x : Int32} : z_R layX iX2_isHouse 0 [some (.int x)] [] σ (fun r σ' => ((∃ k, k < 5 ∧ x = nI k ∧ r = some (.int (nI 1))) ∨ ((∀ k, k < 5 → x ≠ nI k) ∧ r = some (.int (nI 0)))) ∧ σ' = σ) := by
  refine z_iload_n (pc := 0) dX2_isHouse_0 rfl ?_
  refine z_if_lt (pc := 1) (tgt := 13) dX2_isHouse_1 (by decide) (fun h1 => ?_) (fun h1 => ?_)
  · refine z_iconst (pc := 13) (v := (nI 0)) dX2_isHouse_13 (by decide) ?_
    exact z_ireturn (pc := 14) dX2_isHouse_14 rfl (by decide) ⟨Or.inr ⟨z_no_neg (by omega) h1, rfl⟩, rfl⟩
  · refine z_iload_n (pc := 4) dX2_isHouse_4 rfl ?_
    refine z_iconst (pc := 5) (v := (nI 5)) dX2_isHouse_5 (by decide) ?_
    refine z_icmp_ge (pc := 6) (tgt := 13) dX2_isHouse_6 (by decide) (fun h6 => ?_) (fun h6 => ?_)
    · refine z_iconst (pc := 13) (v := (nI 0)) dX2_isHouse_13 (by decide) ?_
      exact z_ireturn (pc := 14) dX2_isHouse_14 rfl (by decide) ⟨Or.inr ⟨z_no_ge (n := 5) (by omega) h6, rfl⟩, rfl⟩
    · refine z_iconst (pc := 9) (v := (nI 1)) dX2_isHouse_9 (by decide) ?_
      refine z_goto (pc := 10) (tgt := 14) dX2_isHouse_10 (by decide) ?_
      exact z_ireturn (pc := 14) dX2_isHouse_14 rfl (by decide) (by obtain ⟨k, hk, e⟩ := z_ix (n := 5) (by omega) h1 h6; exact ⟨Or.inl ⟨k, hk, e, rfl⟩, rfl⟩)
set_option maxRecDepth 20000 in
theorem c_X2_place {σ : z_Sto} {a b : Nat} : z_R layX iX2_place 0 [some (.int (nI a)), some (.int (nI b))] [] σ (fun r σ' => r = some (.int (nI (a * 5 + b))) ∧ σ' = σ) := by
  refine z_iload_n (pc := 0) dX2_place_0 rfl ?_
  refine z_iconst (pc := 1) (v := (nI 5)) dX2_place_1 (by decide) ?_
  refine z_imulN (pc := 2) dX2_place_2 ?_
  refine z_iload_n (pc := 3) dX2_place_3 rfl ?_
  refine z_iaddN (pc := 4) dX2_place_4 ?_
  exact z_ireturn (pc := 5) dX2_place_5 rfl rfl (⟨rfl, rfl⟩)
set_option maxRecDepth 20000 in
theorem c_X2_hasWay {σ : z_Sto} {a b : Nat} (ha : a < 5) (hb : b < 5) (h01 : ∀ k, k < 25 → σ 36 k = nI 0 ∨ σ 36 k = nI 1) : z_R layX iX2_hasWay 0 [some (.ref 35), some (.int (nI a)), some (.int (nI b))] [] σ (fun r σ' => r = some (.int (σ 36 (a * 5 + b))) ∧ σ' = σ) := by
  refine z_aload_n (pc := 0) dX2_hasWay_0 rfl ?_
  refine z_getA (pc := 1) f_X2_11 dX2_hasWay_1 (by decide) rfl rfl ?_
  refine z_iload_n (pc := 4) dX2_hasWay_4 rfl ?_
  refine z_iload_n (pc := 5) dX2_hasWay_5 rfl ?_
  refine z_cS2 (pc := 6) mX2_place l_X2_48 (by decide) dX2_hasWay_6 (by decide) (Nat.le_of_ble_eq_true rfl) (c_X2_place) rfl (fun r6 σ6 hr6 => ?_)
  obtain ⟨rfl, rfl⟩ := hr6
  refine z_zaldN (pc := 9) dX2_hasWay_9 (by decide) rfl (by decide) (by omega) ?_
  exact z_ireturn (pc := 10) dX2_hasWay_10 rfl (z_nar (h01 _ (by omega))) (⟨rfl, rfl⟩)
set_option maxRecDepth 20000 in
theorem c_X2_ways {σ : z_Sto} : z_R layX iX2_ways 0 [some (.ref 35)] [] σ (fun r σ' => r = some (.int (σ 35 9)) ∧ σ' = σ) := by
  refine z_aload_n (pc := 0) dX2_ways_0 rfl ?_
  refine z_getI (pc := 1) f_X2_41 dX2_ways_1 (by decide) rfl rfl ?_
  exact z_ireturn (pc := 4) dX2_ways_4 rfl rfl (⟨rfl, rfl⟩)
set_option maxRecDepth 20000 in
theorem c_X2_putBound {σ : z_Sto} {a b : Nat} {v : Int32} (ha : a < 5) (hb : b < 5) : z_R layX iX2_putBound 0 [some (.ref 35), some (.int (nI a)), some (.int (nI b)), some (.int v)] [] σ (fun r σ' => r = none ∧ σ' = z_up σ 38 (a * 5 + b) v) := by
  refine z_aload_n (pc := 0) dX2_putBound_0 rfl ?_
  refine z_getA (pc := 1) f_X2_19 dX2_putBound_1 (by decide) rfl rfl ?_
  refine z_iload_n (pc := 4) dX2_putBound_4 rfl ?_
  refine z_iload_n (pc := 5) dX2_putBound_5 rfl ?_
  refine z_cS2 (pc := 6) mX2_place l_X2_48 (by decide) dX2_putBound_6 (by decide) (Nat.le_of_ble_eq_true rfl) (c_X2_place) rfl (fun r6 σ6 hr6 => ?_)
  obtain ⟨rfl, rfl⟩ := hr6
  refine z_iload_n (pc := 9) dX2_putBound_9 rfl ?_
  refine z_iastN (pc := 10) dX2_putBound_10 (by decide) rfl (by decide) (by omega) ?_
  exact z_return (pc := 11) dX2_putBound_11 rfl (⟨rfl, rfl⟩)
set_option maxRecDepth 20000 in
theorem c_X2_echoesOf {σ : z_Sto} {k : Nat} (hk : k < 5) : z_R layX iX2_echoesOf 0 [some (.ref 35), some (.int (nI k))] [] σ (fun r σ' => r = some (.int (σ 40 k)) ∧ σ' = σ) := by
  refine z_aload_n (pc := 0) dX2_echoesOf_0 rfl ?_
  refine z_getA (pc := 1) f_X2_25 dX2_echoesOf_1 (by decide) rfl rfl ?_
  refine z_iload_n (pc := 4) dX2_echoesOf_4 rfl ?_
  refine z_ialdN (pc := 5) dX2_echoesOf_5 (by decide) rfl (by decide) (hk) ?_
  exact z_ireturn (pc := 6) dX2_echoesOf_6 rfl rfl (⟨rfl, rfl⟩)
set_option maxRecDepth 20000 in
theorem c_X2_lettersOfAll {σ : z_Sto} : z_R layX iX2_lettersOfAll 0 [some (.ref 35)] [] σ (fun r σ' => r = some (.int (σ 35 8)) ∧ σ' = σ) := by
  refine z_aload_n (pc := 0) dX2_lettersOfAll_0 rfl ?_
  refine z_getI (pc := 1) f_X2_38 dX2_lettersOfAll_1 (by decide) rfl rfl ?_
  exact z_ireturn (pc := 4) dX2_lettersOfAll_4 rfl rfl (⟨rfl, rfl⟩)
set_option maxRecDepth 20000 in
theorem c_X2_ownAt {σ : z_Sto} {a : Nat} {x : Int32} (ha : a < 5) : z_R layX iX2_ownAt 0 [some (.ref 35), some (.int (nI a)), some (.int x)] [] σ (fun r σ' => r = some (.int (if x < nI 5 then ((σ 39 a) >>> ((nI 3 * x) &&& 31) &&& nI 7) - nI 1 else -1)) ∧ σ' = σ) := by
  refine z_iload_n (pc := 0) dX2_ownAt_0 rfl ?_
  refine z_iconst (pc := 1) (v := (nI 5)) dX2_ownAt_1 (by decide) ?_
  refine z_icmp_lt (pc := 2) (tgt := 7) dX2_ownAt_2 (by decide) (fun h2 => ?_) (fun h2 => ?_)
  · refine z_aload_n (pc := 7) dX2_ownAt_7 rfl ?_
    refine z_getA (pc := 8) f_X2_22 dX2_ownAt_8 (by decide) rfl rfl ?_
    refine z_iload_n (pc := 11) dX2_ownAt_11 rfl ?_
    refine z_ialdN (pc := 12) dX2_ownAt_12 (by decide) rfl (by decide) (ha) ?_
    refine z_iconst (pc := 13) (v := (nI 3)) dX2_ownAt_13 (by decide) ?_
    refine z_iload_n (pc := 14) dX2_ownAt_14 rfl ?_
    refine z_imul (pc := 15) dX2_ownAt_15 ?_
    refine z_ishr (pc := 16) dX2_ownAt_16 ?_
    refine z_bipush (pc := 17) (v := (nI 7)) dX2_ownAt_17 (by decide) ?_
    refine z_iand (pc := 19) dX2_ownAt_19 ?_
    refine z_iconst (pc := 20) (v := (nI 1)) dX2_ownAt_20 (by decide) ?_
    refine z_isub (pc := 21) dX2_ownAt_21 ?_
    exact z_ireturn (pc := 22) dX2_ownAt_22 rfl rfl (⟨by rw [if_pos h2], rfl⟩)
  · refine z_iconst (pc := 5) (v := (-1)) dX2_ownAt_5 (by decide) ?_
    exact z_ireturn (pc := 6) dX2_ownAt_6 rfl rfl (⟨by rw [if_neg h2], rfl⟩)
set_option maxRecDepth 20000 in
theorem c_X2_putWay0 {σ : z_Sto} {a b : Nat} (ha : a < 5) (hb : b < 5) : z_R layX iX2_putWay 0 [some (.ref 35), some (.int (nI a)), some (.int (nI b)), some (.int (nI 0))] [] σ (fun r σ' => r = none ∧ σ' = z_up (z_up (z_up (z_up (z_up σ 36 (a * 5 + b) (nI 0)) 36 (b * 5 + a) (nI 0)) 35 9 (σ 35 9 + -1)) 37 (a * 5 + b) (nI 0)) 37 (b * 5 + a) (nI 0)) := by
  refine z_aload_n (pc := 0) dX2_putWay_0 rfl ?_
  refine z_getA (pc := 1) f_X2_11 dX2_putWay_1 (by decide) rfl rfl ?_
  refine z_iload_n (pc := 4) dX2_putWay_4 rfl ?_
  refine z_iload_n (pc := 5) dX2_putWay_5 rfl ?_
  refine z_cS2 (pc := 6) mX2_place l_X2_48 (by decide) dX2_putWay_6 (by decide) (Nat.le_of_ble_eq_true rfl) (c_X2_place) rfl (fun r6 σ6 hr6 => ?_)
  obtain ⟨rfl, rfl⟩ := hr6
  refine z_iload_n (pc := 9) dX2_putWay_9 rfl ?_
  refine z_zastN (pc := 10) dX2_putWay_10 (by decide) rfl (by decide) (by omega) (Or.inl rfl) ?_
  refine z_aload_n (pc := 11) dX2_putWay_11 rfl ?_
  refine z_getA (pc := 12) f_X2_11 dX2_putWay_12 (by decide) rfl rfl ?_
  refine z_iload_n (pc := 15) dX2_putWay_15 rfl ?_
  refine z_iload_n (pc := 16) dX2_putWay_16 rfl ?_
  refine z_cS2 (pc := 17) mX2_place l_X2_48 (by decide) dX2_putWay_17 (by decide) (Nat.le_of_ble_eq_true rfl) (c_X2_place) rfl (fun r17 σ17 hr17 => ?_)
  obtain ⟨rfl, rfl⟩ := hr17
  refine z_iload_n (pc := 20) dX2_putWay_20 rfl ?_
  refine z_zastN (pc := 21) dX2_putWay_21 (by decide) rfl (by decide) (by omega) (Or.inl rfl) ?_
  refine z_aload_n (pc := 22) dX2_putWay_22 rfl ?_
  refine z_dup_a (pc := 23) dX2_putWay_23 ?_
  refine z_getI (pc := 24) f_X2_41 dX2_putWay_24 (by decide) rfl rfl ?_
  simp only [z_up_at, reduceIte, Nat.reduceEqDiff]
  refine z_iload_n (pc := 27) dX2_putWay_27 rfl ?_
  refine z_if_eq (pc := 28) (tgt := 35) dX2_putWay_28 (by decide) (fun h28 => ?_) (fun h28 => ?_)
  · refine z_iconst (pc := 35) (v := (-1)) dX2_putWay_35 (by decide) ?_
    refine z_iadd (pc := 36) dX2_putWay_36 ?_
    refine z_putI (pc := 37) f_X2_41 tyX2_ok nmX2 (by decide) rfl rfl rfl dX2_putWay_37 (by decide) rfl rfl ?_
    refine z_iload_n (pc := 40) dX2_putWay_40 rfl ?_
    refine z_if_ne (pc := 41) (tgt := 66) dX2_putWay_41 (by decide) (fun h41 => ?_) (fun h41 => ?_)
    · exact absurd rfl h41
    · refine z_aload_n (pc := 44) dX2_putWay_44 rfl ?_
      refine z_getA (pc := 45) f_X2_15 dX2_putWay_45 (by decide) rfl rfl ?_
      refine z_iload_n (pc := 48) dX2_putWay_48 rfl ?_
      refine z_iload_n (pc := 49) dX2_putWay_49 rfl ?_
      refine z_cS2 (pc := 50) mX2_place l_X2_48 (by decide) dX2_putWay_50 (by decide) (Nat.le_of_ble_eq_true rfl) (c_X2_place) rfl (fun r50 σ50 hr50 => ?_)
      obtain ⟨rfl, rfl⟩ := hr50
      refine z_iconst (pc := 53) (v := (nI 0)) dX2_putWay_53 (by decide) ?_
      refine z_iastN (pc := 54) dX2_putWay_54 (by decide) rfl (by decide) (by omega) ?_
      refine z_aload_n (pc := 55) dX2_putWay_55 rfl ?_
      refine z_getA (pc := 56) f_X2_15 dX2_putWay_56 (by decide) rfl rfl ?_
      refine z_iload_n (pc := 59) dX2_putWay_59 rfl ?_
      refine z_iload_n (pc := 60) dX2_putWay_60 rfl ?_
      refine z_cS2 (pc := 61) mX2_place l_X2_48 (by decide) dX2_putWay_61 (by decide) (Nat.le_of_ble_eq_true rfl) (c_X2_place) rfl (fun r61 σ61 hr61 => ?_)
      obtain ⟨rfl, rfl⟩ := hr61
      refine z_iconst (pc := 64) (v := (nI 0)) dX2_putWay_64 (by decide) ?_
      refine z_iastN (pc := 65) dX2_putWay_65 (by decide) rfl (by decide) (by omega) ?_
      exact z_return (pc := 66) dX2_putWay_66 rfl (⟨rfl, rfl⟩)
  · exact absurd rfl h28
set_option maxRecDepth 20000 in
theorem c_X2_putWay1 {σ : z_Sto} {a b : Nat} (ha : a < 5) (hb : b < 5) : z_R layX iX2_putWay 0 [some (.ref 35), some (.int (nI a)), some (.int (nI b)), some (.int (nI 1))] [] σ (fun r σ' => r = none ∧ σ' = z_up (z_up (z_up σ 36 (a * 5 + b) (nI 1)) 36 (b * 5 + a) (nI 1)) 35 9 (σ 35 9 + nI 1)) := by
  refine z_aload_n (pc := 0) dX2_putWay_0 rfl ?_
  refine z_getA (pc := 1) f_X2_11 dX2_putWay_1 (by decide) rfl rfl ?_
  refine z_iload_n (pc := 4) dX2_putWay_4 rfl ?_
  refine z_iload_n (pc := 5) dX2_putWay_5 rfl ?_
  refine z_cS2 (pc := 6) mX2_place l_X2_48 (by decide) dX2_putWay_6 (by decide) (Nat.le_of_ble_eq_true rfl) (c_X2_place) rfl (fun r6 σ6 hr6 => ?_)
  obtain ⟨rfl, rfl⟩ := hr6
  refine z_iload_n (pc := 9) dX2_putWay_9 rfl ?_
  refine z_zastN (pc := 10) dX2_putWay_10 (by decide) rfl (by decide) (by omega) (Or.inr rfl) ?_
  refine z_aload_n (pc := 11) dX2_putWay_11 rfl ?_
  refine z_getA (pc := 12) f_X2_11 dX2_putWay_12 (by decide) rfl rfl ?_
  refine z_iload_n (pc := 15) dX2_putWay_15 rfl ?_
  refine z_iload_n (pc := 16) dX2_putWay_16 rfl ?_
  refine z_cS2 (pc := 17) mX2_place l_X2_48 (by decide) dX2_putWay_17 (by decide) (Nat.le_of_ble_eq_true rfl) (c_X2_place) rfl (fun r17 σ17 hr17 => ?_)
  obtain ⟨rfl, rfl⟩ := hr17
  refine z_iload_n (pc := 20) dX2_putWay_20 rfl ?_
  refine z_zastN (pc := 21) dX2_putWay_21 (by decide) rfl (by decide) (by omega) (Or.inr rfl) ?_
  refine z_aload_n (pc := 22) dX2_putWay_22 rfl ?_
  refine z_dup_a (pc := 23) dX2_putWay_23 ?_
  refine z_getI (pc := 24) f_X2_41 dX2_putWay_24 (by decide) rfl rfl ?_
  simp only [z_up_at, reduceIte, Nat.reduceEqDiff]
  refine z_iload_n (pc := 27) dX2_putWay_27 rfl ?_
  refine z_if_eq (pc := 28) (tgt := 35) dX2_putWay_28 (by decide) (fun h28 => ?_) (fun h28 => ?_)
  · exact absurd h28 (by decide)
  · refine z_iconst (pc := 31) (v := (nI 1)) dX2_putWay_31 (by decide) ?_
    refine z_goto (pc := 32) (tgt := 36) dX2_putWay_32 (by decide) ?_
    refine z_iadd (pc := 36) dX2_putWay_36 ?_
    refine z_putI (pc := 37) f_X2_41 tyX2_ok nmX2 (by decide) rfl rfl rfl dX2_putWay_37 (by decide) rfl rfl ?_
    refine z_iload_n (pc := 40) dX2_putWay_40 rfl ?_
    refine z_if_ne (pc := 41) (tgt := 66) dX2_putWay_41 (by decide) (fun h41 => ?_) (fun h41 => ?_)
    · exact z_return (pc := 66) dX2_putWay_66 rfl (⟨rfl, rfl⟩)
    · exact absurd h41 (by decide)
end
section
/-! Rules: admits, marks, copies, fading; Roster: the marked lines -/
def x_adm (σ : z_Sto) (w v : Int32) : Prop := ∃ k, k < 8 ∧ w = nI k ∧ z_least k ≤ v ∧ v ≤ z_most k ∧ (k = 4 → σ 2 5 ≤ v) ∧ (k = 5 → v ≤ σ 2 4)
theorem x_adm_iff {σ : z_Sto} {v : Int32} {k : Nat} (hk : k < 8) : x_adm σ (nI k) v ↔ (z_least k ≤ v ∧ v ≤ z_most k ∧ (k = 4 → σ 2 5 ≤ v) ∧ (k = 5 → v ≤ σ 2 4)) := by
  constructor
  · rintro ⟨j, hj, e, h⟩
    have := z_nI_inj (by omega) (by omega) e
    subst this
    exact h
  · exact fun h => ⟨k, hk, rfl, h⟩
theorem x_adm_no {σ : z_Sto} {w v : Int32} (h : ∀ k, k < 8 → w ≠ nI k) : ¬ x_adm σ w v := by
  rintro ⟨k, hk, e, -⟩
  exact h k hk e
theorem z_nle {x y : Int32} (h : x < y) : ¬ y ≤ x := by rw [Int32.not_le]; exact h
theorem z_nlt {x y : Int32} (h : ¬ x < y) : y ≤ x := by rw [Int32.not_lt] at h; exact h
set_option maxRecDepth 20000 in
theorem c_X5_admits {σ : z_Sto} {w v : Int32} : z_R layX iX5_admits 0 [some (.ref 1), some (.int w), some (.int v)] [] σ (fun r σ' => ((r = some (.int (nI 1)) ∧ x_adm σ w v) ∨ (r = some (.int (nI 0)) ∧ ¬ x_adm σ w v)) ∧ σ' = σ) := by
  refine z_iload_n (pc := 0) dX5_admits_0 rfl ?_
  refine z_if_lt (pc := 1) (tgt := 31) dX5_admits_1 (by decide) (fun h1 => ?_) (fun h1 => ?_)
  · refine z_iconst (pc := 31) (v := (nI 0)) dX5_admits_31 (by decide) ?_
    exact z_ireturn (pc := 32) dX5_admits_32 rfl (by decide) ⟨Or.inr ⟨rfl, x_adm_no (z_no_neg (by decide) h1)⟩, rfl⟩
  · refine z_iload_n (pc := 4) dX5_admits_4 rfl ?_
    refine z_aload_n (pc := 5) dX5_admits_5 rfl ?_
    refine z_getA (pc := 6) f_X5_18 dX5_admits_6 (by decide) rfl rfl ?_
    refine z_alenI (pc := 9) dX5_admits_9 (by decide) rfl ?_
    refine z_icmp_ge (pc := 10) (tgt := 31) dX5_admits_10 (by decide) (fun h10 => ?_) (fun h10 => ?_)
    · refine z_iconst (pc := 31) (v := (nI 0)) dX5_admits_31 (by decide) ?_
      exact z_ireturn (pc := 32) dX5_admits_32 rfl (by decide) ⟨Or.inr ⟨rfl, x_adm_no (z_no_ge (by decide) h10)⟩, rfl⟩
    · obtain ⟨k, hk, rfl⟩ := z_ix (n := 8) (by decide) h1 h10
      refine z_iload_n (pc := 13) dX5_admits_13 rfl ?_
      refine z_stl (pc := 14) (f := z_least) (fun _ _ h => h.2.1) sX_X5_21 dX5_admits_14 dX5_admits_17 dX5_admits_18 rfl (z_in_nI hk) ?_
      rw [z_cl (by omega)]
      refine z_icmp_lt (pc := 19) (tgt := 31) dX5_admits_19 (by decide) (fun h19 => ?_) (fun h19 => ?_)
      · refine z_iconst (pc := 31) (v := (nI 0)) dX5_admits_31 (by decide) ?_
        exact z_ireturn (pc := 32) dX5_admits_32 rfl (by decide) (⟨Or.inr ⟨rfl, by rw [x_adm_iff hk]; rintro ⟨g1, g2, -⟩; first | exact z_nle h19 g1 | exact h28 g2⟩, rfl⟩)
      · refine z_iload_n (pc := 22) dX5_admits_22 rfl ?_
        refine z_stl (pc := 23) (f := z_most) (fun _ _ h => h.2.2) sX_X5_24 dX5_admits_23 dX5_admits_26 dX5_admits_27 rfl (z_in_nI hk) ?_
        rw [z_cl (by omega)]
        refine z_icmp_le (pc := 28) (tgt := 33) dX5_admits_28 (by decide) (fun h28 => ?_) (fun h28 => ?_)
        · refine z_iload_n (pc := 33) dX5_admits_33 rfl ?_
          refine z_iconst (pc := 34) (v := (nI 4)) dX5_admits_34 (by decide) ?_
          refine z_icmp_ne (pc := 35) (tgt := 54) dX5_admits_35 (by decide) (fun h35 => ?_) (fun h35 => ?_)
          · have q35 : k ≠ 4 := fun q => h35 (by rw [q])
            refine z_iload_n (pc := 54) dX5_admits_54 rfl ?_
            refine z_iconst (pc := 55) (v := (nI 5)) dX5_admits_55 (by decide) ?_
            refine z_icmp_ne (pc := 56) (tgt := 69) dX5_admits_56 (by decide) (fun h56 => ?_) (fun h56 => ?_)
            · have q56 : k ≠ 5 := fun q => h56 (by rw [q])
              refine z_iconst (pc := 69) (v := (nI 1)) dX5_admits_69 (by decide) ?_
              refine z_goto (pc := 70) (tgt := 74) dX5_admits_70 (by decide) ?_
              exact z_ireturn (pc := 74) dX5_admits_74 rfl (by decide) (⟨by first | exact Or.inr ⟨rfl, by rw [x_adm_iff hk]; rintro ⟨-, -, -, g4⟩; exact z_nle h66 (g4 q56)⟩ | exact Or.inl ⟨rfl, (x_adm_iff hk).mpr ⟨z_nlt h19, h28, fun q => absurd q q35, fun q => absurd q q56⟩⟩ | exact Or.inl ⟨rfl, (x_adm_iff hk).mpr ⟨z_nlt h19, h28, fun q => absurd q q35, fun _ => z_nlt h66⟩⟩, rfl⟩)
            · have q56 : k = 5 := z_nI_inj (by omega) (by decide) h56
              refine z_iload_n (pc := 59) dX5_admits_59 rfl ?_
              refine z_aload_n (pc := 60) dX5_admits_60 rfl ?_
              refine z_getA (pc := 61) f_X5_18 dX5_admits_61 (by decide) rfl rfl ?_
              refine z_iconst (pc := 64) (v := (nI 4)) dX5_admits_64 (by decide) ?_
              refine z_ialdN (pc := 65) dX5_admits_65 (by decide) rfl (by decide) (by decide) ?_
              refine z_icmp_gt (pc := 66) (tgt := 73) dX5_admits_66 (by decide) (fun h66 => ?_) (fun h66 => ?_)
              · refine z_iconst (pc := 73) (v := (nI 0)) dX5_admits_73 (by decide) ?_
                exact z_ireturn (pc := 74) dX5_admits_74 rfl (by decide) (⟨by first | exact Or.inr ⟨rfl, by rw [x_adm_iff hk]; rintro ⟨-, -, -, g4⟩; exact z_nle h66 (g4 q56)⟩ | exact Or.inl ⟨rfl, (x_adm_iff hk).mpr ⟨z_nlt h19, h28, fun q => absurd q q35, fun q => absurd q q56⟩⟩ | exact Or.inl ⟨rfl, (x_adm_iff hk).mpr ⟨z_nlt h19, h28, fun q => absurd q q35, fun _ => z_nlt h66⟩⟩, rfl⟩)
              · refine z_iconst (pc := 69) (v := (nI 1)) dX5_admits_69 (by decide) ?_
                refine z_goto (pc := 70) (tgt := 74) dX5_admits_70 (by decide) ?_
                exact z_ireturn (pc := 74) dX5_admits_74 rfl (by decide) (⟨by first | exact Or.inr ⟨rfl, by rw [x_adm_iff hk]; rintro ⟨-, -, -, g4⟩; exact z_nle h66 (g4 q56)⟩ | exact Or.inl ⟨rfl, (x_adm_iff hk).mpr ⟨z_nlt h19, h28, fun q => absurd q q35, fun q => absurd q q56⟩⟩ | exact Or.inl ⟨rfl, (x_adm_iff hk).mpr ⟨z_nlt h19, h28, fun q => absurd q q35, fun _ => z_nlt h66⟩⟩, rfl⟩)
          · have q35 : k = 4 := z_nI_inj (by omega) (by decide) h35
            refine z_aload_n (pc := 38) dX5_admits_38 rfl ?_
            refine z_getA (pc := 39) f_X5_18 dX5_admits_39 (by decide) rfl rfl ?_
            refine z_iconst (pc := 42) (v := (nI 5)) dX5_admits_42 (by decide) ?_
            refine z_ialdN (pc := 43) dX5_admits_43 (by decide) rfl (by decide) (by decide) ?_
            refine z_iload_n (pc := 44) dX5_admits_44 rfl ?_
            refine z_icmp_gt (pc := 45) (tgt := 52) dX5_admits_45 (by decide) (fun h45 => ?_) (fun h45 => ?_)
            · refine z_iconst (pc := 52) (v := (nI 0)) dX5_admits_52 (by decide) ?_
              exact z_ireturn (pc := 53) dX5_admits_53 rfl (by decide) (⟨by first | exact Or.inr ⟨rfl, by rw [x_adm_iff hk]; rintro ⟨-, -, g3, -⟩; exact z_nle h45 (g3 q35)⟩ | exact Or.inl ⟨rfl, (x_adm_iff hk).mpr ⟨z_nlt h19, h28, fun _ => z_nlt h45, fun q => absurd (q35.symm.trans q) (by decide)⟩⟩, rfl⟩)
            · refine z_iconst (pc := 48) (v := (nI 1)) dX5_admits_48 (by decide) ?_
              refine z_goto (pc := 49) (tgt := 53) dX5_admits_49 (by decide) ?_
              exact z_ireturn (pc := 53) dX5_admits_53 rfl (by decide) (⟨by first | exact Or.inr ⟨rfl, by rw [x_adm_iff hk]; rintro ⟨-, -, g3, -⟩; exact z_nle h45 (g3 q35)⟩ | exact Or.inl ⟨rfl, (x_adm_iff hk).mpr ⟨z_nlt h19, h28, fun _ => z_nlt h45, fun q => absurd (q35.symm.trans q) (by decide)⟩⟩, rfl⟩)
        · refine z_iconst (pc := 31) (v := (nI 0)) dX5_admits_31 (by decide) ?_
          exact z_ireturn (pc := 32) dX5_admits_32 rfl (by decide) (⟨Or.inr ⟨rfl, by rw [x_adm_iff hk]; rintro ⟨g1, g2, -⟩; first | exact z_nle h19 g1 | exact h28 g2⟩, rfl⟩)
def x_arm (s o : Int32) : Prop := nI 1 ≤ s ∧ s ≤ nI 20000 ∧ nI 1 ≤ o ∧ o ≤ s
set_option maxRecDepth 20000 in
theorem c_X5_areMarks {σ : z_Sto} {s o : Int32} : z_R layX iX5_areMarks 0 [some (.int s), some (.int o)] [] σ (fun r σ' => ((r = some (.int (nI 1)) ∧ x_arm s o) ∨ (r = some (.int (nI 0)) ∧ ¬ x_arm s o)) ∧ σ' = σ) := by
  have e1 : z_least (nI 4).toNatClampNeg = nI 1 := by decide
  have e2 : z_most (nI 4).toNatClampNeg = nI 20000 := by decide
  have e3 : z_least (nI 5).toNatClampNeg = nI 1 := by decide
  refine z_iload_n (pc := 0) dX5_areMarks_0 rfl ?_
  refine z_stc (pc := 1) (f := z_least) (x := nI 4) (fun _ _ h => h.2.1) sX_X5_21 dX5_areMarks_1 dX5_areMarks_4 dX5_areMarks_5 (by decide) (z_in_nI (by decide)) ?_
  rw [e1]
  refine z_icmp_lt (pc := 6) (tgt := 36) dX5_areMarks_6 (by decide) (fun h6 => ?_) (fun h6 => ?_)
  · refine z_iconst (pc := 36) (v := (nI 0)) dX5_areMarks_36 (by decide) ?_
    exact z_ireturn (pc := 37) dX5_areMarks_37 rfl (by decide) (⟨by first | exact Or.inr ⟨rfl, fun g => z_nle h6 g.1⟩ | exact Or.inr ⟨rfl, fun g => z_nle h15 g.2.1⟩ | exact Or.inr ⟨rfl, fun g => z_nle h24 g.2.2.1⟩ | exact Or.inr ⟨rfl, fun g => z_nle h29 g.2.2.2⟩ | exact Or.inl ⟨rfl, z_nlt h6, z_nlt h15, z_nlt h24, z_nlt h29⟩, rfl⟩)
  · refine z_iload_n (pc := 9) dX5_areMarks_9 rfl ?_
    refine z_stc (pc := 10) (f := z_most) (x := nI 4) (fun _ _ h => h.2.2) sX_X5_24 dX5_areMarks_10 dX5_areMarks_13 dX5_areMarks_14 (by decide) (z_in_nI (by decide)) ?_
    rw [e2]
    refine z_icmp_gt (pc := 15) (tgt := 36) dX5_areMarks_15 (by decide) (fun h15 => ?_) (fun h15 => ?_)
    · refine z_iconst (pc := 36) (v := (nI 0)) dX5_areMarks_36 (by decide) ?_
      exact z_ireturn (pc := 37) dX5_areMarks_37 rfl (by decide) (⟨by first | exact Or.inr ⟨rfl, fun g => z_nle h6 g.1⟩ | exact Or.inr ⟨rfl, fun g => z_nle h15 g.2.1⟩ | exact Or.inr ⟨rfl, fun g => z_nle h24 g.2.2.1⟩ | exact Or.inr ⟨rfl, fun g => z_nle h29 g.2.2.2⟩ | exact Or.inl ⟨rfl, z_nlt h6, z_nlt h15, z_nlt h24, z_nlt h29⟩, rfl⟩)
    · refine z_iload_n (pc := 18) dX5_areMarks_18 rfl ?_
      refine z_stc (pc := 19) (f := z_least) (x := nI 5) (fun _ _ h => h.2.1) sX_X5_21 dX5_areMarks_19 dX5_areMarks_22 dX5_areMarks_23 (by decide) (z_in_nI (by decide)) ?_
      rw [e3]
      refine z_icmp_lt (pc := 24) (tgt := 36) dX5_areMarks_24 (by decide) (fun h24 => ?_) (fun h24 => ?_)
      · refine z_iconst (pc := 36) (v := (nI 0)) dX5_areMarks_36 (by decide) ?_
        exact z_ireturn (pc := 37) dX5_areMarks_37 rfl (by decide) (⟨by first | exact Or.inr ⟨rfl, fun g => z_nle h6 g.1⟩ | exact Or.inr ⟨rfl, fun g => z_nle h15 g.2.1⟩ | exact Or.inr ⟨rfl, fun g => z_nle h24 g.2.2.1⟩ | exact Or.inr ⟨rfl, fun g => z_nle h29 g.2.2.2⟩ | exact Or.inl ⟨rfl, z_nlt h6, z_nlt h15, z_nlt h24, z_nlt h29⟩, rfl⟩)
      · refine z_iload_n (pc := 27) dX5_areMarks_27 rfl ?_
        refine z_iload_n (pc := 28) dX5_areMarks_28 rfl ?_
        refine z_icmp_gt (pc := 29) (tgt := 36) dX5_areMarks_29 (by decide) (fun h29 => ?_) (fun h29 => ?_)
        · refine z_iconst (pc := 36) (v := (nI 0)) dX5_areMarks_36 (by decide) ?_
          exact z_ireturn (pc := 37) dX5_areMarks_37 rfl (by decide) (⟨by first | exact Or.inr ⟨rfl, fun g => z_nle h6 g.1⟩ | exact Or.inr ⟨rfl, fun g => z_nle h15 g.2.1⟩ | exact Or.inr ⟨rfl, fun g => z_nle h24 g.2.2.1⟩ | exact Or.inr ⟨rfl, fun g => z_nle h29 g.2.2.2⟩ | exact Or.inl ⟨rfl, z_nlt h6, z_nlt h15, z_nlt h24, z_nlt h29⟩, rfl⟩)
        · refine z_iconst (pc := 32) (v := (nI 1)) dX5_areMarks_32 (by decide) ?_
          refine z_goto (pc := 33) (tgt := 37) dX5_areMarks_33 (by decide) ?_
          exact z_ireturn (pc := 37) dX5_areMarks_37 rfl (by decide) (⟨by first | exact Or.inr ⟨rfl, fun g => z_nle h6 g.1⟩ | exact Or.inr ⟨rfl, fun g => z_nle h15 g.2.1⟩ | exact Or.inr ⟨rfl, fun g => z_nle h24 g.2.2.1⟩ | exact Or.inr ⟨rfl, fun g => z_nle h29 g.2.2.2⟩ | exact Or.inl ⟨rfl, z_nlt h6, z_nlt h15, z_nlt h24, z_nlt h29⟩, rfl⟩)
def x_copy (σ : z_Sto) : z_Sto := fun c => if c = 23 then (fun j => if j < 8 then σ 2 j else σ 23 j) else σ c
set_option maxRecDepth 20000 in
theorem c_X5_copyWithMarks {σ : z_Sto} {s o : Int32} : z_R layX iX5_copyWithMarks 0 [some (.ref 22), some (.ref 1), some (.int s), some (.int o)] [] σ (fun r σ' => r = none ∧ σ' = z_up (z_up (x_copy σ) 23 4 s) 23 5 o) := by
  refine z_aload_n (pc := 0) dX5_copyWithMarks_0 rfl ?_
  refine z_getA (pc := 1) f_X5_18 dX5_copyWithMarks_1 (by decide) rfl rfl ?_
  refine z_iconst (pc := 4) (v := (nI 0)) dX5_copyWithMarks_4 (by decide) ?_
  refine z_aload_n (pc := 5) dX5_copyWithMarks_5 rfl ?_
  refine z_getA (pc := 6) f_X5_18 dX5_copyWithMarks_6 (by decide) rfl rfl ?_
  refine z_iconst (pc := 9) (v := (nI 0)) dX5_copyWithMarks_9 (by decide) ?_
  refine z_aload_n (pc := 10) dX5_copyWithMarks_10 rfl ?_
  refine z_getA (pc := 11) f_X5_18 dX5_copyWithMarks_11 (by decide) rfl rfl ?_
  refine z_alenI (pc := 14) dX5_copyWithMarks_14 (by decide) rfl ?_
  refine z_copy8 (pc := 15) l_X5_27 (by decide) (Nat.le_of_ble_eq_true rfl) (by decide) (by decide) rfl rfl dX5_copyWithMarks_15 ?_
  refine z_aload_n (pc := 18) dX5_copyWithMarks_18 rfl ?_
  refine z_getA (pc := 19) f_X5_18 dX5_copyWithMarks_19 (by decide) rfl rfl ?_
  refine z_iconst (pc := 22) (v := (nI 4)) dX5_copyWithMarks_22 (by decide) ?_
  refine z_iload_n (pc := 23) dX5_copyWithMarks_23 rfl ?_
  refine z_iastN (pc := 24) dX5_copyWithMarks_24 (by decide) rfl (by decide) (by decide) ?_
  refine z_aload_n (pc := 25) dX5_copyWithMarks_25 rfl ?_
  refine z_getA (pc := 26) f_X5_18 dX5_copyWithMarks_26 (by decide) rfl rfl ?_
  refine z_iconst (pc := 29) (v := (nI 5)) dX5_copyWithMarks_29 (by decide) ?_
  refine z_iload_n (pc := 30) dX5_copyWithMarks_30 rfl ?_
  refine z_iastN (pc := 31) dX5_copyWithMarks_31 (by decide) rfl (by decide) (by decide) ?_
  exact z_return (pc := 32) dX5_copyWithMarks_32 rfl (⟨rfl, rfl⟩)
def x_fade (p d h : Int32) : Int32 := if d / h ≤ nI 30 then (p >>> ((d / h) &&& 31)) - (p >>> ((d / h) &&& 31)) * (d - d / h * h) / (nI 2 * h) else nI 0
theorem x_half_ne {h : Nat} (h1 : 1 ≤ h) (h2 : h ≤ 500) : ¬ nI h = 0 := nI_ne0 (by omega) (by omega)
theorem x_half2_ne {h : Nat} (h1 : 1 ≤ h) (h2 : h ≤ 500) : ¬ nI (2 * h) = 0 := nI_ne0 (by omega) (by omega)
theorem x_max1 {h : Nat} (h1 : 1 ≤ h) (h2 : h ≤ 500) : (if nI 1 < nI h then nI h else nI 1) = nI h := by
  by_cases q : h = 1
  · subst q; rfl
  · rw [if_pos ((nI_ltI (by decide) (by omega)).mpr (by omega))]
set_option maxRecDepth 20000 in
theorem c_X5_fade {σ : z_Sto} {p d : Int32} {h : Nat} (hh : σ 2 3 = nI h) (h1 : 1 ≤ h) (h2 : h ≤ 500) : z_R layX iX5_fade 0 [some (.ref 1), some (.int p), some (.int d), none, none, none] [] σ (fun r σ' => r = some (.int (x_fade p d (nI h))) ∧ σ' = σ) := by
  refine z_iconst (pc := 0) (v := (nI 1)) dX5_fade_0 (by decide) ?_
  refine z_aload_n (pc := 1) dX5_fade_1 rfl ?_
  refine z_getA (pc := 2) f_X5_18 dX5_fade_2 (by decide) rfl rfl ?_
  refine z_iconst (pc := 5) (v := (nI 3)) dX5_fade_5 (by decide) ?_
  refine z_ialdN (pc := 6) dX5_fade_6 (by decide) rfl (by decide) (by decide) ?_
  rw [hh]
  refine z_max (pc := 7) l_X5_33 (by decide) (Nat.le_of_ble_eq_true rfl) dX5_fade_7 ?_
  rw [x_max1 h1 h2]
  refine z_istore_n (pc := 10) dX5_fade_10 (by decide) rfl rfl ?_
  refine z_iload_n (pc := 11) dX5_fade_11 rfl ?_
  refine z_iload_n (pc := 12) dX5_fade_12 rfl ?_
  refine z_idiv (pc := 13) dX5_fade_13 (x_half_ne h1 h2) ?_
  refine z_istore (pc := 14) dX5_fade_14 (by decide) rfl rfl ?_
  refine z_iload (pc := 16) dX5_fade_16 rfl ?_
  refine z_bipush (pc := 18) (v := (nI 30)) dX5_fade_18 (by decide) ?_
  refine z_icmp_le (pc := 20) (tgt := 25) dX5_fade_20 (by decide) (fun h20 => ?_) (fun h20 => ?_)
  · refine z_iload_n (pc := 25) dX5_fade_25 rfl ?_
    refine z_iload (pc := 26) dX5_fade_26 rfl ?_
    refine z_ishr (pc := 28) dX5_fade_28 ?_
    refine z_istore (pc := 29) dX5_fade_29 (by decide) rfl rfl ?_
    refine z_iload (pc := 31) dX5_fade_31 rfl ?_
    refine z_iload (pc := 33) dX5_fade_33 rfl ?_
    refine z_iload_n (pc := 35) dX5_fade_35 rfl ?_
    refine z_iload_n (pc := 36) dX5_fade_36 rfl ?_
    refine z_irem (pc := 37) dX5_fade_37 (x_half_ne h1 h2) ?_
    refine z_imul (pc := 38) dX5_fade_38 ?_
    refine z_iconst (pc := 39) (v := (nI 2)) dX5_fade_39 (by decide) ?_
    refine z_iload_n (pc := 40) dX5_fade_40 rfl ?_
    refine z_imulN (pc := 41) dX5_fade_41 ?_
    refine z_idiv (pc := 42) dX5_fade_42 (x_half2_ne h1 h2) ?_
    refine z_isub (pc := 43) dX5_fade_43 ?_
    exact z_ireturn (pc := 44) dX5_fade_44 rfl rfl (⟨by rw [x_fade, if_pos h20, pk_mul], rfl⟩)
  · refine z_iconst (pc := 23) (v := (nI 0)) dX5_fade_23 (by decide) ?_
    exact z_ireturn (pc := 24) dX5_fade_24 rfl rfl (⟨by rw [x_fade, if_neg h20], rfl⟩)
set_option maxRecDepth 20000 in
theorem c_X5_fadeT {σ : z_Sto} {p d : Int32} {h : Nat} (hh : σ 23 3 = nI h) (h1 : 1 ≤ h) (h2 : h ≤ 500) : z_R layX iX5_fade 0 [some (.ref 22), some (.int p), some (.int d), none, none, none] [] σ (fun r σ' => r = some (.int (x_fade p d (nI h))) ∧ σ' = σ) := by
  refine z_iconst (pc := 0) (v := (nI 1)) dX5_fade_0 (by decide) ?_
  refine z_aload_n (pc := 1) dX5_fade_1 rfl ?_
  refine z_getA (pc := 2) f_X5_18 dX5_fade_2 (by decide) rfl rfl ?_
  refine z_iconst (pc := 5) (v := (nI 3)) dX5_fade_5 (by decide) ?_
  refine z_ialdN (pc := 6) dX5_fade_6 (by decide) rfl (by decide) (by decide) ?_
  rw [hh]
  refine z_max (pc := 7) l_X5_33 (by decide) (Nat.le_of_ble_eq_true rfl) dX5_fade_7 ?_
  rw [x_max1 h1 h2]
  refine z_istore_n (pc := 10) dX5_fade_10 (by decide) rfl rfl ?_
  refine z_iload_n (pc := 11) dX5_fade_11 rfl ?_
  refine z_iload_n (pc := 12) dX5_fade_12 rfl ?_
  refine z_idiv (pc := 13) dX5_fade_13 (x_half_ne h1 h2) ?_
  refine z_istore (pc := 14) dX5_fade_14 (by decide) rfl rfl ?_
  refine z_iload (pc := 16) dX5_fade_16 rfl ?_
  refine z_bipush (pc := 18) (v := (nI 30)) dX5_fade_18 (by decide) ?_
  refine z_icmp_le (pc := 20) (tgt := 25) dX5_fade_20 (by decide) (fun h20 => ?_) (fun h20 => ?_)
  · refine z_iload_n (pc := 25) dX5_fade_25 rfl ?_
    refine z_iload (pc := 26) dX5_fade_26 rfl ?_
    refine z_ishr (pc := 28) dX5_fade_28 ?_
    refine z_istore (pc := 29) dX5_fade_29 (by decide) rfl rfl ?_
    refine z_iload (pc := 31) dX5_fade_31 rfl ?_
    refine z_iload (pc := 33) dX5_fade_33 rfl ?_
    refine z_iload_n (pc := 35) dX5_fade_35 rfl ?_
    refine z_iload_n (pc := 36) dX5_fade_36 rfl ?_
    refine z_irem (pc := 37) dX5_fade_37 (x_half_ne h1 h2) ?_
    refine z_imul (pc := 38) dX5_fade_38 ?_
    refine z_iconst (pc := 39) (v := (nI 2)) dX5_fade_39 (by decide) ?_
    refine z_iload_n (pc := 40) dX5_fade_40 rfl ?_
    refine z_imulN (pc := 41) dX5_fade_41 ?_
    refine z_idiv (pc := 42) dX5_fade_42 (x_half2_ne h1 h2) ?_
    refine z_isub (pc := 43) dX5_fade_43 ?_
    exact z_ireturn (pc := 44) dX5_fade_44 rfl rfl (⟨by rw [x_fade, if_pos h20, pk_mul], rfl⟩)
  · refine z_iconst (pc := 23) (v := (nI 0)) dX5_fade_23 (by decide) ?_
    exact z_ireturn (pc := 24) dX5_fade_24 rfl rfl (⟨by rw [x_fade, if_neg h20], rfl⟩)
def x_tl (mark half : Int32) : Nat → Int32 → Int32 → Int32 × Int32
  | 0, l, w => (l, w)
  | f + 1, l, w => if mark ≤ l / nI 2 then x_tl mark half f (l / nI 2) (w + half) else (l, w)
def x_dv (l : Int32) : Int32 := if nI 1 < l then l else nI 1
def x_rest (mark half l : Int32) : Int32 := ((l - mark + nI 1) * nI 2 * half + x_dv l - nI 1) / x_dv l
def x_te (mark half : Int32) (q : Int32 × Int32) : Int32 := q.2 + (if x_rest mark half q.1 < half then x_rest mark half q.1 else half)
def x_ttb (p mark half : Int32) : Int32 := if mark ≤ p then x_te mark half (x_tl mark half 30 p (nI 0)) else nI 0
theorem x_dv_ne (l : Int32) : ¬ x_dv l = 0 := by
  unfold x_dv
  split
  · rename_i h
    intro e
    rw [e] at h
    exact absurd h (by decide)
  · decide
set_option maxRecDepth 20000 in
theorem c_X5_ttbl {σ : z_Sto} {p mark half : Int32} {i : Nat} {l w : Int32} (hi : i ≤ 30) : z_R layX iX5_ticksTillBelow 23 [some (.ref 1), some (.int p), some (.int mark), some (.int half), some (.int l), some (.int w), some (.int (nI i)), none, none] [] σ (fun r σ' => r = some (.int (x_te mark half (x_tl mark half (30 - i) l w))) ∧ σ' = σ) := by
  generalize hf : 30 - i = f
  induction f using Nat.strongRecOn generalizing i l w
  rename_i f ih
  refine z_iload (pc := 23) dX5_ticksTillBelow_23 rfl ?_
  refine z_bipush (pc := 25) (v := (nI 30)) dX5_ticksTillBelow_25 (by decide) ?_
  refine z_icmp_ge (pc := 27) (tgt := 56) dX5_ticksTillBelow_27 (by decide) (fun h27 => ?_) (fun h27 => ?_)
  · have q27 : i = 30 := by have := (nI_leI (by decide) (by omega)).mp h27; omega
    have hq : x_tl mark half f l w = (l, w) := by rw [← hf, q27]; rfl
    refine z_iload (pc := 56) dX5_ticksTillBelow_56 rfl ?_
    refine z_iload_n (pc := 58) dX5_ticksTillBelow_58 rfl ?_
    refine z_isub (pc := 59) dX5_ticksTillBelow_59 ?_
    refine z_iconst (pc := 60) (v := (nI 1)) dX5_ticksTillBelow_60 (by decide) ?_
    refine z_iadd (pc := 61) dX5_ticksTillBelow_61 ?_
    refine z_istore (pc := 62) dX5_ticksTillBelow_62 (by decide) rfl rfl ?_
    refine z_iconst (pc := 64) (v := (nI 1)) dX5_ticksTillBelow_64 (by decide) ?_
    refine z_iload (pc := 65) dX5_ticksTillBelow_65 rfl ?_
    refine z_max (pc := 67) l_X5_33 (by decide) (Nat.le_of_ble_eq_true rfl) dX5_ticksTillBelow_67 ?_
    refine z_istore (pc := 70) dX5_ticksTillBelow_70 (by decide) rfl rfl ?_
    refine z_iload (pc := 72) dX5_ticksTillBelow_72 rfl ?_
    refine z_iconst (pc := 74) (v := (nI 2)) dX5_ticksTillBelow_74 (by decide) ?_
    refine z_imul (pc := 75) dX5_ticksTillBelow_75 ?_
    refine z_iload_n (pc := 76) dX5_ticksTillBelow_76 rfl ?_
    refine z_imul (pc := 77) dX5_ticksTillBelow_77 ?_
    refine z_iload (pc := 78) dX5_ticksTillBelow_78 rfl ?_
    refine z_iadd (pc := 80) dX5_ticksTillBelow_80 ?_
    refine z_iconst (pc := 81) (v := (nI 1)) dX5_ticksTillBelow_81 (by decide) ?_
    refine z_isub (pc := 82) dX5_ticksTillBelow_82 ?_
    refine z_iload (pc := 83) dX5_ticksTillBelow_83 rfl ?_
    refine z_idiv (pc := 85) dX5_ticksTillBelow_85 (x_dv_ne _) ?_
    refine z_istore (pc := 86) dX5_ticksTillBelow_86 (by decide) rfl rfl ?_
    refine z_iload (pc := 88) dX5_ticksTillBelow_88 rfl ?_
    refine z_iload_n (pc := 90) dX5_ticksTillBelow_90 rfl ?_
    refine z_iload (pc := 91) dX5_ticksTillBelow_91 rfl ?_
    refine z_min (pc := 93) l_X5_39 (by decide) (Nat.le_of_ble_eq_true rfl) dX5_ticksTillBelow_93 ?_
    refine z_iadd (pc := 96) dX5_ticksTillBelow_96 ?_
    exact z_ireturn (pc := 97) dX5_ticksTillBelow_97 rfl rfl (⟨by rw [hq]; rfl, rfl⟩)
  · have q27 : i < 30 := by have : ¬ 30 ≤ i := fun q => h27 ((nI_leI (by decide) (by omega)).mpr q); omega
    have hf1 : f = (30 - (i + 1)) + 1 := by omega
    refine z_iload (pc := 30) dX5_ticksTillBelow_30 rfl ?_
    refine z_iconst (pc := 32) (v := (nI 2)) dX5_ticksTillBelow_32 (by decide) ?_
    refine z_idiv (pc := 33) dX5_ticksTillBelow_33 (by decide) ?_
    refine z_iload_n (pc := 34) dX5_ticksTillBelow_34 rfl ?_
    refine z_icmp_lt (pc := 35) (tgt := 56) dX5_ticksTillBelow_35 (by decide) (fun h35 => ?_) (fun h35 => ?_)
    · have hq : x_tl mark half f l w = (l, w) := by rw [hf1, x_tl, if_neg (z_nle h35)]
      refine z_iload (pc := 56) dX5_ticksTillBelow_56 rfl ?_
      refine z_iload_n (pc := 58) dX5_ticksTillBelow_58 rfl ?_
      refine z_isub (pc := 59) dX5_ticksTillBelow_59 ?_
      refine z_iconst (pc := 60) (v := (nI 1)) dX5_ticksTillBelow_60 (by decide) ?_
      refine z_iadd (pc := 61) dX5_ticksTillBelow_61 ?_
      refine z_istore (pc := 62) dX5_ticksTillBelow_62 (by decide) rfl rfl ?_
      refine z_iconst (pc := 64) (v := (nI 1)) dX5_ticksTillBelow_64 (by decide) ?_
      refine z_iload (pc := 65) dX5_ticksTillBelow_65 rfl ?_
      refine z_max (pc := 67) l_X5_33 (by decide) (Nat.le_of_ble_eq_true rfl) dX5_ticksTillBelow_67 ?_
      refine z_istore (pc := 70) dX5_ticksTillBelow_70 (by decide) rfl rfl ?_
      refine z_iload (pc := 72) dX5_ticksTillBelow_72 rfl ?_
      refine z_iconst (pc := 74) (v := (nI 2)) dX5_ticksTillBelow_74 (by decide) ?_
      refine z_imul (pc := 75) dX5_ticksTillBelow_75 ?_
      refine z_iload_n (pc := 76) dX5_ticksTillBelow_76 rfl ?_
      refine z_imul (pc := 77) dX5_ticksTillBelow_77 ?_
      refine z_iload (pc := 78) dX5_ticksTillBelow_78 rfl ?_
      refine z_iadd (pc := 80) dX5_ticksTillBelow_80 ?_
      refine z_iconst (pc := 81) (v := (nI 1)) dX5_ticksTillBelow_81 (by decide) ?_
      refine z_isub (pc := 82) dX5_ticksTillBelow_82 ?_
      refine z_iload (pc := 83) dX5_ticksTillBelow_83 rfl ?_
      refine z_idiv (pc := 85) dX5_ticksTillBelow_85 (x_dv_ne _) ?_
      refine z_istore (pc := 86) dX5_ticksTillBelow_86 (by decide) rfl rfl ?_
      refine z_iload (pc := 88) dX5_ticksTillBelow_88 rfl ?_
      refine z_iload_n (pc := 90) dX5_ticksTillBelow_90 rfl ?_
      refine z_iload (pc := 91) dX5_ticksTillBelow_91 rfl ?_
      refine z_min (pc := 93) l_X5_39 (by decide) (Nat.le_of_ble_eq_true rfl) dX5_ticksTillBelow_93 ?_
      refine z_iadd (pc := 96) dX5_ticksTillBelow_96 ?_
      exact z_ireturn (pc := 97) dX5_ticksTillBelow_97 rfl rfl (⟨by rw [hq]; rfl, rfl⟩)
    · refine z_iload (pc := 38) dX5_ticksTillBelow_38 rfl ?_
      refine z_iconst (pc := 40) (v := (nI 2)) dX5_ticksTillBelow_40 (by decide) ?_
      refine z_idiv (pc := 41) dX5_ticksTillBelow_41 (by decide) ?_
      refine z_istore (pc := 42) dX5_ticksTillBelow_42 (by decide) rfl rfl ?_
      refine z_iload (pc := 44) dX5_ticksTillBelow_44 rfl ?_
      refine z_iload_n (pc := 46) dX5_ticksTillBelow_46 rfl ?_
      refine z_iadd (pc := 47) dX5_ticksTillBelow_47 ?_
      refine z_istore (pc := 48) dX5_ticksTillBelow_48 (by decide) rfl rfl ?_
      refine z_iincN (pc := 50) dX5_ticksTillBelow_50 rfl (by decide) rfl rfl ?_
      refine z_goto (pc := 53) (tgt := 23) dX5_ticksTillBelow_53 (by decide) ?_
      rw [show x_tl mark half f l w = x_tl mark half (30 - (i + 1)) (l / nI 2) (w + half) by rw [hf1, x_tl, if_pos (z_nlt h35)]]
      exact ih _ (by omega) (i := i + 1) (by omega) rfl
set_option maxRecDepth 20000 in
theorem c_X5_ttb {σ : z_Sto} {p mark : Int32} : z_R layX iX5_ticksTillBelow 0 [some (.ref 1), some (.int p), some (.int mark), none, none, none, none, none, none] [] σ (fun r σ' => r = some (.int (x_ttb p mark (σ 2 3))) ∧ σ' = σ) := by
  refine z_iload_n (pc := 0) dX5_ticksTillBelow_0 rfl ?_
  refine z_iload_n (pc := 1) dX5_ticksTillBelow_1 rfl ?_
  refine z_icmp_ge (pc := 2) (tgt := 7) dX5_ticksTillBelow_2 (by decide) (fun h2 => ?_) (fun h2 => ?_)
  · refine z_aload_n (pc := 7) dX5_ticksTillBelow_7 rfl ?_
    refine z_getA (pc := 8) f_X5_18 dX5_ticksTillBelow_8 (by decide) rfl rfl ?_
    refine z_iconst (pc := 11) (v := (nI 3)) dX5_ticksTillBelow_11 (by decide) ?_
    refine z_ialdN (pc := 12) dX5_ticksTillBelow_12 (by decide) rfl (by decide) (by decide) ?_
    refine z_istore_n (pc := 13) dX5_ticksTillBelow_13 (by decide) rfl rfl ?_
    refine z_iload_n (pc := 14) dX5_ticksTillBelow_14 rfl ?_
    refine z_istore (pc := 15) dX5_ticksTillBelow_15 (by decide) rfl rfl ?_
    refine z_iconst (pc := 17) (v := (nI 0)) dX5_ticksTillBelow_17 (by decide) ?_
    refine z_istore (pc := 18) dX5_ticksTillBelow_18 (by decide) rfl rfl ?_
    refine z_iconst (pc := 20) (v := (nI 0)) dX5_ticksTillBelow_20 (by decide) ?_
    refine z_istore (pc := 21) dX5_ticksTillBelow_21 (by decide) rfl rfl ?_
    exact (c_X5_ttbl (i := 0) (by decide)).mono (fun r σ' h => by rw [x_ttb, if_pos h2]; exact h)
  · refine z_iconst (pc := 5) (v := (nI 0)) dX5_ticksTillBelow_5 (by decide) ?_
    exact z_ireturn (pc := 6) dX5_ticksTillBelow_6 rfl rfl (⟨by rw [x_ttb, if_neg h2], rfl⟩)
set_option maxRecDepth 20000 in
theorem c_X5_ttblT {σ : z_Sto} {p mark half : Int32} {i : Nat} {l w : Int32} (hi : i ≤ 30) : z_R layX iX5_ticksTillBelow 23 [some (.ref 22), some (.int p), some (.int mark), some (.int half), some (.int l), some (.int w), some (.int (nI i)), none, none] [] σ (fun r σ' => r = some (.int (x_te mark half (x_tl mark half (30 - i) l w))) ∧ σ' = σ) := by
  generalize hf : 30 - i = f
  induction f using Nat.strongRecOn generalizing i l w
  rename_i f ih
  refine z_iload (pc := 23) dX5_ticksTillBelow_23 rfl ?_
  refine z_bipush (pc := 25) (v := (nI 30)) dX5_ticksTillBelow_25 (by decide) ?_
  refine z_icmp_ge (pc := 27) (tgt := 56) dX5_ticksTillBelow_27 (by decide) (fun h27 => ?_) (fun h27 => ?_)
  · have q27 : i = 30 := by have := (nI_leI (by decide) (by omega)).mp h27; omega
    have hq : x_tl mark half f l w = (l, w) := by rw [← hf, q27]; rfl
    refine z_iload (pc := 56) dX5_ticksTillBelow_56 rfl ?_
    refine z_iload_n (pc := 58) dX5_ticksTillBelow_58 rfl ?_
    refine z_isub (pc := 59) dX5_ticksTillBelow_59 ?_
    refine z_iconst (pc := 60) (v := (nI 1)) dX5_ticksTillBelow_60 (by decide) ?_
    refine z_iadd (pc := 61) dX5_ticksTillBelow_61 ?_
    refine z_istore (pc := 62) dX5_ticksTillBelow_62 (by decide) rfl rfl ?_
    refine z_iconst (pc := 64) (v := (nI 1)) dX5_ticksTillBelow_64 (by decide) ?_
    refine z_iload (pc := 65) dX5_ticksTillBelow_65 rfl ?_
    refine z_max (pc := 67) l_X5_33 (by decide) (Nat.le_of_ble_eq_true rfl) dX5_ticksTillBelow_67 ?_
    refine z_istore (pc := 70) dX5_ticksTillBelow_70 (by decide) rfl rfl ?_
    refine z_iload (pc := 72) dX5_ticksTillBelow_72 rfl ?_
    refine z_iconst (pc := 74) (v := (nI 2)) dX5_ticksTillBelow_74 (by decide) ?_
    refine z_imul (pc := 75) dX5_ticksTillBelow_75 ?_
    refine z_iload_n (pc := 76) dX5_ticksTillBelow_76 rfl ?_
    refine z_imul (pc := 77) dX5_ticksTillBelow_77 ?_
    refine z_iload (pc := 78) dX5_ticksTillBelow_78 rfl ?_
    refine z_iadd (pc := 80) dX5_ticksTillBelow_80 ?_
    refine z_iconst (pc := 81) (v := (nI 1)) dX5_ticksTillBelow_81 (by decide) ?_
    refine z_isub (pc := 82) dX5_ticksTillBelow_82 ?_
    refine z_iload (pc := 83) dX5_ticksTillBelow_83 rfl ?_
    refine z_idiv (pc := 85) dX5_ticksTillBelow_85 (x_dv_ne _) ?_
    refine z_istore (pc := 86) dX5_ticksTillBelow_86 (by decide) rfl rfl ?_
    refine z_iload (pc := 88) dX5_ticksTillBelow_88 rfl ?_
    refine z_iload_n (pc := 90) dX5_ticksTillBelow_90 rfl ?_
    refine z_iload (pc := 91) dX5_ticksTillBelow_91 rfl ?_
    refine z_min (pc := 93) l_X5_39 (by decide) (Nat.le_of_ble_eq_true rfl) dX5_ticksTillBelow_93 ?_
    refine z_iadd (pc := 96) dX5_ticksTillBelow_96 ?_
    exact z_ireturn (pc := 97) dX5_ticksTillBelow_97 rfl rfl (⟨by rw [hq]; rfl, rfl⟩)
  · have q27 : i < 30 := by have : ¬ 30 ≤ i := fun q => h27 ((nI_leI (by decide) (by omega)).mpr q); omega
    have hf1 : f = (30 - (i + 1)) + 1 := by omega
    refine z_iload (pc := 30) dX5_ticksTillBelow_30 rfl ?_
    refine z_iconst (pc := 32) (v := (nI 2)) dX5_ticksTillBelow_32 (by decide) ?_
    refine z_idiv (pc := 33) dX5_ticksTillBelow_33 (by decide) ?_
    refine z_iload_n (pc := 34) dX5_ticksTillBelow_34 rfl ?_
    refine z_icmp_lt (pc := 35) (tgt := 56) dX5_ticksTillBelow_35 (by decide) (fun h35 => ?_) (fun h35 => ?_)
    · have hq : x_tl mark half f l w = (l, w) := by rw [hf1, x_tl, if_neg (z_nle h35)]
      refine z_iload (pc := 56) dX5_ticksTillBelow_56 rfl ?_
      refine z_iload_n (pc := 58) dX5_ticksTillBelow_58 rfl ?_
      refine z_isub (pc := 59) dX5_ticksTillBelow_59 ?_
      refine z_iconst (pc := 60) (v := (nI 1)) dX5_ticksTillBelow_60 (by decide) ?_
      refine z_iadd (pc := 61) dX5_ticksTillBelow_61 ?_
      refine z_istore (pc := 62) dX5_ticksTillBelow_62 (by decide) rfl rfl ?_
      refine z_iconst (pc := 64) (v := (nI 1)) dX5_ticksTillBelow_64 (by decide) ?_
      refine z_iload (pc := 65) dX5_ticksTillBelow_65 rfl ?_
      refine z_max (pc := 67) l_X5_33 (by decide) (Nat.le_of_ble_eq_true rfl) dX5_ticksTillBelow_67 ?_
      refine z_istore (pc := 70) dX5_ticksTillBelow_70 (by decide) rfl rfl ?_
      refine z_iload (pc := 72) dX5_ticksTillBelow_72 rfl ?_
      refine z_iconst (pc := 74) (v := (nI 2)) dX5_ticksTillBelow_74 (by decide) ?_
      refine z_imul (pc := 75) dX5_ticksTillBelow_75 ?_
      refine z_iload_n (pc := 76) dX5_ticksTillBelow_76 rfl ?_
      refine z_imul (pc := 77) dX5_ticksTillBelow_77 ?_
      refine z_iload (pc := 78) dX5_ticksTillBelow_78 rfl ?_
      refine z_iadd (pc := 80) dX5_ticksTillBelow_80 ?_
      refine z_iconst (pc := 81) (v := (nI 1)) dX5_ticksTillBelow_81 (by decide) ?_
      refine z_isub (pc := 82) dX5_ticksTillBelow_82 ?_
      refine z_iload (pc := 83) dX5_ticksTillBelow_83 rfl ?_
      refine z_idiv (pc := 85) dX5_ticksTillBelow_85 (x_dv_ne _) ?_
      refine z_istore (pc := 86) dX5_ticksTillBelow_86 (by decide) rfl rfl ?_
      refine z_iload (pc := 88) dX5_ticksTillBelow_88 rfl ?_
      refine z_iload_n (pc := 90) dX5_ticksTillBelow_90 rfl ?_
      refine z_iload (pc := 91) dX5_ticksTillBelow_91 rfl ?_
      refine z_min (pc := 93) l_X5_39 (by decide) (Nat.le_of_ble_eq_true rfl) dX5_ticksTillBelow_93 ?_
      refine z_iadd (pc := 96) dX5_ticksTillBelow_96 ?_
      exact z_ireturn (pc := 97) dX5_ticksTillBelow_97 rfl rfl (⟨by rw [hq]; rfl, rfl⟩)
    · refine z_iload (pc := 38) dX5_ticksTillBelow_38 rfl ?_
      refine z_iconst (pc := 40) (v := (nI 2)) dX5_ticksTillBelow_40 (by decide) ?_
      refine z_idiv (pc := 41) dX5_ticksTillBelow_41 (by decide) ?_
      refine z_istore (pc := 42) dX5_ticksTillBelow_42 (by decide) rfl rfl ?_
      refine z_iload (pc := 44) dX5_ticksTillBelow_44 rfl ?_
      refine z_iload_n (pc := 46) dX5_ticksTillBelow_46 rfl ?_
      refine z_iadd (pc := 47) dX5_ticksTillBelow_47 ?_
      refine z_istore (pc := 48) dX5_ticksTillBelow_48 (by decide) rfl rfl ?_
      refine z_iincN (pc := 50) dX5_ticksTillBelow_50 rfl (by decide) rfl rfl ?_
      refine z_goto (pc := 53) (tgt := 23) dX5_ticksTillBelow_53 (by decide) ?_
      rw [show x_tl mark half f l w = x_tl mark half (30 - (i + 1)) (l / nI 2) (w + half) by rw [hf1, x_tl, if_pos (z_nlt h35)]]
      exact ih _ (by omega) (i := i + 1) (by omega) rfl
set_option maxRecDepth 20000 in
theorem c_X5_ttbT {σ : z_Sto} {p mark : Int32} : z_R layX iX5_ticksTillBelow 0 [some (.ref 22), some (.int p), some (.int mark), none, none, none, none, none, none] [] σ (fun r σ' => r = some (.int (x_ttb p mark (σ 23 3))) ∧ σ' = σ) := by
  refine z_iload_n (pc := 0) dX5_ticksTillBelow_0 rfl ?_
  refine z_iload_n (pc := 1) dX5_ticksTillBelow_1 rfl ?_
  refine z_icmp_ge (pc := 2) (tgt := 7) dX5_ticksTillBelow_2 (by decide) (fun h2 => ?_) (fun h2 => ?_)
  · refine z_aload_n (pc := 7) dX5_ticksTillBelow_7 rfl ?_
    refine z_getA (pc := 8) f_X5_18 dX5_ticksTillBelow_8 (by decide) rfl rfl ?_
    refine z_iconst (pc := 11) (v := (nI 3)) dX5_ticksTillBelow_11 (by decide) ?_
    refine z_ialdN (pc := 12) dX5_ticksTillBelow_12 (by decide) rfl (by decide) (by decide) ?_
    refine z_istore_n (pc := 13) dX5_ticksTillBelow_13 (by decide) rfl rfl ?_
    refine z_iload_n (pc := 14) dX5_ticksTillBelow_14 rfl ?_
    refine z_istore (pc := 15) dX5_ticksTillBelow_15 (by decide) rfl rfl ?_
    refine z_iconst (pc := 17) (v := (nI 0)) dX5_ticksTillBelow_17 (by decide) ?_
    refine z_istore (pc := 18) dX5_ticksTillBelow_18 (by decide) rfl rfl ?_
    refine z_iconst (pc := 20) (v := (nI 0)) dX5_ticksTillBelow_20 (by decide) ?_
    refine z_istore (pc := 21) dX5_ticksTillBelow_21 (by decide) rfl rfl ?_
    exact (c_X5_ttblT (i := 0) (by decide)).mono (fun r σ' h => by rw [x_ttb, if_pos h2]; exact h)
  · refine z_iconst (pc := 5) (v := (nI 0)) dX5_ticksTillBelow_5 (by decide) ?_
    exact z_ireturn (pc := 6) dX5_ticksTillBelow_6 rfl rfl (⟨by rw [x_ttb, if_neg h2], rfl⟩)
def x_bits (f : Nat → Int32) : Nat → Int32
  | 0 => nI 0
  | k + 1 => if f k = 0 then x_bits f k else x_bits f k ||| (nI 1 <<< (nI k &&& 31))
set_option maxRecDepth 20000 in
theorem c_X4_ml {σ : z_Sto} {n i : Nat} {v : Int32} (hn : σ 3 3 = nI n) (h12 : n ≤ 12) (hi : i ≤ n) (hv : v = x_bits (σ 6) i) : z_R layX iX4_markedLines 4 [some (.ref 3), some (.int v), some (.int (nI i))] [] σ (fun r σ' => r = some (.int (x_bits (σ 6) n)) ∧ σ' = σ) := by
  generalize hf : n - i = f
  induction f using Nat.strongRecOn generalizing i v
  rename_i f ih
  refine z_iload_n (pc := 4) dX4_markedLines_4 rfl ?_
  refine z_aload_n (pc := 5) dX4_markedLines_5 rfl ?_
  refine z_getI (pc := 6) f_X4_21 dX4_markedLines_6 (by decide) rfl rfl ?_
  rw [hn]
  refine z_icmp_ge (pc := 9) (tgt := 33) dX4_markedLines_9 (by decide) (fun h9 => ?_) (fun h9 => ?_)
  · have q9 : i = n := by have := (nI_leI (by omega) (by omega)).mp h9; omega
    refine z_iload_n (pc := 33) dX4_markedLines_33 rfl ?_
    exact z_ireturn (pc := 34) dX4_markedLines_34 rfl rfl (⟨by rw [hv, q9], rfl⟩)
  · have q9 : i < n := by have : ¬ n ≤ i := fun q => h9 ((nI_leI (by omega) (by omega)).mpr q); omega
    refine z_aload_n (pc := 12) dX4_markedLines_12 rfl ?_
    refine z_getA (pc := 13) f_X4_18 dX4_markedLines_13 (by decide) rfl rfl ?_
    refine z_iload_n (pc := 16) dX4_markedLines_16 rfl ?_
    refine z_ialdN (pc := 17) dX4_markedLines_17 (by decide) rfl (by decide) (by omega) ?_
    refine z_if_eq (pc := 18) (tgt := 27) dX4_markedLines_18 (by decide) (fun h18 => ?_) (fun h18 => ?_)
    · refine z_iincN (pc := 27) dX4_markedLines_27 rfl (by decide) rfl rfl ?_
      refine z_goto (pc := 30) (tgt := 4) dX4_markedLines_30 (by decide) ?_
      exact ih _ (by omega) (i := i + 1) (by omega) (by rw [x_bits]; first | rw [if_pos h18, hv] | rw [if_neg h18, hv]) rfl
    · refine z_iload_n (pc := 21) dX4_markedLines_21 rfl ?_
      refine z_iconst (pc := 22) (v := (nI 1)) dX4_markedLines_22 (by decide) ?_
      refine z_iload_n (pc := 23) dX4_markedLines_23 rfl ?_
      refine z_ishl (pc := 24) dX4_markedLines_24 ?_
      refine z_ior (pc := 25) dX4_markedLines_25 ?_
      refine z_istore_n (pc := 26) dX4_markedLines_26 (by decide) rfl rfl ?_
      refine z_iincN (pc := 27) dX4_markedLines_27 rfl (by decide) rfl rfl ?_
      refine z_goto (pc := 30) (tgt := 4) dX4_markedLines_30 (by decide) ?_
      exact ih _ (by omega) (i := i + 1) (by omega) (by rw [x_bits]; first | rw [if_pos h18, hv] | rw [if_neg h18, hv]) rfl
set_option maxRecDepth 20000 in
theorem c_X4_markedLines {σ : z_Sto} {n : Nat} (hn : σ 3 3 = nI n) (h12 : n ≤ 12) : z_R layX iX4_markedLines 0 [some (.ref 3), none, none] [] σ (fun r σ' => r = some (.int (x_bits (σ 6) n)) ∧ σ' = σ) := by
  refine z_iconst (pc := 0) (v := (nI 0)) dX4_markedLines_0 (by decide) ?_
  refine z_istore_n (pc := 1) dX4_markedLines_1 (by decide) rfl rfl ?_
  refine z_iconst (pc := 2) (v := (nI 0)) dX4_markedLines_2 (by decide) ?_
  refine z_istore_n (pc := 3) dX4_markedLines_3 (by decide) rfl rfl ?_
  exact c_X4_ml (i := 0) hn h12 (by omega) rfl
end
section
/-! what the Board's methods do to the cells: b the board's cell, v the cell of its rules' numbers -/
def x_fst (s : Nat) : Nat := if s < 12 then s else 0
def x_end (s n : Nat) : Nat := if s < 12 then (if s + 1 < n then s + 1 else n) else n
def x_sn (b s i : Nat) (σ : z_Sto) : Int32 := if σ (b + 5) i = 0 then nI 0 else if σ (b + 4) s = 0 then nI 1 else nI 0
def x_l1 (b s i : Nat) (σ : z_Sto) : z_Sto := if σ 5 i = nI s ∧ ¬ x_sn b s i σ = σ (b + 6) i then z_up (z_up σ (b + 6) i (x_sn b s i σ)) (b + 7) i (σ (b + 7) i + nI 1) else σ
def x_lk (b s : Nat) : Nat → Nat → z_Sto → z_Sto
  | 0, _, σ => σ
  | f + 1, i, σ => x_lk b s f (i + 1) (x_l1 b s i σ)
def x_look (b s n : Nat) (σ : z_Sto) : z_Sto := x_lk b s (x_end s n - x_fst s) (x_fst s) σ
def x_pen (b v s : Nat) (t : Int32) (σ : z_Sto) : Int32 := x_fade (σ (b + 1) s) (t - σ (b + 2) s) (σ v 3)
def x_r1 (b v s : Nat) (t : Int32) (σ : z_Sto) : z_Sto := z_up (z_up σ (b + 1) s (x_pen b v s t σ)) (b + 2) s t
def x_rp (b v : Nat) (t : Int32) : Nat → Nat → z_Sto → z_Sto
  | 0, _, σ => σ
  | f + 1, s, σ => x_rp b v t f (s + 1) (x_r1 b v s t σ)
def x_opn (b v s : Nat) (t : Int32) (σ : z_Sto) : Int32 := if t + nI 1 < σ (b + 2) s + x_ttb (σ (b + 1) s) (σ v 5) (σ v 3) then σ (b + 2) s + x_ttb (σ (b + 1) s) (σ v 5) (σ v 3) else t + nI 1
def x_wgt (b v i w : Nat) (t : Int32) (σ : z_Sto) : Int32 := if w = 0 ∧ σ 4 i = nI 2 ∧ σ (b + 9) i < t - σ v 7 then nI 0 else σ v w
def x_o1 (b s i : Nat) (k : Int32) (σ : z_Sto) : z_Sto := if ¬ σ (b + 5) i = 0 ∧ σ 5 i = nI s then z_up σ (b + 8) i (σ (b + 8) i + k) else σ
def x_lo (b s : Nat) (k : Int32) : Nat → Nat → z_Sto → z_Sto
  | 0, _, σ => σ
  | f + 1, i, σ => x_lo b s k f (i + 1) (x_o1 b s i k σ)
def x_tsh (to op fr : Int32) : Int32 := (if op - nI 1 < to then op - nI 1 else to) - fr
def x_set (b v s n : Nat) (to : Int32) (σ : z_Sto) : z_Sto :=
  if σ (b + 4) s = 0 ∨ ¬ σ (b + 3) s < to then z_up σ (b + 3) s to
  else x_look b s n (x_lo b s (x_tsh to (x_opn b v s (σ (b + 3) s) (z_up σ (b + 3) s to)) (σ (b + 3) s)) (x_end s n - x_fst s) (x_fst s) (z_up (z_up σ (b + 3) s to) (b + 4) s (if x_opn b v s (σ (b + 3) s) (z_up σ (b + 3) s to) ≤ to then nI 0 else nI 1)))
def x_sa (b v n : Nat) (to : Int32) : Nat → Nat → z_Sto → z_Sto
  | 0, _, σ => σ
  | f + 1, s, σ => x_sa b v n to f (s + 1) (x_set b v s n to σ)
/-- behind settling: the penalty, its tick, the line's last event -/
def x_t1 (b v s i w : Nat) (t : Int32) (σ : z_Sto) : z_Sto := z_up (z_up (z_up σ (b + 1) s (if x_pen b v s t σ + x_wgt b v i w t σ < σ v 6 then x_pen b v s t σ + x_wgt b v i w t σ else σ v 6)) (b + 2) s t) (b + 9) i t
def x_t2 (b i w : Nat) (σ : z_Sto) : z_Sto := if w = 2 then σ else z_up σ (b + 5) i (if w = 1 then nI 1 else nI 0)
def x_t3 (b v s : Nat) (σ : z_Sto) : z_Sto := if σ (b + 1) s ≤ σ v 4 then σ else z_up (z_up σ (b + 4) s (nI 1)) b 11 (nI 1)
def x_take (b v s i w n : Nat) (t : Int32) (σ : z_Sto) : z_Sto := x_look b s n (x_t3 b v s (x_t2 b i w (x_t1 b v s i w t (x_set b v s n t σ))))
def x_s1 (b s : Nat) (σ : z_Sto) : z_Sto := z_up (z_up (z_up (z_up σ (b + 1) s (nI 0)) (b + 2) s (nI 0)) (b + 3) s (nI 0)) (b + 4) s (nI 0)
def x_ra (b : Nat) : Nat → Nat → z_Sto → z_Sto
  | 0, _, σ => σ
  | f + 1, s, σ => x_ra b f (s + 1) (x_s1 b s σ)
def x_s2 (b i : Nat) (σ : z_Sto) : z_Sto := z_up (z_up (z_up (z_up (z_up σ (b + 5) i (nI 1)) (b + 6) i (nI 1)) (b + 7) i (nI 0)) (b + 8) i (nI 0)) (b + 9) i (-1000000)
def x_rb (b : Nat) : Nat → Nat → z_Sto → z_Sto
  | 0, _, σ => σ
  | f + 1, i, σ => x_rb b f (i + 1) (x_s2 b i σ)
def x_restart (b : Nat) (σ : z_Sto) : z_Sto := x_rb b 12 0 (x_ra b 16 0 (z_up σ b 11 (nI 0)))
/-! what they leave alone -/
def x_away (b c : Nat) : Prop := c < b ∨ b + 9 < c
theorem x_l1_fr {b s i c : Nat} {σ : z_Sto} (h : c ≠ b + 6 ∧ c ≠ b + 7) : x_l1 b s i σ c = σ c := by
  unfold x_l1
  split
  · rw [z_up_ne _ _ _ h.2, z_up_ne _ _ _ h.1]
  · rfl
theorem x_lk_fr {b s c : Nat} (h : c ≠ b + 6 ∧ c ≠ b + 7) : ∀ (f i : Nat) (σ : z_Sto), x_lk b s f i σ c = σ c
  | 0, _, _ => rfl
  | f + 1, i, σ => by rw [x_lk, x_lk_fr h f, x_l1_fr h]
theorem x_look_fr {b s n c : Nat} {σ : z_Sto} (h : c ≠ b + 6 ∧ c ≠ b + 7) : x_look b s n σ c = σ c := x_lk_fr h _ _ _
theorem x_o1_fr {b s i c : Nat} {k : Int32} {σ : z_Sto} (h : c ≠ b + 8) : x_o1 b s i k σ c = σ c := by
  unfold x_o1
  split
  · rw [z_up_ne _ _ _ h]
  · rfl
theorem x_lo_fr {b s c : Nat} {k : Int32} (h : c ≠ b + 8) : ∀ (f i : Nat) (σ : z_Sto), x_lo b s k f i σ c = σ c
  | 0, _, _ => rfl
  | f + 1, i, σ => by rw [x_lo, x_lo_fr h f, x_o1_fr h]
theorem x_set_fr {b v s n c : Nat} {to : Int32} {σ : z_Sto} (h : c ≠ b + 3 ∧ c ≠ b + 4 ∧ c ≠ b + 6 ∧ c ≠ b + 7 ∧ c ≠ b + 8) : x_set b v s n to σ c = σ c := by
  unfold x_set
  split
  · rw [z_up_ne _ _ _ h.1]
  · rw [x_look_fr ⟨h.2.2.1, h.2.2.2.1⟩, x_lo_fr h.2.2.2.2, z_up_ne _ _ _ h.2.1, z_up_ne _ _ _ h.1]
theorem x_sa_fr {b v n c : Nat} {to : Int32} (h : c ≠ b + 3 ∧ c ≠ b + 4 ∧ c ≠ b + 6 ∧ c ≠ b + 7 ∧ c ≠ b + 8) : ∀ (f s : Nat) (σ : z_Sto), x_sa b v n to f s σ c = σ c
  | 0, _, _ => rfl
  | f + 1, s, σ => by rw [x_sa, x_sa_fr h f, x_set_fr h]
theorem x_r1_fr {b v s c : Nat} {t : Int32} {σ : z_Sto} (h : c ≠ b + 1 ∧ c ≠ b + 2) : x_r1 b v s t σ c = σ c := by
  rw [x_r1, z_up_ne _ _ _ h.2, z_up_ne _ _ _ h.1]
theorem x_rp_fr {b v c : Nat} {t : Int32} (h : c ≠ b + 1 ∧ c ≠ b + 2) : ∀ (f s : Nat) (σ : z_Sto), x_rp b v t f s σ c = σ c
  | 0, _, _ => rfl
  | f + 1, s, σ => by rw [x_rp, x_rp_fr h f, x_r1_fr h]
theorem x_take_fr {b v s i w n c : Nat} {t : Int32} {σ : z_Sto} (h : x_away b c) : x_take b v s i w n t σ c = σ c := by
  unfold x_away at h
  have h0 : c ≠ b := by omega
  have h1 : c ≠ b + 1 := by omega
  have h2 : c ≠ b + 2 := by omega
  have h4 : c ≠ b + 4 := by omega
  have h5 : c ≠ b + 5 := by omega
  have h9 : c ≠ b + 9 := by omega
  have e3 : ∀ τ : z_Sto, x_t3 b v s τ c = τ c := fun τ => by
    unfold x_t3
    split
    · rfl
    · rw [z_up_ne _ _ _ h0, z_up_ne _ _ _ h4]
  have e2 : ∀ τ : z_Sto, x_t2 b i w τ c = τ c := fun τ => by
    unfold x_t2
    split
    · rfl
    · rw [z_up_ne _ _ _ h5]
  have e1 : ∀ τ : z_Sto, x_t1 b v s i w t τ c = τ c := fun τ => by
    rw [x_t1, z_up_ne _ _ _ h9, z_up_ne _ _ _ h2, z_up_ne _ _ _ h1]
  rw [x_take, x_look_fr (by omega), e3, e2, e1, x_set_fr (by omega)]
theorem x_ra_fr {b c : Nat} (h : x_away b c) : ∀ (f s : Nat) (σ : z_Sto), x_ra b f s σ c = σ c
  | 0, _, _ => rfl
  | f + 1, s, σ => by
    unfold x_away at h
    rw [x_ra, x_ra_fr h f, x_s1, z_up_ne _ _ _ (by omega), z_up_ne _ _ _ (by omega), z_up_ne _ _ _ (by omega), z_up_ne _ _ _ (by omega)]
theorem x_rb_fr {b c : Nat} (h : x_away b c) : ∀ (f s : Nat) (σ : z_Sto), x_rb b f s σ c = σ c
  | 0, _, _ => rfl
  | f + 1, s, σ => by
    unfold x_away at h
    rw [x_rb, x_rb_fr h f, x_s2, z_up_ne _ _ _ (by omega), z_up_ne _ _ _ (by omega), z_up_ne _ _ _ (by omega), z_up_ne _ _ _ (by omega), z_up_ne _ _ _ (by omega)]
theorem x_restart_fr {b c : Nat} {σ : z_Sto} (h : x_away b c) : x_restart b σ c = σ c := by
  have h' := h
  unfold x_away at h'
  rw [x_restart, x_rb_fr h, x_ra_fr h, z_up_ne _ _ _ (by omega)]
theorem x_set_go {b v s n : Nat} {to : Int32} {σ : z_Sto} (h1 : ¬ σ (b + 4) s = 0) (h2 : σ (b + 3) s < to) (w : Int32) (hw : (if x_opn b v s (σ (b + 3) s) (z_up σ (b + 3) s to) ≤ to then nI 0 else nI 1) = w) :
    x_set b v s n to σ = x_look b s n (x_lo b s (x_tsh to (x_opn b v s (σ (b + 3) s) (z_up σ (b + 3) s to)) (σ (b + 3) s)) (x_end s n - x_fst s) (x_fst s) (z_up (z_up σ (b + 3) s to) (b + 4) s w)) := by
  subst hw
  unfold x_set
  exact if_neg (fun q => q.elim h1 (fun q => q h2))
end
section
/-! the board at cell 11, its rules' numbers at 2 -/
set_option maxRecDepth 20000 in
theorem c_X0_isUp {σ : z_Sto} {i : Nat} (hi : i < 12) (h01 : σ 16 i = nI 0 ∨ σ 16 i = nI 1) : z_R layX iX0_isUp 0 [some (.ref 11), some (.int (nI i))] [] σ (fun r σ' => r = some (.int (σ 16 i)) ∧ σ' = σ) := by
  refine z_aload_n (pc := 0) dX0_isUp_0 rfl ?_
  refine z_getA (pc := 1) f_X0_27 dX0_isUp_1 (by decide) rfl rfl ?_
  refine z_iload_n (pc := 4) dX0_isUp_4 rfl ?_
  refine z_zaldN (pc := 5) dX0_isUp_5 (by decide) rfl (by decide) (hi) ?_
  exact z_ireturn (pc := 6) dX0_isUp_6 rfl (z_nar h01) (⟨rfl, rfl⟩)
set_option maxRecDepth 20000 in
theorem c_X0_isShut {σ : z_Sto} {i s : Nat} (hi : i < 12) (hsl : σ 5 i = nI s) (hs : s < 16) (h01 : σ 15 s = nI 0 ∨ σ 15 s = nI 1) : z_R layX iX0_isShut 0 [some (.ref 11), some (.int (nI i))] [] σ (fun r σ' => r = some (.int (σ 15 s)) ∧ σ' = σ) := by
  refine z_aload_n (pc := 0) dX0_isShut_0 rfl ?_
  refine z_getA (pc := 1) f_X0_23 dX0_isShut_1 (by decide) rfl rfl ?_
  refine z_aload_n (pc := 4) dX0_isShut_4 rfl ?_
  refine z_getA (pc := 5) f_X0_46 dX0_isShut_5 (by decide) rfl rfl ?_
  refine z_iload_n (pc := 8) dX0_isShut_8 rfl ?_
  refine z_cV1 (pc := 9) mX4_slotOf l_X0_62 (by decide) dX0_isShut_9 (by decide) rfl rfl (by decide) (Nat.le_of_ble_eq_true rfl) (c_X4_slotOf hi) rfl (fun r9 σ9 hr9 => ?_)
  obtain ⟨rfl, rfl⟩ := hr9
  rw [hsl]
  refine z_zaldN (pc := 12) dX0_isShut_12 (by decide) rfl (by decide) (hs) ?_
  exact z_ireturn (pc := 13) dX0_isShut_13 rfl (z_nar h01) (⟨rfl, rfl⟩)
set_option maxRecDepth 20000 in
theorem c_X0_isSeen {σ : z_Sto} {i s : Nat} (hi : i < 12) (hsl : σ 5 i = nI s) (hs : s < 16) (h01 : σ 15 s = nI 0 ∨ σ 15 s = nI 1) : z_R layX iX0_isSeen 0 [some (.ref 11), some (.int (nI i))] [] σ (fun r σ' => r = some (.int (x_sn 11 s i σ)) ∧ σ' = σ) := by
  refine z_aload_n (pc := 0) dX0_isSeen_0 rfl ?_
  refine z_getA (pc := 1) f_X0_27 dX0_isSeen_1 (by decide) rfl rfl ?_
  refine z_iload_n (pc := 4) dX0_isSeen_4 rfl ?_
  refine z_zaldN (pc := 5) dX0_isSeen_5 (by decide) rfl (by decide) (hi) ?_
  refine z_if_eq (pc := 6) (tgt := 21) dX0_isSeen_6 (by decide) (fun h6 => ?_) (fun h6 => ?_)
  · refine z_iconst (pc := 21) (v := (nI 0)) dX0_isSeen_21 (by decide) ?_
    exact z_ireturn (pc := 22) dX0_isSeen_22 rfl (by decide) (⟨by first | rw [x_sn, if_pos h6] | rw [x_sn, if_neg h6, if_neg h14] | rw [x_sn, if_neg h6, if_pos h14], rfl⟩)
  · refine z_aload_n (pc := 9) dX0_isSeen_9 rfl ?_
    refine z_iload_n (pc := 10) dX0_isSeen_10 rfl ?_
    refine z_cV1 (pc := 11) mX0_isShut l_X0_66 (by decide) dX0_isSeen_11 (by decide) rfl rfl (by decide) (Nat.le_of_ble_eq_true rfl) (c_X0_isShut hi hsl hs h01) rfl (fun r11 σ11 hr11 => ?_)
    obtain ⟨rfl, rfl⟩ := hr11
    refine z_if_ne (pc := 14) (tgt := 21) dX0_isSeen_14 (by decide) (fun h14 => ?_) (fun h14 => ?_)
    · refine z_iconst (pc := 21) (v := (nI 0)) dX0_isSeen_21 (by decide) ?_
      exact z_ireturn (pc := 22) dX0_isSeen_22 rfl (by decide) (⟨by first | rw [x_sn, if_pos h6] | rw [x_sn, if_neg h6, if_neg h14] | rw [x_sn, if_neg h6, if_pos h14], rfl⟩)
    · refine z_iconst (pc := 17) (v := (nI 1)) dX0_isSeen_17 (by decide) ?_
      refine z_goto (pc := 18) (tgt := 22) dX0_isSeen_18 (by decide) ?_
      exact z_ireturn (pc := 22) dX0_isSeen_22 rfl (by decide) (⟨by first | rw [x_sn, if_pos h6] | rw [x_sn, if_neg h6, if_neg h14] | rw [x_sn, if_neg h6, if_pos h14], rfl⟩)
set_option maxRecDepth 20000 in
theorem c_X0_join {σ : z_Sto} {i s : Nat} (hi : i < 12) (hsl : σ 5 i = nI s) (hs : s < 16) (h01 : σ 15 s = nI 0 ∨ σ 15 s = nI 1) : z_R layX iX0_join 0 [some (.ref 11), some (.int (nI i))] [] σ (fun r σ' => r = none ∧ σ' = z_up σ 17 i (x_sn 11 s i σ)) := by
  refine z_aload_n (pc := 0) dX0_join_0 rfl ?_
  refine z_getA (pc := 1) f_X0_30 dX0_join_1 (by decide) rfl rfl ?_
  refine z_iload_n (pc := 4) dX0_join_4 rfl ?_
  refine z_aload_n (pc := 5) dX0_join_5 rfl ?_
  refine z_iload_n (pc := 6) dX0_join_6 rfl ?_
  refine z_cV1 (pc := 7) mX0_isSeen l_X0_58 (by decide) dX0_join_7 (by decide) rfl rfl (by decide) (Nat.le_of_ble_eq_true rfl) (c_X0_isSeen hi hsl hs h01) rfl (fun r7 σ7 hr7 => ?_)
  obtain ⟨rfl, rfl⟩ := hr7
  refine z_zastN (pc := 10) dX0_join_10 (by decide) rfl (by decide) (hi) (by unfold x_sn; split; exact Or.inl rfl; split; exact Or.inr rfl; exact Or.inl rfl) ?_
  exact z_return (pc := 11) dX0_join_11 rfl (⟨rfl, rfl⟩)
set_option maxRecDepth 20000 in
theorem c_X0_flipsOf {σ : z_Sto} {i : Nat} (hi : i < 12) : z_R layX iX0_flipsOf 0 [some (.ref 11), some (.int (nI i))] [] σ (fun r σ' => r = some (.int (σ 18 i)) ∧ σ' = σ) := by
  refine z_aload_n (pc := 0) dX0_flipsOf_0 rfl ?_
  refine z_getA (pc := 1) f_X0_33 dX0_flipsOf_1 (by decide) rfl rfl ?_
  refine z_iload_n (pc := 4) dX0_flipsOf_4 rfl ?_
  refine z_ialdN (pc := 5) dX0_flipsOf_5 (by decide) rfl (by decide) (hi) ?_
  exact z_ireturn (pc := 6) dX0_flipsOf_6 rfl rfl (⟨rfl, rfl⟩)
set_option maxRecDepth 20000 in
theorem c_X0_lostOf {σ : z_Sto} {i : Nat} (hi : i < 12) : z_R layX iX0_lostOf 0 [some (.ref 11), some (.int (nI i))] [] σ (fun r σ' => r = some (.int (σ 19 i)) ∧ σ' = σ) := by
  refine z_aload_n (pc := 0) dX0_lostOf_0 rfl ?_
  refine z_getA (pc := 1) f_X0_36 dX0_lostOf_1 (by decide) rfl rfl ?_
  refine z_iload_n (pc := 4) dX0_lostOf_4 rfl ?_
  refine z_ialdN (pc := 5) dX0_lostOf_5 (by decide) rfl (by decide) (hi) ?_
  exact z_ireturn (pc := 6) dX0_lostOf_6 rfl rfl (⟨rfl, rfl⟩)
set_option maxRecDepth 20000 in
theorem c_X0_wasEverShut {σ : z_Sto} (h01 : σ 11 11 = nI 0 ∨ σ 11 11 = nI 1) : z_R layX iX0_wasEverShut 0 [some (.ref 11)] [] σ (fun r σ' => r = some (.int (σ 11 11)) ∧ σ' = σ) := by
  refine z_aload_n (pc := 0) dX0_wasEverShut_0 rfl ?_
  refine z_getI (pc := 1) f_X0_53 dX0_wasEverShut_1 (by decide) rfl rfl ?_
  exact z_ireturn (pc := 4) dX0_wasEverShut_4 rfl (z_nar h01) (⟨rfl, rfl⟩)
set_option maxRecDepth 20000 in
theorem c_X0_firstOf {σ : z_Sto} {s : Nat} (hs : s < 16) : z_R layX iX0_firstOf 0 [some (.ref 11), some (.int (nI s))] [] σ (fun r σ' => r = some (.int (nI (x_fst s))) ∧ σ' = σ) := by
  refine z_iload_n (pc := 0) dX0_firstOf_0 rfl ?_
  refine z_bipush (pc := 1) (v := (nI 12)) dX0_firstOf_1 (by decide) ?_
  refine z_icmp_ge (pc := 3) (tgt := 10) dX0_firstOf_3 (by decide) (fun h3 => ?_) (fun h3 => ?_)
  · have q3 : ¬ s < 12 := fun q => absurd ((nI_leI (by decide) (by omega)).mp h3) (by omega)
    refine z_iconst (pc := 10) (v := (nI 0)) dX0_firstOf_10 (by decide) ?_
    exact z_ireturn (pc := 11) dX0_firstOf_11 rfl rfl (⟨by simp [x_fst, q3], rfl⟩)
  · have q3 : s < 12 := by have : ¬ 12 ≤ s := fun q => h3 ((nI_leI (by decide) (by omega)).mpr q); omega
    refine z_iload_n (pc := 6) dX0_firstOf_6 rfl ?_
    refine z_goto (pc := 7) (tgt := 11) dX0_firstOf_7 (by decide) ?_
    exact z_ireturn (pc := 11) dX0_firstOf_11 rfl rfl (⟨by simp [x_fst, q3], rfl⟩)
set_option maxRecDepth 20000 in
theorem c_X0_endOf {σ : z_Sto} {s n : Nat} (hs : s < 16) (hn : σ 3 3 = nI n) (h12 : n ≤ 12) : z_R layX iX0_endOf 0 [some (.ref 11), some (.int (nI s))] [] σ (fun r σ' => r = some (.int (nI (x_end s n))) ∧ σ' = σ) := by
  refine z_aload_n (pc := 0) dX0_endOf_0 rfl ?_
  refine z_getA (pc := 1) f_X0_46 dX0_endOf_1 (by decide) rfl rfl ?_
  refine z_cV0 (pc := 4) mX4_size l_X0_69 (by decide) dX0_endOf_4 (by decide) rfl rfl (by decide) (Nat.le_of_ble_eq_true rfl) (c_X4_size) rfl (fun r4 σ4 hr4 => ?_)
  obtain ⟨rfl, rfl⟩ := hr4
  rw [hn]
  refine z_iload_n (pc := 7) dX0_endOf_7 rfl ?_
  refine z_bipush (pc := 8) (v := (nI 12)) dX0_endOf_8 (by decide) ?_
  refine z_icmp_ge (pc := 10) (tgt := 19) dX0_endOf_10 (by decide) (fun h10 => ?_) (fun h10 => ?_)
  · have q10 : ¬ s < 12 := fun q => absurd ((nI_leI (by decide) (by omega)).mp h10) (by omega)
    refine z_bipush (pc := 19) (v := (nI 12)) dX0_endOf_19 (by decide) ?_
    refine z_min (pc := 21) l_X0_100 (by decide) (Nat.le_of_ble_eq_true rfl) dX0_endOf_21 ?_
    exact z_ireturn (pc := 24) dX0_endOf_24 rfl rfl (⟨by simp only [x_end, q10, if_true, if_false, nI_ltI (show s + 1 < 2 ^ 31 by omega) (show n < 2 ^ 31 by omega), nI_ltI (show 12 < 2 ^ 31 by omega) (show n < 2 ^ 31 by omega)]; (try rw [if_neg (show ¬ 12 < n by omega)]); (try split <;> rfl), rfl⟩)
  · have q10 : s < 12 := by have : ¬ 12 ≤ s := fun q => h10 ((nI_leI (by decide) (by omega)).mpr q); omega
    refine z_iload_n (pc := 13) dX0_endOf_13 rfl ?_
    refine z_iconst (pc := 14) (v := (nI 1)) dX0_endOf_14 (by decide) ?_
    refine z_iaddN (pc := 15) dX0_endOf_15 ?_
    refine z_goto (pc := 16) (tgt := 21) dX0_endOf_16 (by decide) ?_
    refine z_min (pc := 21) l_X0_100 (by decide) (Nat.le_of_ble_eq_true rfl) dX0_endOf_21 ?_
    exact z_ireturn (pc := 24) dX0_endOf_24 rfl rfl (⟨by simp only [x_end, q10, if_true, if_false, nI_ltI (show s + 1 < 2 ^ 31 by omega) (show n < 2 ^ 31 by omega), nI_ltI (show 12 < 2 ^ 31 by omega) (show n < 2 ^ 31 by omega)]; (try rw [if_neg (show ¬ 12 < n by omega)]); (try split <;> rfl), rfl⟩)
set_option maxRecDepth 20000 in
theorem c_X0_penaltyAt {σ : z_Sto} {s h : Nat} {t : Int32} (hs : s < 16) (hh : σ 2 3 = nI h) (h1 : 1 ≤ h) (h2 : h ≤ 500) : z_R layX iX0_penaltyAt 0 [some (.ref 11), some (.int (nI s)), some (.int t)] [] σ (fun r σ' => r = some (.int (x_pen 11 2 s t σ)) ∧ σ' = σ) := by
  refine z_aload_n (pc := 0) dX0_penaltyAt_0 rfl ?_
  refine z_getA (pc := 1) f_X0_42 dX0_penaltyAt_1 (by decide) rfl rfl ?_
  refine z_aload_n (pc := 4) dX0_penaltyAt_4 rfl ?_
  refine z_getA (pc := 5) f_X0_11 dX0_penaltyAt_5 (by decide) rfl rfl ?_
  refine z_iload_n (pc := 8) dX0_penaltyAt_8 rfl ?_
  refine z_ialdN (pc := 9) dX0_penaltyAt_9 (by decide) rfl (by decide) (hs) ?_
  refine z_iload_n (pc := 10) dX0_penaltyAt_10 rfl ?_
  refine z_aload_n (pc := 11) dX0_penaltyAt_11 rfl ?_
  refine z_getA (pc := 12) f_X0_17 dX0_penaltyAt_12 (by decide) rfl rfl ?_
  refine z_iload_n (pc := 15) dX0_penaltyAt_15 rfl ?_
  refine z_ialdN (pc := 16) dX0_penaltyAt_16 (by decide) rfl (by decide) (hs) ?_
  refine z_isub (pc := 17) dX0_penaltyAt_17 ?_
  refine z_cV2 (pc := 18) mX5_fade l_X0_77 (by decide) dX0_penaltyAt_18 (by decide) rfl rfl (by decide) (Nat.le_of_ble_eq_true rfl) (c_X5_fade hh h1 h2) rfl (fun r18 σ18 hr18 => ?_)
  obtain ⟨rfl, rfl⟩ := hr18
  exact z_ireturn (pc := 21) dX0_penaltyAt_21 rfl rfl (⟨by rw [x_pen, hh], rfl⟩)
set_option maxRecDepth 20000 in
theorem c_X0_penaltyOf {σ : z_Sto} {i s h : Nat} {t : Int32} (hi : i < 12) (hsl : σ 5 i = nI s) (hs : s < 16) (hh : σ 2 3 = nI h) (h1 : 1 ≤ h) (h2 : h ≤ 500) : z_R layX iX0_penaltyOf 0 [some (.ref 11), some (.int (nI i)), some (.int t)] [] σ (fun r σ' => r = some (.int (x_pen 11 2 s t σ)) ∧ σ' = σ) := by
  refine z_aload_n (pc := 0) dX0_penaltyOf_0 rfl ?_
  refine z_aload_n (pc := 1) dX0_penaltyOf_1 rfl ?_
  refine z_getA (pc := 2) f_X0_46 dX0_penaltyOf_2 (by decide) rfl rfl ?_
  refine z_iload_n (pc := 5) dX0_penaltyOf_5 rfl ?_
  refine z_cV1 (pc := 6) mX4_slotOf l_X0_62 (by decide) dX0_penaltyOf_6 (by decide) rfl rfl (by decide) (Nat.le_of_ble_eq_true rfl) (c_X4_slotOf hi) rfl (fun r6 σ6 hr6 => ?_)
  obtain ⟨rfl, rfl⟩ := hr6
  rw [hsl]
  refine z_iload_n (pc := 9) dX0_penaltyOf_9 rfl ?_
  refine z_cV2 (pc := 10) mX0_penaltyAt l_X0_73 (by decide) dX0_penaltyOf_10 (by decide) rfl rfl (by decide) (Nat.le_of_ble_eq_true rfl) (c_X0_penaltyAt hs hh h1 h2) rfl (fun r10 σ10 hr10 => ?_)
  obtain ⟨rfl, rfl⟩ := hr10
  exact z_ireturn (pc := 13) dX0_penaltyOf_13 rfl rfl (⟨rfl, rfl⟩)
set_option maxRecDepth 20000 in
theorem c_X0_rpl {σ : z_Sto} {s h : Nat} {t : Int32} (hs : s ≤ 16) (hh : σ 2 3 = nI h) (h1 : 1 ≤ h) (h2 : h ≤ 500) : z_R layX iX0_restPenalties 2 [some (.ref 11), some (.int t), some (.int (nI s))] [] σ (fun r σ' => r = none ∧ σ' = x_rp 11 2 t (16 - s) s σ) := by
  generalize hf : 16 - s = f
  induction f using Nat.strongRecOn generalizing s σ
  rename_i f ih
  refine z_iload_n (pc := 2) dX0_restPenalties_2 rfl ?_
  refine z_bipush (pc := 3) (v := (nI 16)) dX0_restPenalties_3 (by decide) ?_
  refine z_icmp_ge (pc := 5) (tgt := 33) dX0_restPenalties_5 (by decide) (fun h5 => ?_) (fun h5 => ?_)
  · have q5 : f = 0 := by have := (nI_leI (by decide) (by omega)).mp h5; omega
    exact z_return (pc := 33) dX0_restPenalties_33 rfl (⟨rfl, by rw [q5]; rfl⟩)
  · have q5 : s < 16 := by have : ¬ 16 ≤ s := fun q => h5 ((nI_leI (by decide) (by omega)).mpr q); omega
    have hf1 : f = (16 - (s + 1)) + 1 := by omega
    refine z_aload_n (pc := 8) dX0_restPenalties_8 rfl ?_
    refine z_getA (pc := 9) f_X0_11 dX0_restPenalties_9 (by decide) rfl rfl ?_
    refine z_iload_n (pc := 12) dX0_restPenalties_12 rfl ?_
    refine z_aload_n (pc := 13) dX0_restPenalties_13 rfl ?_
    refine z_iload_n (pc := 14) dX0_restPenalties_14 rfl ?_
    refine z_iload_n (pc := 15) dX0_restPenalties_15 rfl ?_
    refine z_cV2 (pc := 16) mX0_penaltyAt l_X0_73 (by decide) dX0_restPenalties_16 (by decide) rfl rfl (by decide) (Nat.le_of_ble_eq_true rfl) (c_X0_penaltyAt q5 hh h1 h2) rfl (fun r16 σ16 hr16 => ?_)
    obtain ⟨rfl, rfl⟩ := hr16
    refine z_iastN (pc := 19) dX0_restPenalties_19 (by decide) rfl (by decide) (q5) ?_
    refine z_aload_n (pc := 20) dX0_restPenalties_20 rfl ?_
    refine z_getA (pc := 21) f_X0_17 dX0_restPenalties_21 (by decide) rfl rfl ?_
    refine z_iload_n (pc := 24) dX0_restPenalties_24 rfl ?_
    refine z_iload_n (pc := 25) dX0_restPenalties_25 rfl ?_
    refine z_iastN (pc := 26) dX0_restPenalties_26 (by decide) rfl (by decide) (q5) ?_
    refine z_iincN (pc := 27) dX0_restPenalties_27 rfl (by decide) rfl rfl ?_
    refine z_goto (pc := 30) (tgt := 2) dX0_restPenalties_30 (by decide) ?_
    exact (ih _ (by omega) (s := s + 1) (by omega) (by simp only [z_up_at, reduceIte, Nat.reduceEqDiff]; exact hh) rfl).mono (fun r σ' g => ⟨g.1, g.2.trans (by rw [hf1, x_rp]; rfl)⟩)
set_option maxRecDepth 20000 in
theorem c_X0_restPenalties {σ : z_Sto} {h : Nat} {t : Int32} (hh : σ 2 3 = nI h) (h1 : 1 ≤ h) (h2 : h ≤ 500) : z_R layX iX0_restPenalties 0 [some (.ref 11), some (.int t), none] [] σ (fun r σ' => r = none ∧ σ' = x_rp 11 2 t 16 0 σ) := by
  refine z_iconst (pc := 0) (v := (nI 0)) dX0_restPenalties_0 (by decide) ?_
  refine z_istore_n (pc := 1) dX0_restPenalties_1 (by decide) rfl rfl ?_
  exact c_X0_rpl (s := 0) (by decide) hh h1 h2
set_option maxRecDepth 20000 in
theorem c_X0_openingTick {σ : z_Sto} {s : Nat} {t : Int32} (hs : s < 16) : z_R layX iX0_openingTick 0 [some (.ref 11), some (.int (nI s)), some (.int t), none] [] σ (fun r σ' => r = some (.int (x_opn 11 2 s t σ)) ∧ σ' = σ) := by
  refine z_aload_n (pc := 0) dX0_openingTick_0 rfl ?_
  refine z_getA (pc := 1) f_X0_17 dX0_openingTick_1 (by decide) rfl rfl ?_
  refine z_iload_n (pc := 4) dX0_openingTick_4 rfl ?_
  refine z_ialdN (pc := 5) dX0_openingTick_5 (by decide) rfl (by decide) (hs) ?_
  refine z_aload_n (pc := 6) dX0_openingTick_6 rfl ?_
  refine z_getA (pc := 7) f_X0_42 dX0_openingTick_7 (by decide) rfl rfl ?_
  refine z_aload_n (pc := 10) dX0_openingTick_10 rfl ?_
  refine z_getA (pc := 11) f_X0_11 dX0_openingTick_11 (by decide) rfl rfl ?_
  refine z_iload_n (pc := 14) dX0_openingTick_14 rfl ?_
  refine z_ialdN (pc := 15) dX0_openingTick_15 (by decide) rfl (by decide) (hs) ?_
  refine z_aload_n (pc := 16) dX0_openingTick_16 rfl ?_
  refine z_getA (pc := 17) f_X0_42 dX0_openingTick_17 (by decide) rfl rfl ?_
  refine z_iconst (pc := 20) (v := (nI 5)) dX0_openingTick_20 (by decide) ?_
  refine z_cV1 (pc := 21) mX5_get l_X0_85 (by decide) dX0_openingTick_21 (by decide) rfl rfl (by decide) (Nat.le_of_ble_eq_true rfl) (c_X5_get (by decide)) rfl (fun r21 σ21 hr21 => ?_)
  obtain ⟨rfl, rfl⟩ := hr21
  refine z_cV2 (pc := 24) mX5_ticksTillBelow l_X0_88 (by decide) dX0_openingTick_24 (by decide) rfl rfl (by decide) (Nat.le_of_ble_eq_true rfl) (c_X5_ttb) rfl (fun r24 σ24 hr24 => ?_)
  obtain ⟨rfl, rfl⟩ := hr24
  refine z_iadd (pc := 27) dX0_openingTick_27 ?_
  refine z_istore_n (pc := 28) dX0_openingTick_28 (by decide) rfl rfl ?_
  refine z_iload_n (pc := 29) dX0_openingTick_29 rfl ?_
  refine z_iconst (pc := 30) (v := (nI 1)) dX0_openingTick_30 (by decide) ?_
  refine z_iadd (pc := 31) dX0_openingTick_31 ?_
  refine z_iload_n (pc := 32) dX0_openingTick_32 rfl ?_
  refine z_max (pc := 33) l_X0_91 (by decide) (Nat.le_of_ble_eq_true rfl) dX0_openingTick_33 ?_
  exact z_ireturn (pc := 36) dX0_openingTick_36 rfl rfl (⟨rfl, rfl⟩)
set_option maxRecDepth 20000 in
theorem c_X0_ticksTillOpen {σ : z_Sto} {i s : Nat} {t : Int32} (hi : i < 12) (hsl : σ 5 i = nI s) (hs : s < 16) : z_R layX iX0_ticksTillOpen 0 [some (.ref 11), some (.int (nI i)), some (.int t), none] [] σ (fun r σ' => r = some (.int (if σ 15 s = 0 then nI 0 else x_opn 11 2 s t σ - t)) ∧ σ' = σ) := by
  refine z_aload_n (pc := 0) dX0_ticksTillOpen_0 rfl ?_
  refine z_getA (pc := 1) f_X0_46 dX0_ticksTillOpen_1 (by decide) rfl rfl ?_
  refine z_iload_n (pc := 4) dX0_ticksTillOpen_4 rfl ?_
  refine z_cV1 (pc := 5) mX4_slotOf l_X0_62 (by decide) dX0_ticksTillOpen_5 (by decide) rfl rfl (by decide) (Nat.le_of_ble_eq_true rfl) (c_X4_slotOf hi) rfl (fun r5 σ5 hr5 => ?_)
  obtain ⟨rfl, rfl⟩ := hr5
  rw [hsl]
  refine z_istore_n (pc := 8) dX0_ticksTillOpen_8 (by decide) rfl rfl ?_
  refine z_aload_n (pc := 9) dX0_ticksTillOpen_9 rfl ?_
  refine z_getA (pc := 10) f_X0_23 dX0_ticksTillOpen_10 (by decide) rfl rfl ?_
  refine z_iload_n (pc := 13) dX0_ticksTillOpen_13 rfl ?_
  refine z_zaldN (pc := 14) dX0_ticksTillOpen_14 (by decide) rfl (by decide) (hs) ?_
  refine z_if_eq (pc := 15) (tgt := 29) dX0_ticksTillOpen_15 (by decide) (fun h15 => ?_) (fun h15 => ?_)
  · refine z_iconst (pc := 29) (v := (nI 0)) dX0_ticksTillOpen_29 (by decide) ?_
    exact z_ireturn (pc := 30) dX0_ticksTillOpen_30 rfl rfl (⟨by simp [h15], rfl⟩)
  · refine z_aload_n (pc := 18) dX0_ticksTillOpen_18 rfl ?_
    refine z_iload_n (pc := 19) dX0_ticksTillOpen_19 rfl ?_
    refine z_iload_n (pc := 20) dX0_ticksTillOpen_20 rfl ?_
    refine z_cV2 (pc := 21) mX0_openingTick l_X0_82 (by decide) dX0_ticksTillOpen_21 (by decide) rfl rfl (by decide) (Nat.le_of_ble_eq_true rfl) (c_X0_openingTick hs) rfl (fun r21 σ21 hr21 => ?_)
    obtain ⟨rfl, rfl⟩ := hr21
    refine z_iload_n (pc := 24) dX0_ticksTillOpen_24 rfl ?_
    refine z_isub (pc := 25) dX0_ticksTillOpen_25 ?_
    refine z_goto (pc := 26) (tgt := 30) dX0_ticksTillOpen_26 (by decide) ?_
    exact z_ireturn (pc := 30) dX0_ticksTillOpen_30 rfl rfl (⟨by simp [h15], rfl⟩)
set_option maxRecDepth 20000 in
theorem c_X0_wg2 {σ : z_Sto} {i w : Nat} {t : Int32} {v4 : Option Value} {Φ : z_Post} (hw : w < 3) (hΦ : Φ (some (.int (σ 2 w))) σ) : z_R layX iX0_weightOf 50 [some (.ref 11), some (.int (nI i)), some (.int (nI w)), some (.int t), v4] [] σ Φ := by
  refine z_aload_n (pc := 50) dX0_weightOf_50 rfl ?_
  refine z_getA (pc := 51) f_X0_42 dX0_weightOf_51 (by decide) rfl rfl ?_
  refine z_iload_n (pc := 54) dX0_weightOf_54 rfl ?_
  refine z_cV1 (pc := 55) mX5_get l_X0_85 (by decide) dX0_weightOf_55 (by decide) rfl rfl (by decide) (Nat.le_of_ble_eq_true rfl) (c_X5_get (by omega)) rfl (fun r55 σ55 hr55 => ?_)
  obtain ⟨rfl, rfl⟩ := hr55
  exact z_ireturn (pc := 58) dX0_weightOf_58 rfl rfl (hΦ)
set_option maxRecDepth 20000 in
theorem c_X0_wg0 {σ : z_Sto} {i w : Nat} {t : Int32} (hw : w < 3) (hq : x_wgt 11 2 i w t σ = σ 2 w) : z_R layX iX0_weightOf 23 [some (.ref 11), some (.int (nI i)), some (.int (nI w)), some (.int t), some (.int (nI 0))] [] σ (fun r σ' => r = some (.int (x_wgt 11 2 i w t σ)) ∧ σ' = σ) := by
  refine z_iload (pc := 23) dX0_weightOf_23 rfl ?_
  refine z_if_eq (pc := 25) (tgt := 50) dX0_weightOf_25 (by decide) (fun h25 => ?_) (fun h25 => ?_)
  · exact c_X0_wg2 hw ⟨by rw [hq], rfl⟩
  · exact absurd rfl h25
set_option maxRecDepth 20000 in
theorem c_X0_wg1 {σ : z_Sto} {i w : Nat} {t : Int32} (hi : i < 12) (hw : w < 3) (q1 : w = 0) (h13 : σ 4 i = nI 2) : z_R layX iX0_weightOf 23 [some (.ref 11), some (.int (nI i)), some (.int (nI w)), some (.int t), some (.int (nI 1))] [] σ (fun r σ' => r = some (.int (x_wgt 11 2 i w t σ)) ∧ σ' = σ) := by
  refine z_iload (pc := 23) dX0_weightOf_23 rfl ?_
  refine z_if_eq (pc := 25) (tgt := 50) dX0_weightOf_25 (by decide) (fun h25 => ?_) (fun h25 => ?_)
  · exact absurd h25 (by decide)
  · refine z_aload_n (pc := 28) dX0_weightOf_28 rfl ?_
    refine z_getA (pc := 29) f_X0_39 dX0_weightOf_29 (by decide) rfl rfl ?_
    refine z_iload_n (pc := 32) dX0_weightOf_32 rfl ?_
    refine z_ialdN (pc := 33) dX0_weightOf_33 (by decide) rfl (by decide) (hi) ?_
    refine z_iload_n (pc := 34) dX0_weightOf_34 rfl ?_
    refine z_aload_n (pc := 35) dX0_weightOf_35 rfl ?_
    refine z_getA (pc := 36) f_X0_42 dX0_weightOf_36 (by decide) rfl rfl ?_
    refine z_bipush (pc := 39) (v := (nI 7)) dX0_weightOf_39 (by decide) ?_
    refine z_cV1 (pc := 41) mX5_get l_X0_85 (by decide) dX0_weightOf_41 (by decide) rfl rfl (by decide) (Nat.le_of_ble_eq_true rfl) (c_X5_get (by decide)) rfl (fun r41 σ41 hr41 => ?_)
    obtain ⟨rfl, rfl⟩ := hr41
    refine z_isub (pc := 44) dX0_weightOf_44 ?_
    refine z_icmp_ge (pc := 45) (tgt := 50) dX0_weightOf_45 (by decide) (fun h45 => ?_) (fun h45 => ?_)
    · have hq : x_wgt 11 2 i w t σ41 = σ41 2 w := by rw [x_wgt, if_neg (fun g => z_nle g.2.2 h45)]
      exact c_X0_wg2 hw ⟨by rw [hq], rfl⟩
    · refine z_iconst (pc := 48) (v := (nI 0)) dX0_weightOf_48 (by decide) ?_
      exact z_ireturn (pc := 49) dX0_weightOf_49 rfl rfl (⟨by rw [x_wgt, if_pos ⟨q1, h13, by rw [← Int32.not_le]; exact h45⟩], rfl⟩)
set_option maxRecDepth 20000 in
theorem c_X0_weightOf {σ : z_Sto} {i w : Nat} {t : Int32} (hi : i < 12) (hw : w < 3) : z_R layX iX0_weightOf 0 [some (.ref 11), some (.int (nI i)), some (.int (nI w)), some (.int t), none] [] σ (fun r σ' => r = some (.int (x_wgt 11 2 i w t σ)) ∧ σ' = σ) := by
  refine z_iload_n (pc := 0) dX0_weightOf_0 rfl ?_
  refine z_if_ne (pc := 1) (tgt := 20) dX0_weightOf_1 (by decide) (fun h1 => ?_) (fun h1 => ?_)
  · have q1 : w ≠ 0 := fun q => h1 (by rw [q]; rfl)
    have hq : x_wgt 11 2 i w t σ = σ 2 w := by rw [x_wgt, if_neg (fun g => q1 g.1)]
    refine z_iconst (pc := 20) (v := (nI 0)) dX0_weightOf_20 (by decide) ?_
    refine z_istore (pc := 21) dX0_weightOf_21 (by decide) rfl rfl ?_
    exact by first | exact c_X0_wg0 hw hq | exact c_X0_wg1 hi hw q1 h13
  · have q1 : w = 0 := z_nI_inj (by omega) (by decide) h1
    refine z_aload_n (pc := 4) dX0_weightOf_4 rfl ?_
    refine z_getA (pc := 5) f_X0_46 dX0_weightOf_5 (by decide) rfl rfl ?_
    refine z_iload_n (pc := 8) dX0_weightOf_8 rfl ?_
    refine z_cV1 (pc := 9) mX4_kindOf l_X0_117 (by decide) dX0_weightOf_9 (by decide) rfl rfl (by decide) (Nat.le_of_ble_eq_true rfl) (c_X4_kindOf hi) rfl (fun r9 σ9 hr9 => ?_)
    obtain ⟨rfl, rfl⟩ := hr9
    refine z_iconst (pc := 12) (v := (nI 2)) dX0_weightOf_12 (by decide) ?_
    refine z_icmp_ne (pc := 13) (tgt := 20) dX0_weightOf_13 (by decide) (fun h13 => ?_) (fun h13 => ?_)
    · have hq : x_wgt 11 2 i w t σ9 = σ9 2 w := by rw [x_wgt, if_neg (fun g => h13 g.2.1)]
      refine z_iconst (pc := 20) (v := (nI 0)) dX0_weightOf_20 (by decide) ?_
      refine z_istore (pc := 21) dX0_weightOf_21 (by decide) rfl rfl ?_
      exact by first | exact c_X0_wg0 hw hq | exact c_X0_wg1 hi hw q1 h13
    · refine z_iconst (pc := 16) (v := (nI 1)) dX0_weightOf_16 (by decide) ?_
      refine z_goto (pc := 17) (tgt := 21) dX0_weightOf_17 (by decide) ?_
      refine z_istore (pc := 21) dX0_weightOf_21 (by decide) rfl rfl ?_
      exact by first | exact c_X0_wg0 hw hq | exact c_X0_wg1 hi hw q1 h13
set_option maxRecDepth 20000 in
theorem c_X0_lkl {σ : z_Sto} {s n i : Nat} {v3 : Option Value} (hs : s < 16) (hn : σ 3 3 = nI n) (h12 : n ≤ 12) (hi : i ≤ 12) : z_R layX iX0_lookAt 6 [some (.ref 11), some (.int (nI s)), some (.int (nI i)), v3] [] σ (fun r σ' => r = none ∧ σ' = x_lk 11 s (x_end s n - i) i σ) := by
  have he : x_end s n ≤ 12 := by unfold x_end; split <;> (try split) <;> omega
  generalize hf : x_end s n - i = f
  induction f using Nat.strongRecOn generalizing i σ v3
  rename_i f ih
  refine z_iload_n (pc := 6) dX0_lookAt_6 rfl ?_
  refine z_aload_n (pc := 7) dX0_lookAt_7 rfl ?_
  refine z_iload_n (pc := 8) dX0_lookAt_8 rfl ?_
  refine z_cV1 (pc := 9) mX0_endOf l_X0_106 (by decide) dX0_lookAt_9 (by decide) rfl rfl (by decide) (Nat.le_of_ble_eq_true rfl) (c_X0_endOf hs hn h12) rfl (fun r9 σ9 hr9 => ?_)
  obtain ⟨rfl, rfl⟩ := hr9
  refine z_icmp_ge (pc := 12) (tgt := 84) dX0_lookAt_12 (by decide) (fun h12 => ?_) (fun h12 => ?_)
  · have q12 : f = 0 := by have := (nI_leI (by omega) (by omega)).mp h12; omega
    exact z_return (pc := 84) dX0_lookAt_84 rfl (⟨rfl, by rw [q12]; rfl⟩)
  · have q12 : i < x_end s n := by have : ¬ x_end s n ≤ i := fun q => h12 ((nI_leI (by omega) (by omega)).mpr q); omega
    have hf1 : f = (x_end s n - (i + 1)) + 1 := by omega
    refine z_aload_n (pc := 15) dX0_lookAt_15 rfl ?_
    refine z_getA (pc := 16) f_X0_27 dX0_lookAt_16 (by decide) rfl rfl ?_
    refine z_iload_n (pc := 19) dX0_lookAt_19 rfl ?_
    refine z_zaldN (pc := 20) dX0_lookAt_20 (by decide) rfl (by decide) (by omega) ?_
    refine z_if_eq (pc := 21) (tgt := 37) dX0_lookAt_21 (by decide) (fun h21 => ?_) (fun h21 => ?_)
    · have hsn : x_sn 11 s i σ9 = nI 0 := by rw [x_sn, if_pos h21]
      refine z_iconst (pc := 37) (v := (nI 0)) dX0_lookAt_37 (by decide) ?_
      refine z_istore_n (pc := 38) dX0_lookAt_38 (by decide) rfl rfl ?_
      refine z_aload_n (pc := 39) dX0_lookAt_39 rfl ?_
      refine z_getA (pc := 40) f_X0_46 dX0_lookAt_40 (by decide) rfl rfl ?_
      refine z_iload_n (pc := 43) dX0_lookAt_43 rfl ?_
      refine z_cV1 (pc := 44) mX4_slotOf l_X0_62 (by decide) dX0_lookAt_44 (by decide) rfl rfl (by decide) (Nat.le_of_ble_eq_true rfl) (c_X4_slotOf (by omega)) rfl (fun r44 σ44 hr44 => ?_)
      obtain ⟨rfl, rfl⟩ := hr44
      refine z_iload_n (pc := 47) dX0_lookAt_47 rfl ?_
      refine z_icmp_ne (pc := 48) (tgt := 78) dX0_lookAt_48 (by decide) (fun h48 => ?_) (fun h48 => ?_)
      · have hq : x_l1 11 s i σ44 = σ44 := by rw [x_l1, if_neg (fun g => h48 g.1)]
        refine z_iincN (pc := 78) dX0_lookAt_78 rfl (by decide) rfl rfl ?_
        refine z_goto (pc := 81) (tgt := 6) dX0_lookAt_81 (by decide) ?_
        exact (ih _ (by omega) (i := i + 1) (by first | exact hn | (simp only [z_up_at, reduceIte, Nat.reduceEqDiff]; exact hn)) (by omega) rfl).mono (fun r σ' g => ⟨g.1, g.2.trans (by rw [hf1, x_lk, hq] <;> rfl)⟩)
      · refine z_iload_n (pc := 51) dX0_lookAt_51 rfl ?_
        refine z_aload_n (pc := 52) dX0_lookAt_52 rfl ?_
        refine z_getA (pc := 53) f_X0_30 dX0_lookAt_53 (by decide) rfl rfl ?_
        refine z_iload_n (pc := 56) dX0_lookAt_56 rfl ?_
        refine z_zaldN (pc := 57) dX0_lookAt_57 (by decide) rfl (by decide) (by omega) ?_
        refine z_icmp_eq (pc := 58) (tgt := 78) dX0_lookAt_58 (by decide) (fun h58 => ?_) (fun h58 => ?_)
        · have hq : x_l1 11 s i σ44 = σ44 := by rw [x_l1, if_neg (fun g => g.2 (hsn.trans h58))]
          refine z_iincN (pc := 78) dX0_lookAt_78 rfl (by decide) rfl rfl ?_
          refine z_goto (pc := 81) (tgt := 6) dX0_lookAt_81 (by decide) ?_
          exact (ih _ (by omega) (i := i + 1) (by first | exact hn | (simp only [z_up_at, reduceIte, Nat.reduceEqDiff]; exact hn)) (by omega) rfl).mono (fun r σ' g => ⟨g.1, g.2.trans (by rw [hf1, x_lk, hq] <;> rfl)⟩)
        · have hq : x_l1 11 s i σ44 = z_up (z_up σ44 (11 + 6) i (x_sn 11 s i σ44)) (11 + 7) i (σ44 (11 + 7) i + nI 1) := by rw [x_l1, if_pos ⟨h48, fun g => h58 (hsn.symm.trans g)⟩]
          rw [hsn] at hq
          refine z_aload_n (pc := 61) dX0_lookAt_61 rfl ?_
          refine z_getA (pc := 62) f_X0_30 dX0_lookAt_62 (by decide) rfl rfl ?_
          refine z_iload_n (pc := 65) dX0_lookAt_65 rfl ?_
          refine z_iload_n (pc := 66) dX0_lookAt_66 rfl ?_
          refine z_zastN (pc := 67) dX0_lookAt_67 (by decide) rfl (by decide) (by omega) (by first | exact Or.inl rfl | exact Or.inr rfl) ?_
          refine z_aload_n (pc := 68) dX0_lookAt_68 rfl ?_
          refine z_getA (pc := 69) f_X0_33 dX0_lookAt_69 (by decide) rfl rfl ?_
          refine z_iload_n (pc := 72) dX0_lookAt_72 rfl ?_
          refine z_dup2 (pc := 73) dX0_lookAt_73 ?_
          refine z_ialdN (pc := 74) dX0_lookAt_74 (by decide) rfl (by decide) (by omega) ?_
          refine z_iconst (pc := 75) (v := (nI 1)) dX0_lookAt_75 (by decide) ?_
          refine z_iadd (pc := 76) dX0_lookAt_76 ?_
          refine z_iastN (pc := 77) dX0_lookAt_77 (by decide) rfl (by decide) (by omega) ?_
          refine z_iincN (pc := 78) dX0_lookAt_78 rfl (by decide) rfl rfl ?_
          refine z_goto (pc := 81) (tgt := 6) dX0_lookAt_81 (by decide) ?_
          exact (ih _ (by omega) (i := i + 1) (by first | exact hn | (simp only [z_up_at, reduceIte, Nat.reduceEqDiff]; exact hn)) (by omega) rfl).mono (fun r σ' g => ⟨g.1, g.2.trans (by rw [hf1, x_lk, hq] <;> rfl)⟩)
    · refine z_aload_n (pc := 24) dX0_lookAt_24 rfl ?_
      refine z_getA (pc := 25) f_X0_23 dX0_lookAt_25 (by decide) rfl rfl ?_
      refine z_iload_n (pc := 28) dX0_lookAt_28 rfl ?_
      refine z_zaldN (pc := 29) dX0_lookAt_29 (by decide) rfl (by decide) (hs) ?_
      refine z_if_ne (pc := 30) (tgt := 37) dX0_lookAt_30 (by decide) (fun h30 => ?_) (fun h30 => ?_)
      · have hsn : x_sn 11 s i σ9 = nI 0 := by rw [x_sn, if_neg h21, if_neg h30]
        refine z_iconst (pc := 37) (v := (nI 0)) dX0_lookAt_37 (by decide) ?_
        refine z_istore_n (pc := 38) dX0_lookAt_38 (by decide) rfl rfl ?_
        refine z_aload_n (pc := 39) dX0_lookAt_39 rfl ?_
        refine z_getA (pc := 40) f_X0_46 dX0_lookAt_40 (by decide) rfl rfl ?_
        refine z_iload_n (pc := 43) dX0_lookAt_43 rfl ?_
        refine z_cV1 (pc := 44) mX4_slotOf l_X0_62 (by decide) dX0_lookAt_44 (by decide) rfl rfl (by decide) (Nat.le_of_ble_eq_true rfl) (c_X4_slotOf (by omega)) rfl (fun r44 σ44 hr44 => ?_)
        obtain ⟨rfl, rfl⟩ := hr44
        refine z_iload_n (pc := 47) dX0_lookAt_47 rfl ?_
        refine z_icmp_ne (pc := 48) (tgt := 78) dX0_lookAt_48 (by decide) (fun h48 => ?_) (fun h48 => ?_)
        · have hq : x_l1 11 s i σ44 = σ44 := by rw [x_l1, if_neg (fun g => h48 g.1)]
          refine z_iincN (pc := 78) dX0_lookAt_78 rfl (by decide) rfl rfl ?_
          refine z_goto (pc := 81) (tgt := 6) dX0_lookAt_81 (by decide) ?_
          exact (ih _ (by omega) (i := i + 1) (by first | exact hn | (simp only [z_up_at, reduceIte, Nat.reduceEqDiff]; exact hn)) (by omega) rfl).mono (fun r σ' g => ⟨g.1, g.2.trans (by rw [hf1, x_lk, hq] <;> rfl)⟩)
        · refine z_iload_n (pc := 51) dX0_lookAt_51 rfl ?_
          refine z_aload_n (pc := 52) dX0_lookAt_52 rfl ?_
          refine z_getA (pc := 53) f_X0_30 dX0_lookAt_53 (by decide) rfl rfl ?_
          refine z_iload_n (pc := 56) dX0_lookAt_56 rfl ?_
          refine z_zaldN (pc := 57) dX0_lookAt_57 (by decide) rfl (by decide) (by omega) ?_
          refine z_icmp_eq (pc := 58) (tgt := 78) dX0_lookAt_58 (by decide) (fun h58 => ?_) (fun h58 => ?_)
          · have hq : x_l1 11 s i σ44 = σ44 := by rw [x_l1, if_neg (fun g => g.2 (hsn.trans h58))]
            refine z_iincN (pc := 78) dX0_lookAt_78 rfl (by decide) rfl rfl ?_
            refine z_goto (pc := 81) (tgt := 6) dX0_lookAt_81 (by decide) ?_
            exact (ih _ (by omega) (i := i + 1) (by first | exact hn | (simp only [z_up_at, reduceIte, Nat.reduceEqDiff]; exact hn)) (by omega) rfl).mono (fun r σ' g => ⟨g.1, g.2.trans (by rw [hf1, x_lk, hq] <;> rfl)⟩)
          · have hq : x_l1 11 s i σ44 = z_up (z_up σ44 (11 + 6) i (x_sn 11 s i σ44)) (11 + 7) i (σ44 (11 + 7) i + nI 1) := by rw [x_l1, if_pos ⟨h48, fun g => h58 (hsn.symm.trans g)⟩]
            rw [hsn] at hq
            refine z_aload_n (pc := 61) dX0_lookAt_61 rfl ?_
            refine z_getA (pc := 62) f_X0_30 dX0_lookAt_62 (by decide) rfl rfl ?_
            refine z_iload_n (pc := 65) dX0_lookAt_65 rfl ?_
            refine z_iload_n (pc := 66) dX0_lookAt_66 rfl ?_
            refine z_zastN (pc := 67) dX0_lookAt_67 (by decide) rfl (by decide) (by omega) (by first | exact Or.inl rfl | exact Or.inr rfl) ?_
            refine z_aload_n (pc := 68) dX0_lookAt_68 rfl ?_
            refine z_getA (pc := 69) f_X0_33 dX0_lookAt_69 (by decide) rfl rfl ?_
            refine z_iload_n (pc := 72) dX0_lookAt_72 rfl ?_
            refine z_dup2 (pc := 73) dX0_lookAt_73 ?_
            refine z_ialdN (pc := 74) dX0_lookAt_74 (by decide) rfl (by decide) (by omega) ?_
            refine z_iconst (pc := 75) (v := (nI 1)) dX0_lookAt_75 (by decide) ?_
            refine z_iadd (pc := 76) dX0_lookAt_76 ?_
            refine z_iastN (pc := 77) dX0_lookAt_77 (by decide) rfl (by decide) (by omega) ?_
            refine z_iincN (pc := 78) dX0_lookAt_78 rfl (by decide) rfl rfl ?_
            refine z_goto (pc := 81) (tgt := 6) dX0_lookAt_81 (by decide) ?_
            exact (ih _ (by omega) (i := i + 1) (by first | exact hn | (simp only [z_up_at, reduceIte, Nat.reduceEqDiff]; exact hn)) (by omega) rfl).mono (fun r σ' g => ⟨g.1, g.2.trans (by rw [hf1, x_lk, hq] <;> rfl)⟩)
      · have hsn : x_sn 11 s i σ9 = nI 1 := by rw [x_sn, if_neg h21, if_pos h30]
        refine z_iconst (pc := 33) (v := (nI 1)) dX0_lookAt_33 (by decide) ?_
        refine z_goto (pc := 34) (tgt := 38) dX0_lookAt_34 (by decide) ?_
        refine z_istore_n (pc := 38) dX0_lookAt_38 (by decide) rfl rfl ?_
        refine z_aload_n (pc := 39) dX0_lookAt_39 rfl ?_
        refine z_getA (pc := 40) f_X0_46 dX0_lookAt_40 (by decide) rfl rfl ?_
        refine z_iload_n (pc := 43) dX0_lookAt_43 rfl ?_
        refine z_cV1 (pc := 44) mX4_slotOf l_X0_62 (by decide) dX0_lookAt_44 (by decide) rfl rfl (by decide) (Nat.le_of_ble_eq_true rfl) (c_X4_slotOf (by omega)) rfl (fun r44 σ44 hr44 => ?_)
        obtain ⟨rfl, rfl⟩ := hr44
        refine z_iload_n (pc := 47) dX0_lookAt_47 rfl ?_
        refine z_icmp_ne (pc := 48) (tgt := 78) dX0_lookAt_48 (by decide) (fun h48 => ?_) (fun h48 => ?_)
        · have hq : x_l1 11 s i σ44 = σ44 := by rw [x_l1, if_neg (fun g => h48 g.1)]
          refine z_iincN (pc := 78) dX0_lookAt_78 rfl (by decide) rfl rfl ?_
          refine z_goto (pc := 81) (tgt := 6) dX0_lookAt_81 (by decide) ?_
          exact (ih _ (by omega) (i := i + 1) (by first | exact hn | (simp only [z_up_at, reduceIte, Nat.reduceEqDiff]; exact hn)) (by omega) rfl).mono (fun r σ' g => ⟨g.1, g.2.trans (by rw [hf1, x_lk, hq] <;> rfl)⟩)
        · refine z_iload_n (pc := 51) dX0_lookAt_51 rfl ?_
          refine z_aload_n (pc := 52) dX0_lookAt_52 rfl ?_
          refine z_getA (pc := 53) f_X0_30 dX0_lookAt_53 (by decide) rfl rfl ?_
          refine z_iload_n (pc := 56) dX0_lookAt_56 rfl ?_
          refine z_zaldN (pc := 57) dX0_lookAt_57 (by decide) rfl (by decide) (by omega) ?_
          refine z_icmp_eq (pc := 58) (tgt := 78) dX0_lookAt_58 (by decide) (fun h58 => ?_) (fun h58 => ?_)
          · have hq : x_l1 11 s i σ44 = σ44 := by rw [x_l1, if_neg (fun g => g.2 (hsn.trans h58))]
            refine z_iincN (pc := 78) dX0_lookAt_78 rfl (by decide) rfl rfl ?_
            refine z_goto (pc := 81) (tgt := 6) dX0_lookAt_81 (by decide) ?_
            exact (ih _ (by omega) (i := i + 1) (by first | exact hn | (simp only [z_up_at, reduceIte, Nat.reduceEqDiff]; exact hn)) (by omega) rfl).mono (fun r σ' g => ⟨g.1, g.2.trans (by rw [hf1, x_lk, hq] <;> rfl)⟩)
          · have hq : x_l1 11 s i σ44 = z_up (z_up σ44 (11 + 6) i (x_sn 11 s i σ44)) (11 + 7) i (σ44 (11 + 7) i + nI 1) := by rw [x_l1, if_pos ⟨h48, fun g => h58 (hsn.symm.trans g)⟩]
            rw [hsn] at hq
            refine z_aload_n (pc := 61) dX0_lookAt_61 rfl ?_
            refine z_getA (pc := 62) f_X0_30 dX0_lookAt_62 (by decide) rfl rfl ?_
            refine z_iload_n (pc := 65) dX0_lookAt_65 rfl ?_
            refine z_iload_n (pc := 66) dX0_lookAt_66 rfl ?_
            refine z_zastN (pc := 67) dX0_lookAt_67 (by decide) rfl (by decide) (by omega) (by first | exact Or.inl rfl | exact Or.inr rfl) ?_
            refine z_aload_n (pc := 68) dX0_lookAt_68 rfl ?_
            refine z_getA (pc := 69) f_X0_33 dX0_lookAt_69 (by decide) rfl rfl ?_
            refine z_iload_n (pc := 72) dX0_lookAt_72 rfl ?_
            refine z_dup2 (pc := 73) dX0_lookAt_73 ?_
            refine z_ialdN (pc := 74) dX0_lookAt_74 (by decide) rfl (by decide) (by omega) ?_
            refine z_iconst (pc := 75) (v := (nI 1)) dX0_lookAt_75 (by decide) ?_
            refine z_iadd (pc := 76) dX0_lookAt_76 ?_
            refine z_iastN (pc := 77) dX0_lookAt_77 (by decide) rfl (by decide) (by omega) ?_
            refine z_iincN (pc := 78) dX0_lookAt_78 rfl (by decide) rfl rfl ?_
            refine z_goto (pc := 81) (tgt := 6) dX0_lookAt_81 (by decide) ?_
            exact (ih _ (by omega) (i := i + 1) (by first | exact hn | (simp only [z_up_at, reduceIte, Nat.reduceEqDiff]; exact hn)) (by omega) rfl).mono (fun r σ' g => ⟨g.1, g.2.trans (by rw [hf1, x_lk, hq] <;> rfl)⟩)
set_option maxRecDepth 20000 in
theorem c_X0_lookAt {σ : z_Sto} {s n : Nat} (hs : s < 16) (hn : σ 3 3 = nI n) (h12 : n ≤ 12) : z_R layX iX0_lookAt 0 [some (.ref 11), some (.int (nI s)), none, none] [] σ (fun r σ' => r = none ∧ σ' = x_look 11 s n σ) := by
  refine z_aload_n (pc := 0) dX0_lookAt_0 rfl ?_
  refine z_iload_n (pc := 1) dX0_lookAt_1 rfl ?_
  refine z_cV1 (pc := 2) mX0_firstOf l_X0_103 (by decide) dX0_lookAt_2 (by decide) rfl rfl (by decide) (Nat.le_of_ble_eq_true rfl) (c_X0_firstOf hs) rfl (fun r2 σ2 hr2 => ?_)
  obtain ⟨rfl, rfl⟩ := hr2
  refine z_istore_n (pc := 5) dX0_lookAt_5 (by decide) rfl rfl ?_
  exact c_X0_lkl hs hn h12 (by unfold x_fst; split <;> omega)
/-! the board at cell 24, its rules' numbers at 23 -/
set_option maxRecDepth 20000 in
theorem c_X0_isUp2 {σ : z_Sto} {i : Nat} (hi : i < 12) (h01 : σ 29 i = nI 0 ∨ σ 29 i = nI 1) : z_R layX iX0_isUp 0 [some (.ref 24), some (.int (nI i))] [] σ (fun r σ' => r = some (.int (σ 29 i)) ∧ σ' = σ) := by
  refine z_aload_n (pc := 0) dX0_isUp_0 rfl ?_
  refine z_getA (pc := 1) f_X0_27 dX0_isUp_1 (by decide) rfl rfl ?_
  refine z_iload_n (pc := 4) dX0_isUp_4 rfl ?_
  refine z_zaldN (pc := 5) dX0_isUp_5 (by decide) rfl (by decide) (hi) ?_
  exact z_ireturn (pc := 6) dX0_isUp_6 rfl (z_nar h01) (⟨rfl, rfl⟩)
set_option maxRecDepth 20000 in
theorem c_X0_isShut2 {σ : z_Sto} {i s : Nat} (hi : i < 12) (hsl : σ 5 i = nI s) (hs : s < 16) (h01 : σ 28 s = nI 0 ∨ σ 28 s = nI 1) : z_R layX iX0_isShut 0 [some (.ref 24), some (.int (nI i))] [] σ (fun r σ' => r = some (.int (σ 28 s)) ∧ σ' = σ) := by
  refine z_aload_n (pc := 0) dX0_isShut_0 rfl ?_
  refine z_getA (pc := 1) f_X0_23 dX0_isShut_1 (by decide) rfl rfl ?_
  refine z_aload_n (pc := 4) dX0_isShut_4 rfl ?_
  refine z_getA (pc := 5) f_X0_46 dX0_isShut_5 (by decide) rfl rfl ?_
  refine z_iload_n (pc := 8) dX0_isShut_8 rfl ?_
  refine z_cV1 (pc := 9) mX4_slotOf l_X0_62 (by decide) dX0_isShut_9 (by decide) rfl rfl (by decide) (Nat.le_of_ble_eq_true rfl) (c_X4_slotOf hi) rfl (fun r9 σ9 hr9 => ?_)
  obtain ⟨rfl, rfl⟩ := hr9
  rw [hsl]
  refine z_zaldN (pc := 12) dX0_isShut_12 (by decide) rfl (by decide) (hs) ?_
  exact z_ireturn (pc := 13) dX0_isShut_13 rfl (z_nar h01) (⟨rfl, rfl⟩)
set_option maxRecDepth 20000 in
theorem c_X0_isSeen2 {σ : z_Sto} {i s : Nat} (hi : i < 12) (hsl : σ 5 i = nI s) (hs : s < 16) (h01 : σ 28 s = nI 0 ∨ σ 28 s = nI 1) : z_R layX iX0_isSeen 0 [some (.ref 24), some (.int (nI i))] [] σ (fun r σ' => r = some (.int (x_sn 24 s i σ)) ∧ σ' = σ) := by
  refine z_aload_n (pc := 0) dX0_isSeen_0 rfl ?_
  refine z_getA (pc := 1) f_X0_27 dX0_isSeen_1 (by decide) rfl rfl ?_
  refine z_iload_n (pc := 4) dX0_isSeen_4 rfl ?_
  refine z_zaldN (pc := 5) dX0_isSeen_5 (by decide) rfl (by decide) (hi) ?_
  refine z_if_eq (pc := 6) (tgt := 21) dX0_isSeen_6 (by decide) (fun h6 => ?_) (fun h6 => ?_)
  · refine z_iconst (pc := 21) (v := (nI 0)) dX0_isSeen_21 (by decide) ?_
    exact z_ireturn (pc := 22) dX0_isSeen_22 rfl (by decide) (⟨by first | rw [x_sn, if_pos h6] | rw [x_sn, if_neg h6, if_neg h14] | rw [x_sn, if_neg h6, if_pos h14], rfl⟩)
  · refine z_aload_n (pc := 9) dX0_isSeen_9 rfl ?_
    refine z_iload_n (pc := 10) dX0_isSeen_10 rfl ?_
    refine z_cV1 (pc := 11) mX0_isShut l_X0_66 (by decide) dX0_isSeen_11 (by decide) rfl rfl (by decide) (Nat.le_of_ble_eq_true rfl) (c_X0_isShut2 hi hsl hs h01) rfl (fun r11 σ11 hr11 => ?_)
    obtain ⟨rfl, rfl⟩ := hr11
    refine z_if_ne (pc := 14) (tgt := 21) dX0_isSeen_14 (by decide) (fun h14 => ?_) (fun h14 => ?_)
    · refine z_iconst (pc := 21) (v := (nI 0)) dX0_isSeen_21 (by decide) ?_
      exact z_ireturn (pc := 22) dX0_isSeen_22 rfl (by decide) (⟨by first | rw [x_sn, if_pos h6] | rw [x_sn, if_neg h6, if_neg h14] | rw [x_sn, if_neg h6, if_pos h14], rfl⟩)
    · refine z_iconst (pc := 17) (v := (nI 1)) dX0_isSeen_17 (by decide) ?_
      refine z_goto (pc := 18) (tgt := 22) dX0_isSeen_18 (by decide) ?_
      exact z_ireturn (pc := 22) dX0_isSeen_22 rfl (by decide) (⟨by first | rw [x_sn, if_pos h6] | rw [x_sn, if_neg h6, if_neg h14] | rw [x_sn, if_neg h6, if_pos h14], rfl⟩)
set_option maxRecDepth 20000 in
theorem c_X0_join2 {σ : z_Sto} {i s : Nat} (hi : i < 12) (hsl : σ 5 i = nI s) (hs : s < 16) (h01 : σ 28 s = nI 0 ∨ σ 28 s = nI 1) : z_R layX iX0_join 0 [some (.ref 24), some (.int (nI i))] [] σ (fun r σ' => r = none ∧ σ' = z_up σ 30 i (x_sn 24 s i σ)) := by
  refine z_aload_n (pc := 0) dX0_join_0 rfl ?_
  refine z_getA (pc := 1) f_X0_30 dX0_join_1 (by decide) rfl rfl ?_
  refine z_iload_n (pc := 4) dX0_join_4 rfl ?_
  refine z_aload_n (pc := 5) dX0_join_5 rfl ?_
  refine z_iload_n (pc := 6) dX0_join_6 rfl ?_
  refine z_cV1 (pc := 7) mX0_isSeen l_X0_58 (by decide) dX0_join_7 (by decide) rfl rfl (by decide) (Nat.le_of_ble_eq_true rfl) (c_X0_isSeen2 hi hsl hs h01) rfl (fun r7 σ7 hr7 => ?_)
  obtain ⟨rfl, rfl⟩ := hr7
  refine z_zastN (pc := 10) dX0_join_10 (by decide) rfl (by decide) (hi) (by unfold x_sn; split; exact Or.inl rfl; split; exact Or.inr rfl; exact Or.inl rfl) ?_
  exact z_return (pc := 11) dX0_join_11 rfl (⟨rfl, rfl⟩)
set_option maxRecDepth 20000 in
theorem c_X0_flipsOf2 {σ : z_Sto} {i : Nat} (hi : i < 12) : z_R layX iX0_flipsOf 0 [some (.ref 24), some (.int (nI i))] [] σ (fun r σ' => r = some (.int (σ 31 i)) ∧ σ' = σ) := by
  refine z_aload_n (pc := 0) dX0_flipsOf_0 rfl ?_
  refine z_getA (pc := 1) f_X0_33 dX0_flipsOf_1 (by decide) rfl rfl ?_
  refine z_iload_n (pc := 4) dX0_flipsOf_4 rfl ?_
  refine z_ialdN (pc := 5) dX0_flipsOf_5 (by decide) rfl (by decide) (hi) ?_
  exact z_ireturn (pc := 6) dX0_flipsOf_6 rfl rfl (⟨rfl, rfl⟩)
set_option maxRecDepth 20000 in
theorem c_X0_lostOf2 {σ : z_Sto} {i : Nat} (hi : i < 12) : z_R layX iX0_lostOf 0 [some (.ref 24), some (.int (nI i))] [] σ (fun r σ' => r = some (.int (σ 32 i)) ∧ σ' = σ) := by
  refine z_aload_n (pc := 0) dX0_lostOf_0 rfl ?_
  refine z_getA (pc := 1) f_X0_36 dX0_lostOf_1 (by decide) rfl rfl ?_
  refine z_iload_n (pc := 4) dX0_lostOf_4 rfl ?_
  refine z_ialdN (pc := 5) dX0_lostOf_5 (by decide) rfl (by decide) (hi) ?_
  exact z_ireturn (pc := 6) dX0_lostOf_6 rfl rfl (⟨rfl, rfl⟩)
set_option maxRecDepth 20000 in
theorem c_X0_wasEverShut2 {σ : z_Sto} (h01 : σ 24 11 = nI 0 ∨ σ 24 11 = nI 1) : z_R layX iX0_wasEverShut 0 [some (.ref 24)] [] σ (fun r σ' => r = some (.int (σ 24 11)) ∧ σ' = σ) := by
  refine z_aload_n (pc := 0) dX0_wasEverShut_0 rfl ?_
  refine z_getI (pc := 1) f_X0_53 dX0_wasEverShut_1 (by decide) rfl rfl ?_
  exact z_ireturn (pc := 4) dX0_wasEverShut_4 rfl (z_nar h01) (⟨rfl, rfl⟩)
set_option maxRecDepth 20000 in
theorem c_X0_firstOf2 {σ : z_Sto} {s : Nat} (hs : s < 16) : z_R layX iX0_firstOf 0 [some (.ref 24), some (.int (nI s))] [] σ (fun r σ' => r = some (.int (nI (x_fst s))) ∧ σ' = σ) := by
  refine z_iload_n (pc := 0) dX0_firstOf_0 rfl ?_
  refine z_bipush (pc := 1) (v := (nI 12)) dX0_firstOf_1 (by decide) ?_
  refine z_icmp_ge (pc := 3) (tgt := 10) dX0_firstOf_3 (by decide) (fun h3 => ?_) (fun h3 => ?_)
  · have q3 : ¬ s < 12 := fun q => absurd ((nI_leI (by decide) (by omega)).mp h3) (by omega)
    refine z_iconst (pc := 10) (v := (nI 0)) dX0_firstOf_10 (by decide) ?_
    exact z_ireturn (pc := 11) dX0_firstOf_11 rfl rfl (⟨by simp [x_fst, q3], rfl⟩)
  · have q3 : s < 12 := by have : ¬ 12 ≤ s := fun q => h3 ((nI_leI (by decide) (by omega)).mpr q); omega
    refine z_iload_n (pc := 6) dX0_firstOf_6 rfl ?_
    refine z_goto (pc := 7) (tgt := 11) dX0_firstOf_7 (by decide) ?_
    exact z_ireturn (pc := 11) dX0_firstOf_11 rfl rfl (⟨by simp [x_fst, q3], rfl⟩)
set_option maxRecDepth 20000 in
theorem c_X0_endOf2 {σ : z_Sto} {s n : Nat} (hs : s < 16) (hn : σ 3 3 = nI n) (h12 : n ≤ 12) : z_R layX iX0_endOf 0 [some (.ref 24), some (.int (nI s))] [] σ (fun r σ' => r = some (.int (nI (x_end s n))) ∧ σ' = σ) := by
  refine z_aload_n (pc := 0) dX0_endOf_0 rfl ?_
  refine z_getA (pc := 1) f_X0_46 dX0_endOf_1 (by decide) rfl rfl ?_
  refine z_cV0 (pc := 4) mX4_size l_X0_69 (by decide) dX0_endOf_4 (by decide) rfl rfl (by decide) (Nat.le_of_ble_eq_true rfl) (c_X4_size) rfl (fun r4 σ4 hr4 => ?_)
  obtain ⟨rfl, rfl⟩ := hr4
  rw [hn]
  refine z_iload_n (pc := 7) dX0_endOf_7 rfl ?_
  refine z_bipush (pc := 8) (v := (nI 12)) dX0_endOf_8 (by decide) ?_
  refine z_icmp_ge (pc := 10) (tgt := 19) dX0_endOf_10 (by decide) (fun h10 => ?_) (fun h10 => ?_)
  · have q10 : ¬ s < 12 := fun q => absurd ((nI_leI (by decide) (by omega)).mp h10) (by omega)
    refine z_bipush (pc := 19) (v := (nI 12)) dX0_endOf_19 (by decide) ?_
    refine z_min (pc := 21) l_X0_100 (by decide) (Nat.le_of_ble_eq_true rfl) dX0_endOf_21 ?_
    exact z_ireturn (pc := 24) dX0_endOf_24 rfl rfl (⟨by simp only [x_end, q10, if_true, if_false, nI_ltI (show s + 1 < 2 ^ 31 by omega) (show n < 2 ^ 31 by omega), nI_ltI (show 12 < 2 ^ 31 by omega) (show n < 2 ^ 31 by omega)]; (try rw [if_neg (show ¬ 12 < n by omega)]); (try split <;> rfl), rfl⟩)
  · have q10 : s < 12 := by have : ¬ 12 ≤ s := fun q => h10 ((nI_leI (by decide) (by omega)).mpr q); omega
    refine z_iload_n (pc := 13) dX0_endOf_13 rfl ?_
    refine z_iconst (pc := 14) (v := (nI 1)) dX0_endOf_14 (by decide) ?_
    refine z_iaddN (pc := 15) dX0_endOf_15 ?_
    refine z_goto (pc := 16) (tgt := 21) dX0_endOf_16 (by decide) ?_
    refine z_min (pc := 21) l_X0_100 (by decide) (Nat.le_of_ble_eq_true rfl) dX0_endOf_21 ?_
    exact z_ireturn (pc := 24) dX0_endOf_24 rfl rfl (⟨by simp only [x_end, q10, if_true, if_false, nI_ltI (show s + 1 < 2 ^ 31 by omega) (show n < 2 ^ 31 by omega), nI_ltI (show 12 < 2 ^ 31 by omega) (show n < 2 ^ 31 by omega)]; (try rw [if_neg (show ¬ 12 < n by omega)]); (try split <;> rfl), rfl⟩)
set_option maxRecDepth 20000 in
theorem c_X0_penaltyAt2 {σ : z_Sto} {s h : Nat} {t : Int32} (hs : s < 16) (hh : σ 23 3 = nI h) (h1 : 1 ≤ h) (h2 : h ≤ 500) : z_R layX iX0_penaltyAt 0 [some (.ref 24), some (.int (nI s)), some (.int t)] [] σ (fun r σ' => r = some (.int (x_pen 24 23 s t σ)) ∧ σ' = σ) := by
  refine z_aload_n (pc := 0) dX0_penaltyAt_0 rfl ?_
  refine z_getA (pc := 1) f_X0_42 dX0_penaltyAt_1 (by decide) rfl rfl ?_
  refine z_aload_n (pc := 4) dX0_penaltyAt_4 rfl ?_
  refine z_getA (pc := 5) f_X0_11 dX0_penaltyAt_5 (by decide) rfl rfl ?_
  refine z_iload_n (pc := 8) dX0_penaltyAt_8 rfl ?_
  refine z_ialdN (pc := 9) dX0_penaltyAt_9 (by decide) rfl (by decide) (hs) ?_
  refine z_iload_n (pc := 10) dX0_penaltyAt_10 rfl ?_
  refine z_aload_n (pc := 11) dX0_penaltyAt_11 rfl ?_
  refine z_getA (pc := 12) f_X0_17 dX0_penaltyAt_12 (by decide) rfl rfl ?_
  refine z_iload_n (pc := 15) dX0_penaltyAt_15 rfl ?_
  refine z_ialdN (pc := 16) dX0_penaltyAt_16 (by decide) rfl (by decide) (hs) ?_
  refine z_isub (pc := 17) dX0_penaltyAt_17 ?_
  refine z_cV2 (pc := 18) mX5_fade l_X0_77 (by decide) dX0_penaltyAt_18 (by decide) rfl rfl (by decide) (Nat.le_of_ble_eq_true rfl) (c_X5_fadeT hh h1 h2) rfl (fun r18 σ18 hr18 => ?_)
  obtain ⟨rfl, rfl⟩ := hr18
  exact z_ireturn (pc := 21) dX0_penaltyAt_21 rfl rfl (⟨by rw [x_pen, hh], rfl⟩)
set_option maxRecDepth 20000 in
theorem c_X0_penaltyOf2 {σ : z_Sto} {i s h : Nat} {t : Int32} (hi : i < 12) (hsl : σ 5 i = nI s) (hs : s < 16) (hh : σ 23 3 = nI h) (h1 : 1 ≤ h) (h2 : h ≤ 500) : z_R layX iX0_penaltyOf 0 [some (.ref 24), some (.int (nI i)), some (.int t)] [] σ (fun r σ' => r = some (.int (x_pen 24 23 s t σ)) ∧ σ' = σ) := by
  refine z_aload_n (pc := 0) dX0_penaltyOf_0 rfl ?_
  refine z_aload_n (pc := 1) dX0_penaltyOf_1 rfl ?_
  refine z_getA (pc := 2) f_X0_46 dX0_penaltyOf_2 (by decide) rfl rfl ?_
  refine z_iload_n (pc := 5) dX0_penaltyOf_5 rfl ?_
  refine z_cV1 (pc := 6) mX4_slotOf l_X0_62 (by decide) dX0_penaltyOf_6 (by decide) rfl rfl (by decide) (Nat.le_of_ble_eq_true rfl) (c_X4_slotOf hi) rfl (fun r6 σ6 hr6 => ?_)
  obtain ⟨rfl, rfl⟩ := hr6
  rw [hsl]
  refine z_iload_n (pc := 9) dX0_penaltyOf_9 rfl ?_
  refine z_cV2 (pc := 10) mX0_penaltyAt l_X0_73 (by decide) dX0_penaltyOf_10 (by decide) rfl rfl (by decide) (Nat.le_of_ble_eq_true rfl) (c_X0_penaltyAt2 hs hh h1 h2) rfl (fun r10 σ10 hr10 => ?_)
  obtain ⟨rfl, rfl⟩ := hr10
  exact z_ireturn (pc := 13) dX0_penaltyOf_13 rfl rfl (⟨rfl, rfl⟩)
set_option maxRecDepth 20000 in
theorem c_X0_rpl2 {σ : z_Sto} {s h : Nat} {t : Int32} (hs : s ≤ 16) (hh : σ 23 3 = nI h) (h1 : 1 ≤ h) (h2 : h ≤ 500) : z_R layX iX0_restPenalties 2 [some (.ref 24), some (.int t), some (.int (nI s))] [] σ (fun r σ' => r = none ∧ σ' = x_rp 24 23 t (16 - s) s σ) := by
  generalize hf : 16 - s = f
  induction f using Nat.strongRecOn generalizing s σ
  rename_i f ih
  refine z_iload_n (pc := 2) dX0_restPenalties_2 rfl ?_
  refine z_bipush (pc := 3) (v := (nI 16)) dX0_restPenalties_3 (by decide) ?_
  refine z_icmp_ge (pc := 5) (tgt := 33) dX0_restPenalties_5 (by decide) (fun h5 => ?_) (fun h5 => ?_)
  · have q5 : f = 0 := by have := (nI_leI (by decide) (by omega)).mp h5; omega
    exact z_return (pc := 33) dX0_restPenalties_33 rfl (⟨rfl, by rw [q5]; rfl⟩)
  · have q5 : s < 16 := by have : ¬ 16 ≤ s := fun q => h5 ((nI_leI (by decide) (by omega)).mpr q); omega
    have hf1 : f = (16 - (s + 1)) + 1 := by omega
    refine z_aload_n (pc := 8) dX0_restPenalties_8 rfl ?_
    refine z_getA (pc := 9) f_X0_11 dX0_restPenalties_9 (by decide) rfl rfl ?_
    refine z_iload_n (pc := 12) dX0_restPenalties_12 rfl ?_
    refine z_aload_n (pc := 13) dX0_restPenalties_13 rfl ?_
    refine z_iload_n (pc := 14) dX0_restPenalties_14 rfl ?_
    refine z_iload_n (pc := 15) dX0_restPenalties_15 rfl ?_
    refine z_cV2 (pc := 16) mX0_penaltyAt l_X0_73 (by decide) dX0_restPenalties_16 (by decide) rfl rfl (by decide) (Nat.le_of_ble_eq_true rfl) (c_X0_penaltyAt2 q5 hh h1 h2) rfl (fun r16 σ16 hr16 => ?_)
    obtain ⟨rfl, rfl⟩ := hr16
    refine z_iastN (pc := 19) dX0_restPenalties_19 (by decide) rfl (by decide) (q5) ?_
    refine z_aload_n (pc := 20) dX0_restPenalties_20 rfl ?_
    refine z_getA (pc := 21) f_X0_17 dX0_restPenalties_21 (by decide) rfl rfl ?_
    refine z_iload_n (pc := 24) dX0_restPenalties_24 rfl ?_
    refine z_iload_n (pc := 25) dX0_restPenalties_25 rfl ?_
    refine z_iastN (pc := 26) dX0_restPenalties_26 (by decide) rfl (by decide) (q5) ?_
    refine z_iincN (pc := 27) dX0_restPenalties_27 rfl (by decide) rfl rfl ?_
    refine z_goto (pc := 30) (tgt := 2) dX0_restPenalties_30 (by decide) ?_
    exact (ih _ (by omega) (s := s + 1) (by omega) (by simp only [z_up_at, reduceIte, Nat.reduceEqDiff]; exact hh) rfl).mono (fun r σ' g => ⟨g.1, g.2.trans (by rw [hf1, x_rp]; rfl)⟩)
set_option maxRecDepth 20000 in
theorem c_X0_restPenalties2 {σ : z_Sto} {h : Nat} {t : Int32} (hh : σ 23 3 = nI h) (h1 : 1 ≤ h) (h2 : h ≤ 500) : z_R layX iX0_restPenalties 0 [some (.ref 24), some (.int t), none] [] σ (fun r σ' => r = none ∧ σ' = x_rp 24 23 t 16 0 σ) := by
  refine z_iconst (pc := 0) (v := (nI 0)) dX0_restPenalties_0 (by decide) ?_
  refine z_istore_n (pc := 1) dX0_restPenalties_1 (by decide) rfl rfl ?_
  exact c_X0_rpl2 (s := 0) (by decide) hh h1 h2
set_option maxRecDepth 20000 in
theorem c_X0_openingTick2 {σ : z_Sto} {s : Nat} {t : Int32} (hs : s < 16) : z_R layX iX0_openingTick 0 [some (.ref 24), some (.int (nI s)), some (.int t), none] [] σ (fun r σ' => r = some (.int (x_opn 24 23 s t σ)) ∧ σ' = σ) := by
  refine z_aload_n (pc := 0) dX0_openingTick_0 rfl ?_
  refine z_getA (pc := 1) f_X0_17 dX0_openingTick_1 (by decide) rfl rfl ?_
  refine z_iload_n (pc := 4) dX0_openingTick_4 rfl ?_
  refine z_ialdN (pc := 5) dX0_openingTick_5 (by decide) rfl (by decide) (hs) ?_
  refine z_aload_n (pc := 6) dX0_openingTick_6 rfl ?_
  refine z_getA (pc := 7) f_X0_42 dX0_openingTick_7 (by decide) rfl rfl ?_
  refine z_aload_n (pc := 10) dX0_openingTick_10 rfl ?_
  refine z_getA (pc := 11) f_X0_11 dX0_openingTick_11 (by decide) rfl rfl ?_
  refine z_iload_n (pc := 14) dX0_openingTick_14 rfl ?_
  refine z_ialdN (pc := 15) dX0_openingTick_15 (by decide) rfl (by decide) (hs) ?_
  refine z_aload_n (pc := 16) dX0_openingTick_16 rfl ?_
  refine z_getA (pc := 17) f_X0_42 dX0_openingTick_17 (by decide) rfl rfl ?_
  refine z_iconst (pc := 20) (v := (nI 5)) dX0_openingTick_20 (by decide) ?_
  refine z_cV1 (pc := 21) mX5_get l_X0_85 (by decide) dX0_openingTick_21 (by decide) rfl rfl (by decide) (Nat.le_of_ble_eq_true rfl) (c_X5_getT (by decide)) rfl (fun r21 σ21 hr21 => ?_)
  obtain ⟨rfl, rfl⟩ := hr21
  refine z_cV2 (pc := 24) mX5_ticksTillBelow l_X0_88 (by decide) dX0_openingTick_24 (by decide) rfl rfl (by decide) (Nat.le_of_ble_eq_true rfl) (c_X5_ttbT) rfl (fun r24 σ24 hr24 => ?_)
  obtain ⟨rfl, rfl⟩ := hr24
  refine z_iadd (pc := 27) dX0_openingTick_27 ?_
  refine z_istore_n (pc := 28) dX0_openingTick_28 (by decide) rfl rfl ?_
  refine z_iload_n (pc := 29) dX0_openingTick_29 rfl ?_
  refine z_iconst (pc := 30) (v := (nI 1)) dX0_openingTick_30 (by decide) ?_
  refine z_iadd (pc := 31) dX0_openingTick_31 ?_
  refine z_iload_n (pc := 32) dX0_openingTick_32 rfl ?_
  refine z_max (pc := 33) l_X0_91 (by decide) (Nat.le_of_ble_eq_true rfl) dX0_openingTick_33 ?_
  exact z_ireturn (pc := 36) dX0_openingTick_36 rfl rfl (⟨rfl, rfl⟩)
set_option maxRecDepth 20000 in
theorem c_X0_ticksTillOpen2 {σ : z_Sto} {i s : Nat} {t : Int32} (hi : i < 12) (hsl : σ 5 i = nI s) (hs : s < 16) : z_R layX iX0_ticksTillOpen 0 [some (.ref 24), some (.int (nI i)), some (.int t), none] [] σ (fun r σ' => r = some (.int (if σ 28 s = 0 then nI 0 else x_opn 24 23 s t σ - t)) ∧ σ' = σ) := by
  refine z_aload_n (pc := 0) dX0_ticksTillOpen_0 rfl ?_
  refine z_getA (pc := 1) f_X0_46 dX0_ticksTillOpen_1 (by decide) rfl rfl ?_
  refine z_iload_n (pc := 4) dX0_ticksTillOpen_4 rfl ?_
  refine z_cV1 (pc := 5) mX4_slotOf l_X0_62 (by decide) dX0_ticksTillOpen_5 (by decide) rfl rfl (by decide) (Nat.le_of_ble_eq_true rfl) (c_X4_slotOf hi) rfl (fun r5 σ5 hr5 => ?_)
  obtain ⟨rfl, rfl⟩ := hr5
  rw [hsl]
  refine z_istore_n (pc := 8) dX0_ticksTillOpen_8 (by decide) rfl rfl ?_
  refine z_aload_n (pc := 9) dX0_ticksTillOpen_9 rfl ?_
  refine z_getA (pc := 10) f_X0_23 dX0_ticksTillOpen_10 (by decide) rfl rfl ?_
  refine z_iload_n (pc := 13) dX0_ticksTillOpen_13 rfl ?_
  refine z_zaldN (pc := 14) dX0_ticksTillOpen_14 (by decide) rfl (by decide) (hs) ?_
  refine z_if_eq (pc := 15) (tgt := 29) dX0_ticksTillOpen_15 (by decide) (fun h15 => ?_) (fun h15 => ?_)
  · refine z_iconst (pc := 29) (v := (nI 0)) dX0_ticksTillOpen_29 (by decide) ?_
    exact z_ireturn (pc := 30) dX0_ticksTillOpen_30 rfl rfl (⟨by simp [h15], rfl⟩)
  · refine z_aload_n (pc := 18) dX0_ticksTillOpen_18 rfl ?_
    refine z_iload_n (pc := 19) dX0_ticksTillOpen_19 rfl ?_
    refine z_iload_n (pc := 20) dX0_ticksTillOpen_20 rfl ?_
    refine z_cV2 (pc := 21) mX0_openingTick l_X0_82 (by decide) dX0_ticksTillOpen_21 (by decide) rfl rfl (by decide) (Nat.le_of_ble_eq_true rfl) (c_X0_openingTick2 hs) rfl (fun r21 σ21 hr21 => ?_)
    obtain ⟨rfl, rfl⟩ := hr21
    refine z_iload_n (pc := 24) dX0_ticksTillOpen_24 rfl ?_
    refine z_isub (pc := 25) dX0_ticksTillOpen_25 ?_
    refine z_goto (pc := 26) (tgt := 30) dX0_ticksTillOpen_26 (by decide) ?_
    exact z_ireturn (pc := 30) dX0_ticksTillOpen_30 rfl rfl (⟨by simp [h15], rfl⟩)
set_option maxRecDepth 20000 in
theorem c_X0_wg22 {σ : z_Sto} {i w : Nat} {t : Int32} {v4 : Option Value} {Φ : z_Post} (hw : w < 3) (hΦ : Φ (some (.int (σ 23 w))) σ) : z_R layX iX0_weightOf 50 [some (.ref 24), some (.int (nI i)), some (.int (nI w)), some (.int t), v4] [] σ Φ := by
  refine z_aload_n (pc := 50) dX0_weightOf_50 rfl ?_
  refine z_getA (pc := 51) f_X0_42 dX0_weightOf_51 (by decide) rfl rfl ?_
  refine z_iload_n (pc := 54) dX0_weightOf_54 rfl ?_
  refine z_cV1 (pc := 55) mX5_get l_X0_85 (by decide) dX0_weightOf_55 (by decide) rfl rfl (by decide) (Nat.le_of_ble_eq_true rfl) (c_X5_getT (by omega)) rfl (fun r55 σ55 hr55 => ?_)
  obtain ⟨rfl, rfl⟩ := hr55
  exact z_ireturn (pc := 58) dX0_weightOf_58 rfl rfl (hΦ)
set_option maxRecDepth 20000 in
theorem c_X0_wg02 {σ : z_Sto} {i w : Nat} {t : Int32} (hw : w < 3) (hq : x_wgt 24 23 i w t σ = σ 23 w) : z_R layX iX0_weightOf 23 [some (.ref 24), some (.int (nI i)), some (.int (nI w)), some (.int t), some (.int (nI 0))] [] σ (fun r σ' => r = some (.int (x_wgt 24 23 i w t σ)) ∧ σ' = σ) := by
  refine z_iload (pc := 23) dX0_weightOf_23 rfl ?_
  refine z_if_eq (pc := 25) (tgt := 50) dX0_weightOf_25 (by decide) (fun h25 => ?_) (fun h25 => ?_)
  · exact c_X0_wg22 hw ⟨by rw [hq], rfl⟩
  · exact absurd rfl h25
set_option maxRecDepth 20000 in
theorem c_X0_wg12 {σ : z_Sto} {i w : Nat} {t : Int32} (hi : i < 12) (hw : w < 3) (q1 : w = 0) (h13 : σ 4 i = nI 2) : z_R layX iX0_weightOf 23 [some (.ref 24), some (.int (nI i)), some (.int (nI w)), some (.int t), some (.int (nI 1))] [] σ (fun r σ' => r = some (.int (x_wgt 24 23 i w t σ)) ∧ σ' = σ) := by
  refine z_iload (pc := 23) dX0_weightOf_23 rfl ?_
  refine z_if_eq (pc := 25) (tgt := 50) dX0_weightOf_25 (by decide) (fun h25 => ?_) (fun h25 => ?_)
  · exact absurd h25 (by decide)
  · refine z_aload_n (pc := 28) dX0_weightOf_28 rfl ?_
    refine z_getA (pc := 29) f_X0_39 dX0_weightOf_29 (by decide) rfl rfl ?_
    refine z_iload_n (pc := 32) dX0_weightOf_32 rfl ?_
    refine z_ialdN (pc := 33) dX0_weightOf_33 (by decide) rfl (by decide) (hi) ?_
    refine z_iload_n (pc := 34) dX0_weightOf_34 rfl ?_
    refine z_aload_n (pc := 35) dX0_weightOf_35 rfl ?_
    refine z_getA (pc := 36) f_X0_42 dX0_weightOf_36 (by decide) rfl rfl ?_
    refine z_bipush (pc := 39) (v := (nI 7)) dX0_weightOf_39 (by decide) ?_
    refine z_cV1 (pc := 41) mX5_get l_X0_85 (by decide) dX0_weightOf_41 (by decide) rfl rfl (by decide) (Nat.le_of_ble_eq_true rfl) (c_X5_getT (by decide)) rfl (fun r41 σ41 hr41 => ?_)
    obtain ⟨rfl, rfl⟩ := hr41
    refine z_isub (pc := 44) dX0_weightOf_44 ?_
    refine z_icmp_ge (pc := 45) (tgt := 50) dX0_weightOf_45 (by decide) (fun h45 => ?_) (fun h45 => ?_)
    · have hq : x_wgt 24 23 i w t σ41 = σ41 23 w := by rw [x_wgt, if_neg (fun g => z_nle g.2.2 h45)]
      exact c_X0_wg22 hw ⟨by rw [hq], rfl⟩
    · refine z_iconst (pc := 48) (v := (nI 0)) dX0_weightOf_48 (by decide) ?_
      exact z_ireturn (pc := 49) dX0_weightOf_49 rfl rfl (⟨by rw [x_wgt, if_pos ⟨q1, h13, by rw [← Int32.not_le]; exact h45⟩], rfl⟩)
set_option maxRecDepth 20000 in
theorem c_X0_weightOf2 {σ : z_Sto} {i w : Nat} {t : Int32} (hi : i < 12) (hw : w < 3) : z_R layX iX0_weightOf 0 [some (.ref 24), some (.int (nI i)), some (.int (nI w)), some (.int t), none] [] σ (fun r σ' => r = some (.int (x_wgt 24 23 i w t σ)) ∧ σ' = σ) := by
  refine z_iload_n (pc := 0) dX0_weightOf_0 rfl ?_
  refine z_if_ne (pc := 1) (tgt := 20) dX0_weightOf_1 (by decide) (fun h1 => ?_) (fun h1 => ?_)
  · have q1 : w ≠ 0 := fun q => h1 (by rw [q]; rfl)
    have hq : x_wgt 24 23 i w t σ = σ 23 w := by rw [x_wgt, if_neg (fun g => q1 g.1)]
    refine z_iconst (pc := 20) (v := (nI 0)) dX0_weightOf_20 (by decide) ?_
    refine z_istore (pc := 21) dX0_weightOf_21 (by decide) rfl rfl ?_
    exact by first | exact c_X0_wg02 hw hq | exact c_X0_wg12 hi hw q1 h13
  · have q1 : w = 0 := z_nI_inj (by omega) (by decide) h1
    refine z_aload_n (pc := 4) dX0_weightOf_4 rfl ?_
    refine z_getA (pc := 5) f_X0_46 dX0_weightOf_5 (by decide) rfl rfl ?_
    refine z_iload_n (pc := 8) dX0_weightOf_8 rfl ?_
    refine z_cV1 (pc := 9) mX4_kindOf l_X0_117 (by decide) dX0_weightOf_9 (by decide) rfl rfl (by decide) (Nat.le_of_ble_eq_true rfl) (c_X4_kindOf hi) rfl (fun r9 σ9 hr9 => ?_)
    obtain ⟨rfl, rfl⟩ := hr9
    refine z_iconst (pc := 12) (v := (nI 2)) dX0_weightOf_12 (by decide) ?_
    refine z_icmp_ne (pc := 13) (tgt := 20) dX0_weightOf_13 (by decide) (fun h13 => ?_) (fun h13 => ?_)
    · have hq : x_wgt 24 23 i w t σ9 = σ9 23 w := by rw [x_wgt, if_neg (fun g => h13 g.2.1)]
      refine z_iconst (pc := 20) (v := (nI 0)) dX0_weightOf_20 (by decide) ?_
      refine z_istore (pc := 21) dX0_weightOf_21 (by decide) rfl rfl ?_
      exact by first | exact c_X0_wg02 hw hq | exact c_X0_wg12 hi hw q1 h13
    · refine z_iconst (pc := 16) (v := (nI 1)) dX0_weightOf_16 (by decide) ?_
      refine z_goto (pc := 17) (tgt := 21) dX0_weightOf_17 (by decide) ?_
      refine z_istore (pc := 21) dX0_weightOf_21 (by decide) rfl rfl ?_
      exact by first | exact c_X0_wg02 hw hq | exact c_X0_wg12 hi hw q1 h13
set_option maxRecDepth 20000 in
theorem c_X0_lkl2 {σ : z_Sto} {s n i : Nat} {v3 : Option Value} (hs : s < 16) (hn : σ 3 3 = nI n) (h12 : n ≤ 12) (hi : i ≤ 12) : z_R layX iX0_lookAt 6 [some (.ref 24), some (.int (nI s)), some (.int (nI i)), v3] [] σ (fun r σ' => r = none ∧ σ' = x_lk 24 s (x_end s n - i) i σ) := by
  have he : x_end s n ≤ 12 := by unfold x_end; split <;> (try split) <;> omega
  generalize hf : x_end s n - i = f
  induction f using Nat.strongRecOn generalizing i σ v3
  rename_i f ih
  refine z_iload_n (pc := 6) dX0_lookAt_6 rfl ?_
  refine z_aload_n (pc := 7) dX0_lookAt_7 rfl ?_
  refine z_iload_n (pc := 8) dX0_lookAt_8 rfl ?_
  refine z_cV1 (pc := 9) mX0_endOf l_X0_106 (by decide) dX0_lookAt_9 (by decide) rfl rfl (by decide) (Nat.le_of_ble_eq_true rfl) (c_X0_endOf2 hs hn h12) rfl (fun r9 σ9 hr9 => ?_)
  obtain ⟨rfl, rfl⟩ := hr9
  refine z_icmp_ge (pc := 12) (tgt := 84) dX0_lookAt_12 (by decide) (fun h12 => ?_) (fun h12 => ?_)
  · have q12 : f = 0 := by have := (nI_leI (by omega) (by omega)).mp h12; omega
    exact z_return (pc := 84) dX0_lookAt_84 rfl (⟨rfl, by rw [q12]; rfl⟩)
  · have q12 : i < x_end s n := by have : ¬ x_end s n ≤ i := fun q => h12 ((nI_leI (by omega) (by omega)).mpr q); omega
    have hf1 : f = (x_end s n - (i + 1)) + 1 := by omega
    refine z_aload_n (pc := 15) dX0_lookAt_15 rfl ?_
    refine z_getA (pc := 16) f_X0_27 dX0_lookAt_16 (by decide) rfl rfl ?_
    refine z_iload_n (pc := 19) dX0_lookAt_19 rfl ?_
    refine z_zaldN (pc := 20) dX0_lookAt_20 (by decide) rfl (by decide) (by omega) ?_
    refine z_if_eq (pc := 21) (tgt := 37) dX0_lookAt_21 (by decide) (fun h21 => ?_) (fun h21 => ?_)
    · have hsn : x_sn 24 s i σ9 = nI 0 := by rw [x_sn, if_pos h21]
      refine z_iconst (pc := 37) (v := (nI 0)) dX0_lookAt_37 (by decide) ?_
      refine z_istore_n (pc := 38) dX0_lookAt_38 (by decide) rfl rfl ?_
      refine z_aload_n (pc := 39) dX0_lookAt_39 rfl ?_
      refine z_getA (pc := 40) f_X0_46 dX0_lookAt_40 (by decide) rfl rfl ?_
      refine z_iload_n (pc := 43) dX0_lookAt_43 rfl ?_
      refine z_cV1 (pc := 44) mX4_slotOf l_X0_62 (by decide) dX0_lookAt_44 (by decide) rfl rfl (by decide) (Nat.le_of_ble_eq_true rfl) (c_X4_slotOf (by omega)) rfl (fun r44 σ44 hr44 => ?_)
      obtain ⟨rfl, rfl⟩ := hr44
      refine z_iload_n (pc := 47) dX0_lookAt_47 rfl ?_
      refine z_icmp_ne (pc := 48) (tgt := 78) dX0_lookAt_48 (by decide) (fun h48 => ?_) (fun h48 => ?_)
      · have hq : x_l1 24 s i σ44 = σ44 := by rw [x_l1, if_neg (fun g => h48 g.1)]
        refine z_iincN (pc := 78) dX0_lookAt_78 rfl (by decide) rfl rfl ?_
        refine z_goto (pc := 81) (tgt := 6) dX0_lookAt_81 (by decide) ?_
        exact (ih _ (by omega) (i := i + 1) (by first | exact hn | (simp only [z_up_at, reduceIte, Nat.reduceEqDiff]; exact hn)) (by omega) rfl).mono (fun r σ' g => ⟨g.1, g.2.trans (by rw [hf1, x_lk, hq] <;> rfl)⟩)
      · refine z_iload_n (pc := 51) dX0_lookAt_51 rfl ?_
        refine z_aload_n (pc := 52) dX0_lookAt_52 rfl ?_
        refine z_getA (pc := 53) f_X0_30 dX0_lookAt_53 (by decide) rfl rfl ?_
        refine z_iload_n (pc := 56) dX0_lookAt_56 rfl ?_
        refine z_zaldN (pc := 57) dX0_lookAt_57 (by decide) rfl (by decide) (by omega) ?_
        refine z_icmp_eq (pc := 58) (tgt := 78) dX0_lookAt_58 (by decide) (fun h58 => ?_) (fun h58 => ?_)
        · have hq : x_l1 24 s i σ44 = σ44 := by rw [x_l1, if_neg (fun g => g.2 (hsn.trans h58))]
          refine z_iincN (pc := 78) dX0_lookAt_78 rfl (by decide) rfl rfl ?_
          refine z_goto (pc := 81) (tgt := 6) dX0_lookAt_81 (by decide) ?_
          exact (ih _ (by omega) (i := i + 1) (by first | exact hn | (simp only [z_up_at, reduceIte, Nat.reduceEqDiff]; exact hn)) (by omega) rfl).mono (fun r σ' g => ⟨g.1, g.2.trans (by rw [hf1, x_lk, hq] <;> rfl)⟩)
        · have hq : x_l1 24 s i σ44 = z_up (z_up σ44 (24 + 6) i (x_sn 24 s i σ44)) (24 + 7) i (σ44 (24 + 7) i + nI 1) := by rw [x_l1, if_pos ⟨h48, fun g => h58 (hsn.symm.trans g)⟩]
          rw [hsn] at hq
          refine z_aload_n (pc := 61) dX0_lookAt_61 rfl ?_
          refine z_getA (pc := 62) f_X0_30 dX0_lookAt_62 (by decide) rfl rfl ?_
          refine z_iload_n (pc := 65) dX0_lookAt_65 rfl ?_
          refine z_iload_n (pc := 66) dX0_lookAt_66 rfl ?_
          refine z_zastN (pc := 67) dX0_lookAt_67 (by decide) rfl (by decide) (by omega) (by first | exact Or.inl rfl | exact Or.inr rfl) ?_
          refine z_aload_n (pc := 68) dX0_lookAt_68 rfl ?_
          refine z_getA (pc := 69) f_X0_33 dX0_lookAt_69 (by decide) rfl rfl ?_
          refine z_iload_n (pc := 72) dX0_lookAt_72 rfl ?_
          refine z_dup2 (pc := 73) dX0_lookAt_73 ?_
          refine z_ialdN (pc := 74) dX0_lookAt_74 (by decide) rfl (by decide) (by omega) ?_
          refine z_iconst (pc := 75) (v := (nI 1)) dX0_lookAt_75 (by decide) ?_
          refine z_iadd (pc := 76) dX0_lookAt_76 ?_
          refine z_iastN (pc := 77) dX0_lookAt_77 (by decide) rfl (by decide) (by omega) ?_
          refine z_iincN (pc := 78) dX0_lookAt_78 rfl (by decide) rfl rfl ?_
          refine z_goto (pc := 81) (tgt := 6) dX0_lookAt_81 (by decide) ?_
          exact (ih _ (by omega) (i := i + 1) (by first | exact hn | (simp only [z_up_at, reduceIte, Nat.reduceEqDiff]; exact hn)) (by omega) rfl).mono (fun r σ' g => ⟨g.1, g.2.trans (by rw [hf1, x_lk, hq] <;> rfl)⟩)
    · refine z_aload_n (pc := 24) dX0_lookAt_24 rfl ?_
      refine z_getA (pc := 25) f_X0_23 dX0_lookAt_25 (by decide) rfl rfl ?_
      refine z_iload_n (pc := 28) dX0_lookAt_28 rfl ?_
      refine z_zaldN (pc := 29) dX0_lookAt_29 (by decide) rfl (by decide) (hs) ?_
      refine z_if_ne (pc := 30) (tgt := 37) dX0_lookAt_30 (by decide) (fun h30 => ?_) (fun h30 => ?_)
      · have hsn : x_sn 24 s i σ9 = nI 0 := by rw [x_sn, if_neg h21, if_neg h30]
        refine z_iconst (pc := 37) (v := (nI 0)) dX0_lookAt_37 (by decide) ?_
        refine z_istore_n (pc := 38) dX0_lookAt_38 (by decide) rfl rfl ?_
        refine z_aload_n (pc := 39) dX0_lookAt_39 rfl ?_
        refine z_getA (pc := 40) f_X0_46 dX0_lookAt_40 (by decide) rfl rfl ?_
        refine z_iload_n (pc := 43) dX0_lookAt_43 rfl ?_
        refine z_cV1 (pc := 44) mX4_slotOf l_X0_62 (by decide) dX0_lookAt_44 (by decide) rfl rfl (by decide) (Nat.le_of_ble_eq_true rfl) (c_X4_slotOf (by omega)) rfl (fun r44 σ44 hr44 => ?_)
        obtain ⟨rfl, rfl⟩ := hr44
        refine z_iload_n (pc := 47) dX0_lookAt_47 rfl ?_
        refine z_icmp_ne (pc := 48) (tgt := 78) dX0_lookAt_48 (by decide) (fun h48 => ?_) (fun h48 => ?_)
        · have hq : x_l1 24 s i σ44 = σ44 := by rw [x_l1, if_neg (fun g => h48 g.1)]
          refine z_iincN (pc := 78) dX0_lookAt_78 rfl (by decide) rfl rfl ?_
          refine z_goto (pc := 81) (tgt := 6) dX0_lookAt_81 (by decide) ?_
          exact (ih _ (by omega) (i := i + 1) (by first | exact hn | (simp only [z_up_at, reduceIte, Nat.reduceEqDiff]; exact hn)) (by omega) rfl).mono (fun r σ' g => ⟨g.1, g.2.trans (by rw [hf1, x_lk, hq] <;> rfl)⟩)
        · refine z_iload_n (pc := 51) dX0_lookAt_51 rfl ?_
          refine z_aload_n (pc := 52) dX0_lookAt_52 rfl ?_
          refine z_getA (pc := 53) f_X0_30 dX0_lookAt_53 (by decide) rfl rfl ?_
          refine z_iload_n (pc := 56) dX0_lookAt_56 rfl ?_
          refine z_zaldN (pc := 57) dX0_lookAt_57 (by decide) rfl (by decide) (by omega) ?_
          refine z_icmp_eq (pc := 58) (tgt := 78) dX0_lookAt_58 (by decide) (fun h58 => ?_) (fun h58 => ?_)
          · have hq : x_l1 24 s i σ44 = σ44 := by rw [x_l1, if_neg (fun g => g.2 (hsn.trans h58))]
            refine z_iincN (pc := 78) dX0_lookAt_78 rfl (by decide) rfl rfl ?_
            refine z_goto (pc := 81) (tgt := 6) dX0_lookAt_81 (by decide) ?_
            exact (ih _ (by omega) (i := i + 1) (by first | exact hn | (simp only [z_up_at, reduceIte, Nat.reduceEqDiff]; exact hn)) (by omega) rfl).mono (fun r σ' g => ⟨g.1, g.2.trans (by rw [hf1, x_lk, hq] <;> rfl)⟩)
          · have hq : x_l1 24 s i σ44 = z_up (z_up σ44 (24 + 6) i (x_sn 24 s i σ44)) (24 + 7) i (σ44 (24 + 7) i + nI 1) := by rw [x_l1, if_pos ⟨h48, fun g => h58 (hsn.symm.trans g)⟩]
            rw [hsn] at hq
            refine z_aload_n (pc := 61) dX0_lookAt_61 rfl ?_
            refine z_getA (pc := 62) f_X0_30 dX0_lookAt_62 (by decide) rfl rfl ?_
            refine z_iload_n (pc := 65) dX0_lookAt_65 rfl ?_
            refine z_iload_n (pc := 66) dX0_lookAt_66 rfl ?_
            refine z_zastN (pc := 67) dX0_lookAt_67 (by decide) rfl (by decide) (by omega) (by first | exact Or.inl rfl | exact Or.inr rfl) ?_
            refine z_aload_n (pc := 68) dX0_lookAt_68 rfl ?_
            refine z_getA (pc := 69) f_X0_33 dX0_lookAt_69 (by decide) rfl rfl ?_
            refine z_iload_n (pc := 72) dX0_lookAt_72 rfl ?_
            refine z_dup2 (pc := 73) dX0_lookAt_73 ?_
            refine z_ialdN (pc := 74) dX0_lookAt_74 (by decide) rfl (by decide) (by omega) ?_
            refine z_iconst (pc := 75) (v := (nI 1)) dX0_lookAt_75 (by decide) ?_
            refine z_iadd (pc := 76) dX0_lookAt_76 ?_
            refine z_iastN (pc := 77) dX0_lookAt_77 (by decide) rfl (by decide) (by omega) ?_
            refine z_iincN (pc := 78) dX0_lookAt_78 rfl (by decide) rfl rfl ?_
            refine z_goto (pc := 81) (tgt := 6) dX0_lookAt_81 (by decide) ?_
            exact (ih _ (by omega) (i := i + 1) (by first | exact hn | (simp only [z_up_at, reduceIte, Nat.reduceEqDiff]; exact hn)) (by omega) rfl).mono (fun r σ' g => ⟨g.1, g.2.trans (by rw [hf1, x_lk, hq] <;> rfl)⟩)
      · have hsn : x_sn 24 s i σ9 = nI 1 := by rw [x_sn, if_neg h21, if_pos h30]
        refine z_iconst (pc := 33) (v := (nI 1)) dX0_lookAt_33 (by decide) ?_
        refine z_goto (pc := 34) (tgt := 38) dX0_lookAt_34 (by decide) ?_
        refine z_istore_n (pc := 38) dX0_lookAt_38 (by decide) rfl rfl ?_
        refine z_aload_n (pc := 39) dX0_lookAt_39 rfl ?_
        refine z_getA (pc := 40) f_X0_46 dX0_lookAt_40 (by decide) rfl rfl ?_
        refine z_iload_n (pc := 43) dX0_lookAt_43 rfl ?_
        refine z_cV1 (pc := 44) mX4_slotOf l_X0_62 (by decide) dX0_lookAt_44 (by decide) rfl rfl (by decide) (Nat.le_of_ble_eq_true rfl) (c_X4_slotOf (by omega)) rfl (fun r44 σ44 hr44 => ?_)
        obtain ⟨rfl, rfl⟩ := hr44
        refine z_iload_n (pc := 47) dX0_lookAt_47 rfl ?_
        refine z_icmp_ne (pc := 48) (tgt := 78) dX0_lookAt_48 (by decide) (fun h48 => ?_) (fun h48 => ?_)
        · have hq : x_l1 24 s i σ44 = σ44 := by rw [x_l1, if_neg (fun g => h48 g.1)]
          refine z_iincN (pc := 78) dX0_lookAt_78 rfl (by decide) rfl rfl ?_
          refine z_goto (pc := 81) (tgt := 6) dX0_lookAt_81 (by decide) ?_
          exact (ih _ (by omega) (i := i + 1) (by first | exact hn | (simp only [z_up_at, reduceIte, Nat.reduceEqDiff]; exact hn)) (by omega) rfl).mono (fun r σ' g => ⟨g.1, g.2.trans (by rw [hf1, x_lk, hq] <;> rfl)⟩)
        · refine z_iload_n (pc := 51) dX0_lookAt_51 rfl ?_
          refine z_aload_n (pc := 52) dX0_lookAt_52 rfl ?_
          refine z_getA (pc := 53) f_X0_30 dX0_lookAt_53 (by decide) rfl rfl ?_
          refine z_iload_n (pc := 56) dX0_lookAt_56 rfl ?_
          refine z_zaldN (pc := 57) dX0_lookAt_57 (by decide) rfl (by decide) (by omega) ?_
          refine z_icmp_eq (pc := 58) (tgt := 78) dX0_lookAt_58 (by decide) (fun h58 => ?_) (fun h58 => ?_)
          · have hq : x_l1 24 s i σ44 = σ44 := by rw [x_l1, if_neg (fun g => g.2 (hsn.trans h58))]
            refine z_iincN (pc := 78) dX0_lookAt_78 rfl (by decide) rfl rfl ?_
            refine z_goto (pc := 81) (tgt := 6) dX0_lookAt_81 (by decide) ?_
            exact (ih _ (by omega) (i := i + 1) (by first | exact hn | (simp only [z_up_at, reduceIte, Nat.reduceEqDiff]; exact hn)) (by omega) rfl).mono (fun r σ' g => ⟨g.1, g.2.trans (by rw [hf1, x_lk, hq] <;> rfl)⟩)
          · have hq : x_l1 24 s i σ44 = z_up (z_up σ44 (24 + 6) i (x_sn 24 s i σ44)) (24 + 7) i (σ44 (24 + 7) i + nI 1) := by rw [x_l1, if_pos ⟨h48, fun g => h58 (hsn.symm.trans g)⟩]
            rw [hsn] at hq
            refine z_aload_n (pc := 61) dX0_lookAt_61 rfl ?_
            refine z_getA (pc := 62) f_X0_30 dX0_lookAt_62 (by decide) rfl rfl ?_
            refine z_iload_n (pc := 65) dX0_lookAt_65 rfl ?_
            refine z_iload_n (pc := 66) dX0_lookAt_66 rfl ?_
            refine z_zastN (pc := 67) dX0_lookAt_67 (by decide) rfl (by decide) (by omega) (by first | exact Or.inl rfl | exact Or.inr rfl) ?_
            refine z_aload_n (pc := 68) dX0_lookAt_68 rfl ?_
            refine z_getA (pc := 69) f_X0_33 dX0_lookAt_69 (by decide) rfl rfl ?_
            refine z_iload_n (pc := 72) dX0_lookAt_72 rfl ?_
            refine z_dup2 (pc := 73) dX0_lookAt_73 ?_
            refine z_ialdN (pc := 74) dX0_lookAt_74 (by decide) rfl (by decide) (by omega) ?_
            refine z_iconst (pc := 75) (v := (nI 1)) dX0_lookAt_75 (by decide) ?_
            refine z_iadd (pc := 76) dX0_lookAt_76 ?_
            refine z_iastN (pc := 77) dX0_lookAt_77 (by decide) rfl (by decide) (by omega) ?_
            refine z_iincN (pc := 78) dX0_lookAt_78 rfl (by decide) rfl rfl ?_
            refine z_goto (pc := 81) (tgt := 6) dX0_lookAt_81 (by decide) ?_
            exact (ih _ (by omega) (i := i + 1) (by first | exact hn | (simp only [z_up_at, reduceIte, Nat.reduceEqDiff]; exact hn)) (by omega) rfl).mono (fun r σ' g => ⟨g.1, g.2.trans (by rw [hf1, x_lk, hq] <;> rfl)⟩)
set_option maxRecDepth 20000 in
theorem c_X0_lookAt2 {σ : z_Sto} {s n : Nat} (hs : s < 16) (hn : σ 3 3 = nI n) (h12 : n ≤ 12) : z_R layX iX0_lookAt 0 [some (.ref 24), some (.int (nI s)), none, none] [] σ (fun r σ' => r = none ∧ σ' = x_look 24 s n σ) := by
  refine z_aload_n (pc := 0) dX0_lookAt_0 rfl ?_
  refine z_iload_n (pc := 1) dX0_lookAt_1 rfl ?_
  refine z_cV1 (pc := 2) mX0_firstOf l_X0_103 (by decide) dX0_lookAt_2 (by decide) rfl rfl (by decide) (Nat.le_of_ble_eq_true rfl) (c_X0_firstOf2 hs) rfl (fun r2 σ2 hr2 => ?_)
  obtain ⟨rfl, rfl⟩ := hr2
  refine z_istore_n (pc := 5) dX0_lookAt_5 (by decide) rfl rfl ?_
  exact c_X0_lkl2 hs hn h12 (by unfold x_fst; split <;> omega)
end
section
/-! the board at cell 11: settling, taking, restarting -/
set_option maxRecDepth 20000 in
theorem c_X0_sll {σ : z_Sto} {s n i : Nat} {to fr op k : Int32} (hs : s < 16) (hn : σ 3 3 = nI n) (h12 : n ≤ 12) (hi : i ≤ 12) : z_R layX iX0_settle 73 [some (.ref 11), some (.int (nI s)), some (.int to), some (.int fr), some (.int op), some (.int k), some (.int (nI i))] [] σ (fun r σ' => r = none ∧ σ' = x_look 11 s n (x_lo 11 s k (x_end s n - i) i σ)) := by
  have he : x_end s n ≤ 12 := by unfold x_end; split <;> (try split) <;> omega
  generalize hf : x_end s n - i = f
  induction f using Nat.strongRecOn generalizing i σ
  rename_i f ih
  refine z_iload (pc := 73) dX0_settle_73 rfl ?_
  refine z_aload_n (pc := 75) dX0_settle_75 rfl ?_
  refine z_iload_n (pc := 76) dX0_settle_76 rfl ?_
  refine z_cV1 (pc := 77) mX0_endOf l_X0_106 (by decide) dX0_settle_77 (by decide) rfl rfl (by decide) (Nat.le_of_ble_eq_true rfl) (c_X0_endOf hs hn h12) rfl (fun r77 σ77 hr77 => ?_)
  obtain ⟨rfl, rfl⟩ := hr77
  refine z_icmp_ge (pc := 80) (tgt := 124) dX0_settle_80 (by decide) (fun h80 => ?_) (fun h80 => ?_)
  · have q80 : f = 0 := by have := (nI_leI (by omega) (by omega)).mp h80; omega
    refine z_aload_n (pc := 124) dX0_settle_124 rfl ?_
    refine z_iload_n (pc := 125) dX0_settle_125 rfl ?_
    refine z_cV1 (pc := 126) mX0_lookAt l_X0_109 (by decide) dX0_settle_126 (by decide) rfl rfl (by decide) (Nat.le_of_ble_eq_true rfl) (c_X0_lookAt hs hn h12) rfl (fun r126 σ126 hr126 => ?_)
    obtain ⟨rfl, rfl⟩ := hr126
    exact z_return (pc := 129) dX0_settle_129 rfl (⟨rfl, by rw [q80]; rfl⟩)
  · have q80 : i < x_end s n := by have : ¬ x_end s n ≤ i := fun q => h80 ((nI_leI (by omega) (by omega)).mpr q); omega
    have hf1 : f = (x_end s n - (i + 1)) + 1 := by omega
    refine z_aload_n (pc := 83) dX0_settle_83 rfl ?_
    refine z_getA (pc := 84) f_X0_27 dX0_settle_84 (by decide) rfl rfl ?_
    refine z_iload (pc := 87) dX0_settle_87 rfl ?_
    refine z_zaldN (pc := 89) dX0_settle_89 (by decide) rfl (by decide) (by omega) ?_
    refine z_if_eq (pc := 90) (tgt := 118) dX0_settle_90 (by decide) (fun h90 => ?_) (fun h90 => ?_)
    · have hq : x_o1 11 s i k σ77 = σ77 := by rw [x_o1, if_neg (fun g => g.1 h90)]
      refine z_iincN (pc := 118) dX0_settle_118 rfl (by decide) rfl rfl ?_
      refine z_goto (pc := 121) (tgt := 73) dX0_settle_121 (by decide) ?_
      exact (ih _ (by omega) (i := i + 1) (by first | exact hn | (simp only [z_up_at, reduceIte, Nat.reduceEqDiff]; exact hn)) (by omega) rfl).mono (fun r σ' g => ⟨g.1, g.2.trans (by rw [hf1, x_lo, hq] <;> rfl)⟩)
    · refine z_aload_n (pc := 93) dX0_settle_93 rfl ?_
      refine z_getA (pc := 94) f_X0_46 dX0_settle_94 (by decide) rfl rfl ?_
      refine z_iload (pc := 97) dX0_settle_97 rfl ?_
      refine z_cV1 (pc := 99) mX4_slotOf l_X0_62 (by decide) dX0_settle_99 (by decide) rfl rfl (by decide) (Nat.le_of_ble_eq_true rfl) (c_X4_slotOf (by omega)) rfl (fun r99 σ99 hr99 => ?_)
      obtain ⟨rfl, rfl⟩ := hr99
      refine z_iload_n (pc := 102) dX0_settle_102 rfl ?_
      refine z_icmp_ne (pc := 103) (tgt := 118) dX0_settle_103 (by decide) (fun h103 => ?_) (fun h103 => ?_)
      · have hq : x_o1 11 s i k σ99 = σ99 := by rw [x_o1, if_neg (fun g => h103 g.2)]
        refine z_iincN (pc := 118) dX0_settle_118 rfl (by decide) rfl rfl ?_
        refine z_goto (pc := 121) (tgt := 73) dX0_settle_121 (by decide) ?_
        exact (ih _ (by omega) (i := i + 1) (by first | exact hn | (simp only [z_up_at, reduceIte, Nat.reduceEqDiff]; exact hn)) (by omega) rfl).mono (fun r σ' g => ⟨g.1, g.2.trans (by rw [hf1, x_lo, hq] <;> rfl)⟩)
      · have hq : x_o1 11 s i k σ99 = z_up σ99 (11 + 8) i (σ99 (11 + 8) i + k) := by rw [x_o1, if_pos ⟨h90, h103⟩]
        refine z_aload_n (pc := 106) dX0_settle_106 rfl ?_
        refine z_getA (pc := 107) f_X0_36 dX0_settle_107 (by decide) rfl rfl ?_
        refine z_iload (pc := 110) dX0_settle_110 rfl ?_
        refine z_dup2 (pc := 112) dX0_settle_112 ?_
        refine z_ialdN (pc := 113) dX0_settle_113 (by decide) rfl (by decide) (by omega) ?_
        refine z_iload (pc := 114) dX0_settle_114 rfl ?_
        refine z_iadd (pc := 116) dX0_settle_116 ?_
        refine z_iastN (pc := 117) dX0_settle_117 (by decide) rfl (by decide) (by omega) ?_
        refine z_iincN (pc := 118) dX0_settle_118 rfl (by decide) rfl rfl ?_
        refine z_goto (pc := 121) (tgt := 73) dX0_settle_121 (by decide) ?_
        exact (ih _ (by omega) (i := i + 1) (by first | exact hn | (simp only [z_up_at, reduceIte, Nat.reduceEqDiff]; exact hn)) (by omega) rfl).mono (fun r σ' g => ⟨g.1, g.2.trans (by rw [hf1, x_lo, hq] <;> rfl)⟩)
set_option maxRecDepth 20000 in
theorem c_X0_settle {σ : z_Sto} {s n : Nat} {to : Int32} (hs : s < 16) (hn : σ 3 3 = nI n) (h12 : n ≤ 12) : z_R layX iX0_settle 0 [some (.ref 11), some (.int (nI s)), some (.int to), none, none, none, none] [] σ (fun r σ' => r = none ∧ σ' = x_set 11 2 s n to σ) := by
  refine z_aload_n (pc := 0) dX0_settle_0 rfl ?_
  refine z_getA (pc := 1) f_X0_20 dX0_settle_1 (by decide) rfl rfl ?_
  refine z_iload_n (pc := 4) dX0_settle_4 rfl ?_
  refine z_ialdN (pc := 5) dX0_settle_5 (by decide) rfl (by decide) (hs) ?_
  refine z_istore_n (pc := 6) dX0_settle_6 (by decide) rfl rfl ?_
  refine z_aload_n (pc := 7) dX0_settle_7 rfl ?_
  refine z_getA (pc := 8) f_X0_20 dX0_settle_8 (by decide) rfl rfl ?_
  refine z_iload_n (pc := 11) dX0_settle_11 rfl ?_
  refine z_iload_n (pc := 12) dX0_settle_12 rfl ?_
  refine z_iastN (pc := 13) dX0_settle_13 (by decide) rfl (by decide) (hs) ?_
  refine z_aload_n (pc := 14) dX0_settle_14 rfl ?_
  refine z_getA (pc := 15) f_X0_23 dX0_settle_15 (by decide) rfl rfl ?_
  refine z_iload_n (pc := 18) dX0_settle_18 rfl ?_
  refine z_zaldN (pc := 19) dX0_settle_19 (by decide) rfl (by decide) (hs) ?_
  simp only [z_up_at, reduceIte, Nat.reduceEqDiff]
  refine z_if_eq (pc := 20) (tgt := 28) dX0_settle_20 (by decide) (fun h20 => ?_) (fun h20 => ?_)
  · exact z_return (pc := 28) dX0_settle_28 rfl (⟨rfl, by first | rw [x_set, if_pos (Or.inl h20)] | rw [x_set, if_pos (Or.inr h25)]⟩)
  · refine z_iload_n (pc := 23) dX0_settle_23 rfl ?_
    refine z_iload_n (pc := 24) dX0_settle_24 rfl ?_
    refine z_icmp_gt (pc := 25) (tgt := 29) dX0_settle_25 (by decide) (fun h25 => ?_) (fun h25 => ?_)
    · refine z_aload_n (pc := 29) dX0_settle_29 rfl ?_
      refine z_iload_n (pc := 30) dX0_settle_30 rfl ?_
      refine z_iload_n (pc := 31) dX0_settle_31 rfl ?_
      refine z_cV2 (pc := 32) mX0_openingTick l_X0_82 (by decide) dX0_settle_32 (by decide) rfl rfl (by decide) (Nat.le_of_ble_eq_true rfl) (c_X0_openingTick hs) rfl (fun r32 σ32 hr32 => ?_)
      obtain ⟨rfl, rfl⟩ := hr32
      refine z_istore (pc := 35) dX0_settle_35 (by decide) rfl rfl ?_
      refine z_aload_n (pc := 37) dX0_settle_37 rfl ?_
      refine z_getA (pc := 38) f_X0_23 dX0_settle_38 (by decide) rfl rfl ?_
      refine z_iload_n (pc := 41) dX0_settle_41 rfl ?_
      refine z_iload (pc := 42) dX0_settle_42 rfl ?_
      refine z_iload_n (pc := 44) dX0_settle_44 rfl ?_
      refine z_icmp_le (pc := 45) (tgt := 52) dX0_settle_45 (by decide) (fun h45 => ?_) (fun h45 => ?_)
      · refine z_iconst (pc := 52) (v := (nI 0)) dX0_settle_52 (by decide) ?_
        refine z_zastN (pc := 53) dX0_settle_53 (by decide) rfl (by decide) (hs) (by first | exact Or.inl rfl | exact Or.inr rfl) ?_
        refine z_iload_n (pc := 54) dX0_settle_54 rfl ?_
        refine z_iload (pc := 55) dX0_settle_55 rfl ?_
        refine z_iconst (pc := 57) (v := (nI 1)) dX0_settle_57 (by decide) ?_
        refine z_isub (pc := 58) dX0_settle_58 ?_
        refine z_min (pc := 59) l_X0_100 (by decide) (Nat.le_of_ble_eq_true rfl) dX0_settle_59 ?_
        refine z_iload_n (pc := 62) dX0_settle_62 rfl ?_
        refine z_isub (pc := 63) dX0_settle_63 ?_
        refine z_istore (pc := 64) dX0_settle_64 (by decide) rfl rfl ?_
        refine z_aload_n (pc := 66) dX0_settle_66 rfl ?_
        refine z_iload_n (pc := 67) dX0_settle_67 rfl ?_
        refine z_cV1 (pc := 68) mX0_firstOf l_X0_103 (by decide) dX0_settle_68 (by decide) rfl rfl (by decide) (Nat.le_of_ble_eq_true rfl) (c_X0_firstOf hs) rfl (fun r68 σ68 hr68 => ?_)
        obtain ⟨rfl, rfl⟩ := hr68
        refine z_istore (pc := 71) dX0_settle_71 (by decide) rfl rfl ?_
        exact (c_X0_sll hs (by simp only [z_up_at, reduceIte, Nat.reduceEqDiff]; exact hn) h12 (by unfold x_fst; split <;> omega)).mono (fun r σ' g => ⟨g.1, g.2.trans (by first | exact (x_set_go (b := 11) (v := 2) h20 h25 _ (if_pos h45)).symm | exact (x_set_go (b := 11) (v := 2) h20 h25 _ (if_neg h45)).symm)⟩)
      · refine z_iconst (pc := 48) (v := (nI 1)) dX0_settle_48 (by decide) ?_
        refine z_goto (pc := 49) (tgt := 53) dX0_settle_49 (by decide) ?_
        refine z_zastN (pc := 53) dX0_settle_53 (by decide) rfl (by decide) (hs) (by first | exact Or.inl rfl | exact Or.inr rfl) ?_
        refine z_iload_n (pc := 54) dX0_settle_54 rfl ?_
        refine z_iload (pc := 55) dX0_settle_55 rfl ?_
        refine z_iconst (pc := 57) (v := (nI 1)) dX0_settle_57 (by decide) ?_
        refine z_isub (pc := 58) dX0_settle_58 ?_
        refine z_min (pc := 59) l_X0_100 (by decide) (Nat.le_of_ble_eq_true rfl) dX0_settle_59 ?_
        refine z_iload_n (pc := 62) dX0_settle_62 rfl ?_
        refine z_isub (pc := 63) dX0_settle_63 ?_
        refine z_istore (pc := 64) dX0_settle_64 (by decide) rfl rfl ?_
        refine z_aload_n (pc := 66) dX0_settle_66 rfl ?_
        refine z_iload_n (pc := 67) dX0_settle_67 rfl ?_
        refine z_cV1 (pc := 68) mX0_firstOf l_X0_103 (by decide) dX0_settle_68 (by decide) rfl rfl (by decide) (Nat.le_of_ble_eq_true rfl) (c_X0_firstOf hs) rfl (fun r68 σ68 hr68 => ?_)
        obtain ⟨rfl, rfl⟩ := hr68
        refine z_istore (pc := 71) dX0_settle_71 (by decide) rfl rfl ?_
        exact (c_X0_sll hs (by simp only [z_up_at, reduceIte, Nat.reduceEqDiff]; exact hn) h12 (by unfold x_fst; split <;> omega)).mono (fun r σ' g => ⟨g.1, g.2.trans (by first | exact (x_set_go (b := 11) (v := 2) h20 h25 _ (if_pos h45)).symm | exact (x_set_go (b := 11) (v := 2) h20 h25 _ (if_neg h45)).symm)⟩)
    · exact z_return (pc := 28) dX0_settle_28 rfl (⟨rfl, by first | rw [x_set, if_pos (Or.inl h20)] | rw [x_set, if_pos (Or.inr h25)]⟩)
set_option maxRecDepth 20000 in
theorem c_X0_sal {σ : z_Sto} {s n : Nat} {to : Int32} (hs : s ≤ 16) (hn : σ 3 3 = nI n) (h12 : n ≤ 12) : z_R layX iX0_settleAll 2 [some (.ref 11), some (.int to), some (.int (nI s))] [] σ (fun r σ' => r = none ∧ σ' = x_sa 11 2 n to (16 - s) s σ) := by
  generalize hf : 16 - s = f
  induction f using Nat.strongRecOn generalizing s σ
  rename_i f ih
  refine z_iload_n (pc := 2) dX0_settleAll_2 rfl ?_
  refine z_bipush (pc := 3) (v := (nI 16)) dX0_settleAll_3 (by decide) ?_
  refine z_icmp_ge (pc := 5) (tgt := 20) dX0_settleAll_5 (by decide) (fun h5 => ?_) (fun h5 => ?_)
  · have q5 : f = 0 := by have := (nI_leI (by decide) (by omega)).mp h5; omega
    exact z_return (pc := 20) dX0_settleAll_20 rfl (⟨rfl, by rw [q5]; rfl⟩)
  · have q5 : s < 16 := by have : ¬ 16 ≤ s := fun q => h5 ((nI_leI (by decide) (by omega)).mpr q); omega
    have hf1 : f = (16 - (s + 1)) + 1 := by omega
    refine z_aload_n (pc := 8) dX0_settleAll_8 rfl ?_
    refine z_iload_n (pc := 9) dX0_settleAll_9 rfl ?_
    refine z_iload_n (pc := 10) dX0_settleAll_10 rfl ?_
    refine z_cV2 (pc := 11) mX0_settle l_X0_96 (by decide) dX0_settleAll_11 (by decide) rfl rfl (by decide) (Nat.le_of_ble_eq_true rfl) (c_X0_settle q5 hn h12) rfl (fun r11 σ11 hr11 => ?_)
    obtain ⟨rfl, rfl⟩ := hr11
    refine z_iincN (pc := 14) dX0_settleAll_14 rfl (by decide) rfl rfl ?_
    refine z_goto (pc := 17) (tgt := 2) dX0_settleAll_17 (by decide) ?_
    exact (ih _ (by omega) (s := s + 1) (by omega) (by rw [x_set_fr (by decide)]; exact hn) rfl).mono (fun r σ' g => ⟨g.1, g.2.trans (by rw [hf1, x_sa])⟩)
set_option maxRecDepth 20000 in
theorem c_X0_settleAll {σ : z_Sto} {n : Nat} {to : Int32} (hn : σ 3 3 = nI n) (h12 : n ≤ 12) : z_R layX iX0_settleAll 0 [some (.ref 11), some (.int to), none] [] σ (fun r σ' => r = none ∧ σ' = x_sa 11 2 n to 16 0 σ) := by
  refine z_iconst (pc := 0) (v := (nI 0)) dX0_settleAll_0 (by decide) ?_
  refine z_istore_n (pc := 1) dX0_settleAll_1 (by decide) rfl rfl ?_
  exact c_X0_sal (s := 0) (by decide) hn h12
set_option maxRecDepth 20000 in
theorem c_X0_tk3 {σ : z_Sto} {s n i w : Nat} {t u : Int32} (hs : s < 16) (hn : σ 3 3 = nI n) (h12 : n ≤ 12) : z_R layX iX0_take 91 [some (.ref 11), some (.int (nI i)), some (.int (nI w)), some (.int t), some (.int (nI s)), some (.int u)] [] σ (fun r σ' => r = none ∧ σ' = x_look 11 s n (x_t3 11 2 s σ)) := by
  refine z_aload_n (pc := 91) dX0_take_91 rfl ?_
  refine z_getA (pc := 92) f_X0_11 dX0_take_92 (by decide) rfl rfl ?_
  refine z_iload (pc := 95) dX0_take_95 rfl ?_
  refine z_ialdN (pc := 97) dX0_take_97 (by decide) rfl (by decide) (hs) ?_
  refine z_aload_n (pc := 98) dX0_take_98 rfl ?_
  refine z_getA (pc := 99) f_X0_42 dX0_take_99 (by decide) rfl rfl ?_
  refine z_iconst (pc := 102) (v := (nI 4)) dX0_take_102 (by decide) ?_
  refine z_cV1 (pc := 103) mX5_get l_X0_85 (by decide) dX0_take_103 (by decide) rfl rfl (by decide) (Nat.le_of_ble_eq_true rfl) (c_X5_get (by decide)) rfl (fun r103 σ103 hr103 => ?_)
  obtain ⟨rfl, rfl⟩ := hr103
  refine z_icmp_le (pc := 106) (tgt := 122) dX0_take_106 (by decide) (fun h106 => ?_) (fun h106 => ?_)
  · refine z_aload_n (pc := 122) dX0_take_122 rfl ?_
    refine z_iload (pc := 123) dX0_take_123 rfl ?_
    refine z_cV1 (pc := 125) mX0_lookAt l_X0_109 (by decide) dX0_take_125 (by decide) rfl rfl (by decide) (Nat.le_of_ble_eq_true rfl) (c_X0_lookAt hs (by first | exact hn | (simp only [z_up_at, reduceIte, Nat.reduceEqDiff]; exact hn)) h12) rfl (fun r125 σ125 hr125 => ?_)
    obtain ⟨rfl, rfl⟩ := hr125
    exact z_return (pc := 128) dX0_take_128 rfl (⟨rfl, by first | rw [x_t3, if_pos h106] | (rw [x_t3, if_neg h106] <;> rfl)⟩)
  · refine z_aload_n (pc := 109) dX0_take_109 rfl ?_
    refine z_getA (pc := 110) f_X0_23 dX0_take_110 (by decide) rfl rfl ?_
    refine z_iload (pc := 113) dX0_take_113 rfl ?_
    refine z_iconst (pc := 115) (v := (nI 1)) dX0_take_115 (by decide) ?_
    refine z_zastN (pc := 116) dX0_take_116 (by decide) rfl (by decide) (hs) (Or.inr rfl) ?_
    refine z_aload_n (pc := 117) dX0_take_117 rfl ?_
    refine z_iconst (pc := 118) (v := (nI 1)) dX0_take_118 (by decide) ?_
    refine z_putI (pc := 119) f_X0_53 tyX0_ok nmX0 (by decide) rfl (by decide) (by decide) dX0_take_119 (by decide) rfl rfl ?_
    refine z_aload_n (pc := 122) dX0_take_122 rfl ?_
    refine z_iload (pc := 123) dX0_take_123 rfl ?_
    refine z_cV1 (pc := 125) mX0_lookAt l_X0_109 (by decide) dX0_take_125 (by decide) rfl rfl (by decide) (Nat.le_of_ble_eq_true rfl) (c_X0_lookAt hs (by first | exact hn | (simp only [z_up_at, reduceIte, Nat.reduceEqDiff]; exact hn)) h12) rfl (fun r125 σ125 hr125 => ?_)
    obtain ⟨rfl, rfl⟩ := hr125
    exact z_return (pc := 128) dX0_take_128 rfl (⟨rfl, by first | rw [x_t3, if_pos h106] | (rw [x_t3, if_neg h106] <;> rfl)⟩)
set_option maxRecDepth 20000 in
theorem c_X0_take {σ : z_Sto} {s n i w h : Nat} {t : Int32} (hi : i < 12) (hsl : σ 5 i = nI s) (hs : s < 16) (hn : σ 3 3 = nI n) (h12 : n ≤ 12) (hw : w < 3) (hh : σ 2 3 = nI h) (h1 : 1 ≤ h) (h2 : h ≤ 500) : z_R layX iX0_take 0 [some (.ref 11), some (.int (nI i)), some (.int (nI w)), some (.int t), none, none] [] σ (fun r σ' => r = none ∧ σ' = x_take 11 2 s i w n t σ) := by
  refine z_aload_n (pc := 0) dX0_take_0 rfl ?_
  refine z_getA (pc := 1) f_X0_46 dX0_take_1 (by decide) rfl rfl ?_
  refine z_iload_n (pc := 4) dX0_take_4 rfl ?_
  refine z_cV1 (pc := 5) mX4_slotOf l_X0_62 (by decide) dX0_take_5 (by decide) rfl rfl (by decide) (Nat.le_of_ble_eq_true rfl) (c_X4_slotOf hi) rfl (fun r5 σ5 hr5 => ?_)
  obtain ⟨rfl, rfl⟩ := hr5
  rw [hsl]
  refine z_istore (pc := 8) dX0_take_8 (by decide) rfl rfl ?_
  refine z_aload_n (pc := 10) dX0_take_10 rfl ?_
  refine z_iload (pc := 11) dX0_take_11 rfl ?_
  refine z_iload_n (pc := 13) dX0_take_13 rfl ?_
  refine z_cV2 (pc := 14) mX0_settle l_X0_96 (by decide) dX0_take_14 (by decide) rfl rfl (by decide) (Nat.le_of_ble_eq_true rfl) (c_X0_settle hs hn h12) rfl (fun r14 σ14 hr14 => ?_)
  obtain ⟨rfl, hσ⟩ := hr14
  have hh' : σ14 2 3 = nI h := by rw [hσ, x_set_fr (by decide)]; exact hh
  have hn' : σ14 3 3 = nI n := by rw [hσ, x_set_fr (by decide)]; exact hn
  refine z_aload_n (pc := 17) dX0_take_17 rfl ?_
  refine z_iload (pc := 18) dX0_take_18 rfl ?_
  refine z_iload_n (pc := 20) dX0_take_20 rfl ?_
  refine z_cV2 (pc := 21) mX0_penaltyAt l_X0_73 (by decide) dX0_take_21 (by decide) rfl rfl (by decide) (Nat.le_of_ble_eq_true rfl) (c_X0_penaltyAt hs hh' h1 h2) rfl (fun r21 σ21 hr21 => ?_)
  obtain ⟨rfl, rfl⟩ := hr21
  refine z_aload_n (pc := 24) dX0_take_24 rfl ?_
  refine z_iload_n (pc := 25) dX0_take_25 rfl ?_
  refine z_iload_n (pc := 26) dX0_take_26 rfl ?_
  refine z_iload_n (pc := 27) dX0_take_27 rfl ?_
  refine z_cV3 (pc := 28) mX0_weightOf l_X0_113 (by decide) dX0_take_28 (by decide) rfl rfl (by decide) (Nat.le_of_ble_eq_true rfl) (c_X0_weightOf hi hw) rfl (fun r28 σ28 hr28 => ?_)
  obtain ⟨rfl, rfl⟩ := hr28
  refine z_iadd (pc := 31) dX0_take_31 ?_
  refine z_istore (pc := 32) dX0_take_32 (by decide) rfl rfl ?_
  refine z_aload_n (pc := 34) dX0_take_34 rfl ?_
  refine z_getA (pc := 35) f_X0_11 dX0_take_35 (by decide) rfl rfl ?_
  refine z_iload (pc := 38) dX0_take_38 rfl ?_
  refine z_aload_n (pc := 40) dX0_take_40 rfl ?_
  refine z_getA (pc := 41) f_X0_42 dX0_take_41 (by decide) rfl rfl ?_
  refine z_bipush (pc := 44) (v := (nI 6)) dX0_take_44 (by decide) ?_
  refine z_cV1 (pc := 46) mX5_get l_X0_85 (by decide) dX0_take_46 (by decide) rfl rfl (by decide) (Nat.le_of_ble_eq_true rfl) (c_X5_get (by decide)) rfl (fun r46 σ46 hr46 => ?_)
  obtain ⟨rfl, rfl⟩ := hr46
  refine z_iload (pc := 49) dX0_take_49 rfl ?_
  refine z_min (pc := 51) l_X0_100 (by decide) (Nat.le_of_ble_eq_true rfl) dX0_take_51 ?_
  refine z_iastN (pc := 54) dX0_take_54 (by decide) rfl (by decide) (hs) ?_
  refine z_aload_n (pc := 55) dX0_take_55 rfl ?_
  refine z_getA (pc := 56) f_X0_17 dX0_take_56 (by decide) rfl rfl ?_
  refine z_iload (pc := 59) dX0_take_59 rfl ?_
  refine z_iload_n (pc := 61) dX0_take_61 rfl ?_
  refine z_iastN (pc := 62) dX0_take_62 (by decide) rfl (by decide) (hs) ?_
  refine z_aload_n (pc := 63) dX0_take_63 rfl ?_
  refine z_getA (pc := 64) f_X0_39 dX0_take_64 (by decide) rfl rfl ?_
  refine z_iload_n (pc := 67) dX0_take_67 rfl ?_
  refine z_iload_n (pc := 68) dX0_take_68 rfl ?_
  refine z_iastN (pc := 69) dX0_take_69 (by decide) rfl (by decide) (hi) ?_
  refine z_iload_n (pc := 70) dX0_take_70 rfl ?_
  refine z_iconst (pc := 71) (v := (nI 2)) dX0_take_71 (by decide) ?_
  refine z_icmp_eq (pc := 72) (tgt := 91) dX0_take_72 (by decide) (fun h72 => ?_) (fun h72 => ?_)
  · have q72 : w = 2 := z_nI_inj (by omega) (by decide) h72
    exact (c_X0_tk3 hs (by simp only [z_up_at, reduceIte, Nat.reduceEqDiff]; exact hn') h12).mono (fun r σ' g => ⟨g.1, g.2.trans (by rw [x_take, ← hσ, x_t2]; first | (rw [if_pos q72]; rfl) | (rw [if_neg q72, if_pos q82]; rfl) | (rw [if_neg q72, if_neg q82]; rfl))⟩)
  · have q72 : ¬ w = 2 := fun q => h72 (by rw [q])
    refine z_aload_n (pc := 75) dX0_take_75 rfl ?_
    refine z_getA (pc := 76) f_X0_27 dX0_take_76 (by decide) rfl rfl ?_
    refine z_iload_n (pc := 79) dX0_take_79 rfl ?_
    refine z_iload_n (pc := 80) dX0_take_80 rfl ?_
    refine z_iconst (pc := 81) (v := (nI 1)) dX0_take_81 (by decide) ?_
    refine z_icmp_ne (pc := 82) (tgt := 89) dX0_take_82 (by decide) (fun h82 => ?_) (fun h82 => ?_)
    · have q82 : ¬ w = 1 := fun q => h82 (by rw [q])
      refine z_iconst (pc := 89) (v := (nI 0)) dX0_take_89 (by decide) ?_
      refine z_zastN (pc := 90) dX0_take_90 (by decide) rfl (by decide) (hi) (by first | exact Or.inl rfl | exact Or.inr rfl) ?_
      exact (c_X0_tk3 hs (by simp only [z_up_at, reduceIte, Nat.reduceEqDiff]; exact hn') h12).mono (fun r σ' g => ⟨g.1, g.2.trans (by rw [x_take, ← hσ, x_t2]; first | (rw [if_pos q72]; rfl) | (rw [if_neg q72, if_pos q82]; rfl) | (rw [if_neg q72, if_neg q82]; rfl))⟩)
    · have q82 : w = 1 := z_nI_inj (by omega) (by decide) h82
      refine z_iconst (pc := 85) (v := (nI 1)) dX0_take_85 (by decide) ?_
      refine z_goto (pc := 86) (tgt := 90) dX0_take_86 (by decide) ?_
      refine z_zastN (pc := 90) dX0_take_90 (by decide) rfl (by decide) (hi) (by first | exact Or.inl rfl | exact Or.inr rfl) ?_
      exact (c_X0_tk3 hs (by simp only [z_up_at, reduceIte, Nat.reduceEqDiff]; exact hn') h12).mono (fun r σ' g => ⟨g.1, g.2.trans (by rw [x_take, ← hσ, x_t2]; first | (rw [if_pos q72]; rfl) | (rw [if_neg q72, if_pos q82]; rfl) | (rw [if_neg q72, if_neg q82]; rfl))⟩)
set_option maxRecDepth 20000 in
theorem c_X0_rs2 {σ : z_Sto} {i : Nat} (hi : i ≤ 12) : z_R layX iX0_restart 49 [some (.ref 11), some (.int (nI i))] [] σ (fun r σ' => r = none ∧ σ' = x_rb 11 (12 - i) i σ) := by
  generalize hf : 12 - i = f
  induction f using Nat.strongRecOn generalizing i σ
  rename_i f ih
  refine z_iload_n (pc := 49) dX0_restart_49 rfl ?_
  refine z_bipush (pc := 50) (v := (nI 12)) dX0_restart_50 (by decide) ?_
  refine z_icmp_ge (pc := 52) (tgt := 97) dX0_restart_52 (by decide) (fun h52 => ?_) (fun h52 => ?_)
  · have q52 : f = 0 := by have := (nI_leI (by decide) (by omega)).mp h52; omega
    exact z_return (pc := 97) dX0_restart_97 rfl (⟨rfl, by rw [q52]; rfl⟩)
  · have q52 : i < 12 := by have : ¬ 12 ≤ i := fun q => h52 ((nI_leI (by decide) (by omega)).mpr q); omega
    have hf1 : f = (12 - (i + 1)) + 1 := by omega
    refine z_aload_n (pc := 55) dX0_restart_55 rfl ?_
    refine z_getA (pc := 56) f_X0_27 dX0_restart_56 (by decide) rfl rfl ?_
    refine z_iload_n (pc := 59) dX0_restart_59 rfl ?_
    refine z_iconst (pc := 60) (v := (nI 1)) dX0_restart_60 (by decide) ?_
    refine z_zastN (pc := 61) dX0_restart_61 (by decide) rfl (by decide) (q52) (Or.inr rfl) ?_
    refine z_aload_n (pc := 62) dX0_restart_62 rfl ?_
    refine z_getA (pc := 63) f_X0_30 dX0_restart_63 (by decide) rfl rfl ?_
    refine z_iload_n (pc := 66) dX0_restart_66 rfl ?_
    refine z_iconst (pc := 67) (v := (nI 1)) dX0_restart_67 (by decide) ?_
    refine z_zastN (pc := 68) dX0_restart_68 (by decide) rfl (by decide) (q52) (Or.inr rfl) ?_
    refine z_aload_n (pc := 69) dX0_restart_69 rfl ?_
    refine z_getA (pc := 70) f_X0_33 dX0_restart_70 (by decide) rfl rfl ?_
    refine z_iload_n (pc := 73) dX0_restart_73 rfl ?_
    refine z_iconst (pc := 74) (v := (nI 0)) dX0_restart_74 (by decide) ?_
    refine z_iastN (pc := 75) dX0_restart_75 (by decide) rfl (by decide) (q52) ?_
    refine z_aload_n (pc := 76) dX0_restart_76 rfl ?_
    refine z_getA (pc := 77) f_X0_36 dX0_restart_77 (by decide) rfl rfl ?_
    refine z_iload_n (pc := 80) dX0_restart_80 rfl ?_
    refine z_iconst (pc := 81) (v := (nI 0)) dX0_restart_81 (by decide) ?_
    refine z_iastN (pc := 82) dX0_restart_82 (by decide) rfl (by decide) (q52) ?_
    refine z_aload_n (pc := 83) dX0_restart_83 rfl ?_
    refine z_getA (pc := 84) f_X0_39 dX0_restart_84 (by decide) rfl rfl ?_
    refine z_iload_n (pc := 87) dX0_restart_87 rfl ?_
    refine z_ldc (pc := 88) k_X0_57 dX0_restart_88 ?_
    refine z_iastN (pc := 90) dX0_restart_90 (by decide) rfl (by decide) (q52) ?_
    refine z_iincN (pc := 91) dX0_restart_91 rfl (by decide) rfl rfl ?_
    refine z_goto (pc := 94) (tgt := 49) dX0_restart_94 (by decide) ?_
    exact (ih _ (by omega) (i := i + 1) (by omega) rfl).mono (fun r σ' g => ⟨g.1, g.2.trans (by rw [hf1, x_rb]; rfl)⟩)
set_option maxRecDepth 20000 in
theorem c_X0_rs1 {σ : z_Sto} {s : Nat} (hs : s ≤ 16) : z_R layX iX0_restart 7 [some (.ref 11), some (.int (nI s))] [] σ (fun r σ' => r = none ∧ σ' = x_rb 11 12 0 (x_ra 11 (16 - s) s σ)) := by
  generalize hf : 16 - s = f
  induction f using Nat.strongRecOn generalizing s σ
  rename_i f ih
  refine z_iload_n (pc := 7) dX0_restart_7 rfl ?_
  refine z_bipush (pc := 8) (v := (nI 16)) dX0_restart_8 (by decide) ?_
  refine z_icmp_ge (pc := 10) (tgt := 47) dX0_restart_10 (by decide) (fun h10 => ?_) (fun h10 => ?_)
  · have q10 : f = 0 := by have := (nI_leI (by decide) (by omega)).mp h10; omega
    refine z_iconst (pc := 47) (v := (nI 0)) dX0_restart_47 (by decide) ?_
    refine z_istore_n (pc := 48) dX0_restart_48 (by decide) rfl rfl ?_
    exact (c_X0_rs2 (i := 0) (by decide)).mono (fun r σ' g => ⟨g.1, g.2.trans (by rw [q10]; rfl)⟩)
  · have q10 : s < 16 := by have : ¬ 16 ≤ s := fun q => h10 ((nI_leI (by decide) (by omega)).mpr q); omega
    have hf1 : f = (16 - (s + 1)) + 1 := by omega
    refine z_aload_n (pc := 13) dX0_restart_13 rfl ?_
    refine z_getA (pc := 14) f_X0_11 dX0_restart_14 (by decide) rfl rfl ?_
    refine z_iload_n (pc := 17) dX0_restart_17 rfl ?_
    refine z_iconst (pc := 18) (v := (nI 0)) dX0_restart_18 (by decide) ?_
    refine z_iastN (pc := 19) dX0_restart_19 (by decide) rfl (by decide) (q10) ?_
    refine z_aload_n (pc := 20) dX0_restart_20 rfl ?_
    refine z_getA (pc := 21) f_X0_17 dX0_restart_21 (by decide) rfl rfl ?_
    refine z_iload_n (pc := 24) dX0_restart_24 rfl ?_
    refine z_iconst (pc := 25) (v := (nI 0)) dX0_restart_25 (by decide) ?_
    refine z_iastN (pc := 26) dX0_restart_26 (by decide) rfl (by decide) (q10) ?_
    refine z_aload_n (pc := 27) dX0_restart_27 rfl ?_
    refine z_getA (pc := 28) f_X0_20 dX0_restart_28 (by decide) rfl rfl ?_
    refine z_iload_n (pc := 31) dX0_restart_31 rfl ?_
    refine z_iconst (pc := 32) (v := (nI 0)) dX0_restart_32 (by decide) ?_
    refine z_iastN (pc := 33) dX0_restart_33 (by decide) rfl (by decide) (q10) ?_
    refine z_aload_n (pc := 34) dX0_restart_34 rfl ?_
    refine z_getA (pc := 35) f_X0_23 dX0_restart_35 (by decide) rfl rfl ?_
    refine z_iload_n (pc := 38) dX0_restart_38 rfl ?_
    refine z_iconst (pc := 39) (v := (nI 0)) dX0_restart_39 (by decide) ?_
    refine z_zastN (pc := 40) dX0_restart_40 (by decide) rfl (by decide) (q10) (Or.inl rfl) ?_
    refine z_iincN (pc := 41) dX0_restart_41 rfl (by decide) rfl rfl ?_
    refine z_goto (pc := 44) (tgt := 7) dX0_restart_44 (by decide) ?_
    exact (ih _ (by omega) (s := s + 1) (by omega) rfl).mono (fun r σ' g => ⟨g.1, g.2.trans (by rw [hf1, x_ra]; rfl)⟩)
set_option maxRecDepth 20000 in
theorem c_X0_restart {σ : z_Sto} : z_R layX iX0_restart 0 [some (.ref 11), none] [] σ (fun r σ' => r = none ∧ σ' = x_restart 11 σ) := by
  refine z_aload_n (pc := 0) dX0_restart_0 rfl ?_
  refine z_iconst (pc := 1) (v := (nI 0)) dX0_restart_1 (by decide) ?_
  refine z_putI (pc := 2) f_X0_53 tyX0_ok nmX0 (by decide) rfl (by decide) (by decide) dX0_restart_2 (by decide) rfl rfl ?_
  refine z_iconst (pc := 5) (v := (nI 0)) dX0_restart_5 (by decide) ?_
  refine z_istore_n (pc := 6) dX0_restart_6 (by decide) rfl rfl ?_
  exact c_X0_rs1 (s := 0) (by decide)
/-! the board at cell 24: settling, taking, restarting -/
set_option maxRecDepth 20000 in
theorem c_X0_sll2 {σ : z_Sto} {s n i : Nat} {to fr op k : Int32} (hs : s < 16) (hn : σ 3 3 = nI n) (h12 : n ≤ 12) (hi : i ≤ 12) : z_R layX iX0_settle 73 [some (.ref 24), some (.int (nI s)), some (.int to), some (.int fr), some (.int op), some (.int k), some (.int (nI i))] [] σ (fun r σ' => r = none ∧ σ' = x_look 24 s n (x_lo 24 s k (x_end s n - i) i σ)) := by
  have he : x_end s n ≤ 12 := by unfold x_end; split <;> (try split) <;> omega
  generalize hf : x_end s n - i = f
  induction f using Nat.strongRecOn generalizing i σ
  rename_i f ih
  refine z_iload (pc := 73) dX0_settle_73 rfl ?_
  refine z_aload_n (pc := 75) dX0_settle_75 rfl ?_
  refine z_iload_n (pc := 76) dX0_settle_76 rfl ?_
  refine z_cV1 (pc := 77) mX0_endOf l_X0_106 (by decide) dX0_settle_77 (by decide) rfl rfl (by decide) (Nat.le_of_ble_eq_true rfl) (c_X0_endOf2 hs hn h12) rfl (fun r77 σ77 hr77 => ?_)
  obtain ⟨rfl, rfl⟩ := hr77
  refine z_icmp_ge (pc := 80) (tgt := 124) dX0_settle_80 (by decide) (fun h80 => ?_) (fun h80 => ?_)
  · have q80 : f = 0 := by have := (nI_leI (by omega) (by omega)).mp h80; omega
    refine z_aload_n (pc := 124) dX0_settle_124 rfl ?_
    refine z_iload_n (pc := 125) dX0_settle_125 rfl ?_
    refine z_cV1 (pc := 126) mX0_lookAt l_X0_109 (by decide) dX0_settle_126 (by decide) rfl rfl (by decide) (Nat.le_of_ble_eq_true rfl) (c_X0_lookAt2 hs hn h12) rfl (fun r126 σ126 hr126 => ?_)
    obtain ⟨rfl, rfl⟩ := hr126
    exact z_return (pc := 129) dX0_settle_129 rfl (⟨rfl, by rw [q80]; rfl⟩)
  · have q80 : i < x_end s n := by have : ¬ x_end s n ≤ i := fun q => h80 ((nI_leI (by omega) (by omega)).mpr q); omega
    have hf1 : f = (x_end s n - (i + 1)) + 1 := by omega
    refine z_aload_n (pc := 83) dX0_settle_83 rfl ?_
    refine z_getA (pc := 84) f_X0_27 dX0_settle_84 (by decide) rfl rfl ?_
    refine z_iload (pc := 87) dX0_settle_87 rfl ?_
    refine z_zaldN (pc := 89) dX0_settle_89 (by decide) rfl (by decide) (by omega) ?_
    refine z_if_eq (pc := 90) (tgt := 118) dX0_settle_90 (by decide) (fun h90 => ?_) (fun h90 => ?_)
    · have hq : x_o1 24 s i k σ77 = σ77 := by rw [x_o1, if_neg (fun g => g.1 h90)]
      refine z_iincN (pc := 118) dX0_settle_118 rfl (by decide) rfl rfl ?_
      refine z_goto (pc := 121) (tgt := 73) dX0_settle_121 (by decide) ?_
      exact (ih _ (by omega) (i := i + 1) (by first | exact hn | (simp only [z_up_at, reduceIte, Nat.reduceEqDiff]; exact hn)) (by omega) rfl).mono (fun r σ' g => ⟨g.1, g.2.trans (by rw [hf1, x_lo, hq] <;> rfl)⟩)
    · refine z_aload_n (pc := 93) dX0_settle_93 rfl ?_
      refine z_getA (pc := 94) f_X0_46 dX0_settle_94 (by decide) rfl rfl ?_
      refine z_iload (pc := 97) dX0_settle_97 rfl ?_
      refine z_cV1 (pc := 99) mX4_slotOf l_X0_62 (by decide) dX0_settle_99 (by decide) rfl rfl (by decide) (Nat.le_of_ble_eq_true rfl) (c_X4_slotOf (by omega)) rfl (fun r99 σ99 hr99 => ?_)
      obtain ⟨rfl, rfl⟩ := hr99
      refine z_iload_n (pc := 102) dX0_settle_102 rfl ?_
      refine z_icmp_ne (pc := 103) (tgt := 118) dX0_settle_103 (by decide) (fun h103 => ?_) (fun h103 => ?_)
      · have hq : x_o1 24 s i k σ99 = σ99 := by rw [x_o1, if_neg (fun g => h103 g.2)]
        refine z_iincN (pc := 118) dX0_settle_118 rfl (by decide) rfl rfl ?_
        refine z_goto (pc := 121) (tgt := 73) dX0_settle_121 (by decide) ?_
        exact (ih _ (by omega) (i := i + 1) (by first | exact hn | (simp only [z_up_at, reduceIte, Nat.reduceEqDiff]; exact hn)) (by omega) rfl).mono (fun r σ' g => ⟨g.1, g.2.trans (by rw [hf1, x_lo, hq] <;> rfl)⟩)
      · have hq : x_o1 24 s i k σ99 = z_up σ99 (24 + 8) i (σ99 (24 + 8) i + k) := by rw [x_o1, if_pos ⟨h90, h103⟩]
        refine z_aload_n (pc := 106) dX0_settle_106 rfl ?_
        refine z_getA (pc := 107) f_X0_36 dX0_settle_107 (by decide) rfl rfl ?_
        refine z_iload (pc := 110) dX0_settle_110 rfl ?_
        refine z_dup2 (pc := 112) dX0_settle_112 ?_
        refine z_ialdN (pc := 113) dX0_settle_113 (by decide) rfl (by decide) (by omega) ?_
        refine z_iload (pc := 114) dX0_settle_114 rfl ?_
        refine z_iadd (pc := 116) dX0_settle_116 ?_
        refine z_iastN (pc := 117) dX0_settle_117 (by decide) rfl (by decide) (by omega) ?_
        refine z_iincN (pc := 118) dX0_settle_118 rfl (by decide) rfl rfl ?_
        refine z_goto (pc := 121) (tgt := 73) dX0_settle_121 (by decide) ?_
        exact (ih _ (by omega) (i := i + 1) (by first | exact hn | (simp only [z_up_at, reduceIte, Nat.reduceEqDiff]; exact hn)) (by omega) rfl).mono (fun r σ' g => ⟨g.1, g.2.trans (by rw [hf1, x_lo, hq] <;> rfl)⟩)
set_option maxRecDepth 20000 in
theorem c_X0_settle2 {σ : z_Sto} {s n : Nat} {to : Int32} (hs : s < 16) (hn : σ 3 3 = nI n) (h12 : n ≤ 12) : z_R layX iX0_settle 0 [some (.ref 24), some (.int (nI s)), some (.int to), none, none, none, none] [] σ (fun r σ' => r = none ∧ σ' = x_set 24 23 s n to σ) := by
  refine z_aload_n (pc := 0) dX0_settle_0 rfl ?_
  refine z_getA (pc := 1) f_X0_20 dX0_settle_1 (by decide) rfl rfl ?_
  refine z_iload_n (pc := 4) dX0_settle_4 rfl ?_
  refine z_ialdN (pc := 5) dX0_settle_5 (by decide) rfl (by decide) (hs) ?_
  refine z_istore_n (pc := 6) dX0_settle_6 (by decide) rfl rfl ?_
  refine z_aload_n (pc := 7) dX0_settle_7 rfl ?_
  refine z_getA (pc := 8) f_X0_20 dX0_settle_8 (by decide) rfl rfl ?_
  refine z_iload_n (pc := 11) dX0_settle_11 rfl ?_
  refine z_iload_n (pc := 12) dX0_settle_12 rfl ?_
  refine z_iastN (pc := 13) dX0_settle_13 (by decide) rfl (by decide) (hs) ?_
  refine z_aload_n (pc := 14) dX0_settle_14 rfl ?_
  refine z_getA (pc := 15) f_X0_23 dX0_settle_15 (by decide) rfl rfl ?_
  refine z_iload_n (pc := 18) dX0_settle_18 rfl ?_
  refine z_zaldN (pc := 19) dX0_settle_19 (by decide) rfl (by decide) (hs) ?_
  simp only [z_up_at, reduceIte, Nat.reduceEqDiff]
  refine z_if_eq (pc := 20) (tgt := 28) dX0_settle_20 (by decide) (fun h20 => ?_) (fun h20 => ?_)
  · exact z_return (pc := 28) dX0_settle_28 rfl (⟨rfl, by first | rw [x_set, if_pos (Or.inl h20)] | rw [x_set, if_pos (Or.inr h25)]⟩)
  · refine z_iload_n (pc := 23) dX0_settle_23 rfl ?_
    refine z_iload_n (pc := 24) dX0_settle_24 rfl ?_
    refine z_icmp_gt (pc := 25) (tgt := 29) dX0_settle_25 (by decide) (fun h25 => ?_) (fun h25 => ?_)
    · refine z_aload_n (pc := 29) dX0_settle_29 rfl ?_
      refine z_iload_n (pc := 30) dX0_settle_30 rfl ?_
      refine z_iload_n (pc := 31) dX0_settle_31 rfl ?_
      refine z_cV2 (pc := 32) mX0_openingTick l_X0_82 (by decide) dX0_settle_32 (by decide) rfl rfl (by decide) (Nat.le_of_ble_eq_true rfl) (c_X0_openingTick2 hs) rfl (fun r32 σ32 hr32 => ?_)
      obtain ⟨rfl, rfl⟩ := hr32
      refine z_istore (pc := 35) dX0_settle_35 (by decide) rfl rfl ?_
      refine z_aload_n (pc := 37) dX0_settle_37 rfl ?_
      refine z_getA (pc := 38) f_X0_23 dX0_settle_38 (by decide) rfl rfl ?_
      refine z_iload_n (pc := 41) dX0_settle_41 rfl ?_
      refine z_iload (pc := 42) dX0_settle_42 rfl ?_
      refine z_iload_n (pc := 44) dX0_settle_44 rfl ?_
      refine z_icmp_le (pc := 45) (tgt := 52) dX0_settle_45 (by decide) (fun h45 => ?_) (fun h45 => ?_)
      · refine z_iconst (pc := 52) (v := (nI 0)) dX0_settle_52 (by decide) ?_
        refine z_zastN (pc := 53) dX0_settle_53 (by decide) rfl (by decide) (hs) (by first | exact Or.inl rfl | exact Or.inr rfl) ?_
        refine z_iload_n (pc := 54) dX0_settle_54 rfl ?_
        refine z_iload (pc := 55) dX0_settle_55 rfl ?_
        refine z_iconst (pc := 57) (v := (nI 1)) dX0_settle_57 (by decide) ?_
        refine z_isub (pc := 58) dX0_settle_58 ?_
        refine z_min (pc := 59) l_X0_100 (by decide) (Nat.le_of_ble_eq_true rfl) dX0_settle_59 ?_
        refine z_iload_n (pc := 62) dX0_settle_62 rfl ?_
        refine z_isub (pc := 63) dX0_settle_63 ?_
        refine z_istore (pc := 64) dX0_settle_64 (by decide) rfl rfl ?_
        refine z_aload_n (pc := 66) dX0_settle_66 rfl ?_
        refine z_iload_n (pc := 67) dX0_settle_67 rfl ?_
        refine z_cV1 (pc := 68) mX0_firstOf l_X0_103 (by decide) dX0_settle_68 (by decide) rfl rfl (by decide) (Nat.le_of_ble_eq_true rfl) (c_X0_firstOf2 hs) rfl (fun r68 σ68 hr68 => ?_)
        obtain ⟨rfl, rfl⟩ := hr68
        refine z_istore (pc := 71) dX0_settle_71 (by decide) rfl rfl ?_
        exact (c_X0_sll2 hs (by simp only [z_up_at, reduceIte, Nat.reduceEqDiff]; exact hn) h12 (by unfold x_fst; split <;> omega)).mono (fun r σ' g => ⟨g.1, g.2.trans (by first | exact (x_set_go (b := 24) (v := 23) h20 h25 _ (if_pos h45)).symm | exact (x_set_go (b := 24) (v := 23) h20 h25 _ (if_neg h45)).symm)⟩)
      · refine z_iconst (pc := 48) (v := (nI 1)) dX0_settle_48 (by decide) ?_
        refine z_goto (pc := 49) (tgt := 53) dX0_settle_49 (by decide) ?_
        refine z_zastN (pc := 53) dX0_settle_53 (by decide) rfl (by decide) (hs) (by first | exact Or.inl rfl | exact Or.inr rfl) ?_
        refine z_iload_n (pc := 54) dX0_settle_54 rfl ?_
        refine z_iload (pc := 55) dX0_settle_55 rfl ?_
        refine z_iconst (pc := 57) (v := (nI 1)) dX0_settle_57 (by decide) ?_
        refine z_isub (pc := 58) dX0_settle_58 ?_
        refine z_min (pc := 59) l_X0_100 (by decide) (Nat.le_of_ble_eq_true rfl) dX0_settle_59 ?_
        refine z_iload_n (pc := 62) dX0_settle_62 rfl ?_
        refine z_isub (pc := 63) dX0_settle_63 ?_
        refine z_istore (pc := 64) dX0_settle_64 (by decide) rfl rfl ?_
        refine z_aload_n (pc := 66) dX0_settle_66 rfl ?_
        refine z_iload_n (pc := 67) dX0_settle_67 rfl ?_
        refine z_cV1 (pc := 68) mX0_firstOf l_X0_103 (by decide) dX0_settle_68 (by decide) rfl rfl (by decide) (Nat.le_of_ble_eq_true rfl) (c_X0_firstOf2 hs) rfl (fun r68 σ68 hr68 => ?_)
        obtain ⟨rfl, rfl⟩ := hr68
        refine z_istore (pc := 71) dX0_settle_71 (by decide) rfl rfl ?_
        exact (c_X0_sll2 hs (by simp only [z_up_at, reduceIte, Nat.reduceEqDiff]; exact hn) h12 (by unfold x_fst; split <;> omega)).mono (fun r σ' g => ⟨g.1, g.2.trans (by first | exact (x_set_go (b := 24) (v := 23) h20 h25 _ (if_pos h45)).symm | exact (x_set_go (b := 24) (v := 23) h20 h25 _ (if_neg h45)).symm)⟩)
    · exact z_return (pc := 28) dX0_settle_28 rfl (⟨rfl, by first | rw [x_set, if_pos (Or.inl h20)] | rw [x_set, if_pos (Or.inr h25)]⟩)
set_option maxRecDepth 20000 in
theorem c_X0_sal2 {σ : z_Sto} {s n : Nat} {to : Int32} (hs : s ≤ 16) (hn : σ 3 3 = nI n) (h12 : n ≤ 12) : z_R layX iX0_settleAll 2 [some (.ref 24), some (.int to), some (.int (nI s))] [] σ (fun r σ' => r = none ∧ σ' = x_sa 24 23 n to (16 - s) s σ) := by
  generalize hf : 16 - s = f
  induction f using Nat.strongRecOn generalizing s σ
  rename_i f ih
  refine z_iload_n (pc := 2) dX0_settleAll_2 rfl ?_
  refine z_bipush (pc := 3) (v := (nI 16)) dX0_settleAll_3 (by decide) ?_
  refine z_icmp_ge (pc := 5) (tgt := 20) dX0_settleAll_5 (by decide) (fun h5 => ?_) (fun h5 => ?_)
  · have q5 : f = 0 := by have := (nI_leI (by decide) (by omega)).mp h5; omega
    exact z_return (pc := 20) dX0_settleAll_20 rfl (⟨rfl, by rw [q5]; rfl⟩)
  · have q5 : s < 16 := by have : ¬ 16 ≤ s := fun q => h5 ((nI_leI (by decide) (by omega)).mpr q); omega
    have hf1 : f = (16 - (s + 1)) + 1 := by omega
    refine z_aload_n (pc := 8) dX0_settleAll_8 rfl ?_
    refine z_iload_n (pc := 9) dX0_settleAll_9 rfl ?_
    refine z_iload_n (pc := 10) dX0_settleAll_10 rfl ?_
    refine z_cV2 (pc := 11) mX0_settle l_X0_96 (by decide) dX0_settleAll_11 (by decide) rfl rfl (by decide) (Nat.le_of_ble_eq_true rfl) (c_X0_settle2 q5 hn h12) rfl (fun r11 σ11 hr11 => ?_)
    obtain ⟨rfl, rfl⟩ := hr11
    refine z_iincN (pc := 14) dX0_settleAll_14 rfl (by decide) rfl rfl ?_
    refine z_goto (pc := 17) (tgt := 2) dX0_settleAll_17 (by decide) ?_
    exact (ih _ (by omega) (s := s + 1) (by omega) (by rw [x_set_fr (by decide)]; exact hn) rfl).mono (fun r σ' g => ⟨g.1, g.2.trans (by rw [hf1, x_sa])⟩)
set_option maxRecDepth 20000 in
theorem c_X0_settleAll2 {σ : z_Sto} {n : Nat} {to : Int32} (hn : σ 3 3 = nI n) (h12 : n ≤ 12) : z_R layX iX0_settleAll 0 [some (.ref 24), some (.int to), none] [] σ (fun r σ' => r = none ∧ σ' = x_sa 24 23 n to 16 0 σ) := by
  refine z_iconst (pc := 0) (v := (nI 0)) dX0_settleAll_0 (by decide) ?_
  refine z_istore_n (pc := 1) dX0_settleAll_1 (by decide) rfl rfl ?_
  exact c_X0_sal2 (s := 0) (by decide) hn h12
set_option maxRecDepth 20000 in
theorem c_X0_tk32 {σ : z_Sto} {s n i w : Nat} {t u : Int32} (hs : s < 16) (hn : σ 3 3 = nI n) (h12 : n ≤ 12) : z_R layX iX0_take 91 [some (.ref 24), some (.int (nI i)), some (.int (nI w)), some (.int t), some (.int (nI s)), some (.int u)] [] σ (fun r σ' => r = none ∧ σ' = x_look 24 s n (x_t3 24 23 s σ)) := by
  refine z_aload_n (pc := 91) dX0_take_91 rfl ?_
  refine z_getA (pc := 92) f_X0_11 dX0_take_92 (by decide) rfl rfl ?_
  refine z_iload (pc := 95) dX0_take_95 rfl ?_
  refine z_ialdN (pc := 97) dX0_take_97 (by decide) rfl (by decide) (hs) ?_
  refine z_aload_n (pc := 98) dX0_take_98 rfl ?_
  refine z_getA (pc := 99) f_X0_42 dX0_take_99 (by decide) rfl rfl ?_
  refine z_iconst (pc := 102) (v := (nI 4)) dX0_take_102 (by decide) ?_
  refine z_cV1 (pc := 103) mX5_get l_X0_85 (by decide) dX0_take_103 (by decide) rfl rfl (by decide) (Nat.le_of_ble_eq_true rfl) (c_X5_getT (by decide)) rfl (fun r103 σ103 hr103 => ?_)
  obtain ⟨rfl, rfl⟩ := hr103
  refine z_icmp_le (pc := 106) (tgt := 122) dX0_take_106 (by decide) (fun h106 => ?_) (fun h106 => ?_)
  · refine z_aload_n (pc := 122) dX0_take_122 rfl ?_
    refine z_iload (pc := 123) dX0_take_123 rfl ?_
    refine z_cV1 (pc := 125) mX0_lookAt l_X0_109 (by decide) dX0_take_125 (by decide) rfl rfl (by decide) (Nat.le_of_ble_eq_true rfl) (c_X0_lookAt2 hs (by first | exact hn | (simp only [z_up_at, reduceIte, Nat.reduceEqDiff]; exact hn)) h12) rfl (fun r125 σ125 hr125 => ?_)
    obtain ⟨rfl, rfl⟩ := hr125
    exact z_return (pc := 128) dX0_take_128 rfl (⟨rfl, by first | rw [x_t3, if_pos h106] | (rw [x_t3, if_neg h106] <;> rfl)⟩)
  · refine z_aload_n (pc := 109) dX0_take_109 rfl ?_
    refine z_getA (pc := 110) f_X0_23 dX0_take_110 (by decide) rfl rfl ?_
    refine z_iload (pc := 113) dX0_take_113 rfl ?_
    refine z_iconst (pc := 115) (v := (nI 1)) dX0_take_115 (by decide) ?_
    refine z_zastN (pc := 116) dX0_take_116 (by decide) rfl (by decide) (hs) (Or.inr rfl) ?_
    refine z_aload_n (pc := 117) dX0_take_117 rfl ?_
    refine z_iconst (pc := 118) (v := (nI 1)) dX0_take_118 (by decide) ?_
    refine z_putI (pc := 119) f_X0_53 tyX0_ok nmX0 (by decide) rfl (by decide) (by decide) dX0_take_119 (by decide) rfl rfl ?_
    refine z_aload_n (pc := 122) dX0_take_122 rfl ?_
    refine z_iload (pc := 123) dX0_take_123 rfl ?_
    refine z_cV1 (pc := 125) mX0_lookAt l_X0_109 (by decide) dX0_take_125 (by decide) rfl rfl (by decide) (Nat.le_of_ble_eq_true rfl) (c_X0_lookAt2 hs (by first | exact hn | (simp only [z_up_at, reduceIte, Nat.reduceEqDiff]; exact hn)) h12) rfl (fun r125 σ125 hr125 => ?_)
    obtain ⟨rfl, rfl⟩ := hr125
    exact z_return (pc := 128) dX0_take_128 rfl (⟨rfl, by first | rw [x_t3, if_pos h106] | (rw [x_t3, if_neg h106] <;> rfl)⟩)
set_option maxRecDepth 20000 in
theorem c_X0_take2 {σ : z_Sto} {s n i w h : Nat} {t : Int32} (hi : i < 12) (hsl : σ 5 i = nI s) (hs : s < 16) (hn : σ 3 3 = nI n) (h12 : n ≤ 12) (hw : w < 3) (hh : σ 23 3 = nI h) (h1 : 1 ≤ h) (h2 : h ≤ 500) : z_R layX iX0_take 0 [some (.ref 24), some (.int (nI i)), some (.int (nI w)), some (.int t), none, none] [] σ (fun r σ' => r = none ∧ σ' = x_take 24 23 s i w n t σ) := by
  refine z_aload_n (pc := 0) dX0_take_0 rfl ?_
  refine z_getA (pc := 1) f_X0_46 dX0_take_1 (by decide) rfl rfl ?_
  refine z_iload_n (pc := 4) dX0_take_4 rfl ?_
  refine z_cV1 (pc := 5) mX4_slotOf l_X0_62 (by decide) dX0_take_5 (by decide) rfl rfl (by decide) (Nat.le_of_ble_eq_true rfl) (c_X4_slotOf hi) rfl (fun r5 σ5 hr5 => ?_)
  obtain ⟨rfl, rfl⟩ := hr5
  rw [hsl]
  refine z_istore (pc := 8) dX0_take_8 (by decide) rfl rfl ?_
  refine z_aload_n (pc := 10) dX0_take_10 rfl ?_
  refine z_iload (pc := 11) dX0_take_11 rfl ?_
  refine z_iload_n (pc := 13) dX0_take_13 rfl ?_
  refine z_cV2 (pc := 14) mX0_settle l_X0_96 (by decide) dX0_take_14 (by decide) rfl rfl (by decide) (Nat.le_of_ble_eq_true rfl) (c_X0_settle2 hs hn h12) rfl (fun r14 σ14 hr14 => ?_)
  obtain ⟨rfl, hσ⟩ := hr14
  have hh' : σ14 23 3 = nI h := by rw [hσ, x_set_fr (by decide)]; exact hh
  have hn' : σ14 3 3 = nI n := by rw [hσ, x_set_fr (by decide)]; exact hn
  refine z_aload_n (pc := 17) dX0_take_17 rfl ?_
  refine z_iload (pc := 18) dX0_take_18 rfl ?_
  refine z_iload_n (pc := 20) dX0_take_20 rfl ?_
  refine z_cV2 (pc := 21) mX0_penaltyAt l_X0_73 (by decide) dX0_take_21 (by decide) rfl rfl (by decide) (Nat.le_of_ble_eq_true rfl) (c_X0_penaltyAt2 hs hh' h1 h2) rfl (fun r21 σ21 hr21 => ?_)
  obtain ⟨rfl, rfl⟩ := hr21
  refine z_aload_n (pc := 24) dX0_take_24 rfl ?_
  refine z_iload_n (pc := 25) dX0_take_25 rfl ?_
  refine z_iload_n (pc := 26) dX0_take_26 rfl ?_
  refine z_iload_n (pc := 27) dX0_take_27 rfl ?_
  refine z_cV3 (pc := 28) mX0_weightOf l_X0_113 (by decide) dX0_take_28 (by decide) rfl rfl (by decide) (Nat.le_of_ble_eq_true rfl) (c_X0_weightOf2 hi hw) rfl (fun r28 σ28 hr28 => ?_)
  obtain ⟨rfl, rfl⟩ := hr28
  refine z_iadd (pc := 31) dX0_take_31 ?_
  refine z_istore (pc := 32) dX0_take_32 (by decide) rfl rfl ?_
  refine z_aload_n (pc := 34) dX0_take_34 rfl ?_
  refine z_getA (pc := 35) f_X0_11 dX0_take_35 (by decide) rfl rfl ?_
  refine z_iload (pc := 38) dX0_take_38 rfl ?_
  refine z_aload_n (pc := 40) dX0_take_40 rfl ?_
  refine z_getA (pc := 41) f_X0_42 dX0_take_41 (by decide) rfl rfl ?_
  refine z_bipush (pc := 44) (v := (nI 6)) dX0_take_44 (by decide) ?_
  refine z_cV1 (pc := 46) mX5_get l_X0_85 (by decide) dX0_take_46 (by decide) rfl rfl (by decide) (Nat.le_of_ble_eq_true rfl) (c_X5_getT (by decide)) rfl (fun r46 σ46 hr46 => ?_)
  obtain ⟨rfl, rfl⟩ := hr46
  refine z_iload (pc := 49) dX0_take_49 rfl ?_
  refine z_min (pc := 51) l_X0_100 (by decide) (Nat.le_of_ble_eq_true rfl) dX0_take_51 ?_
  refine z_iastN (pc := 54) dX0_take_54 (by decide) rfl (by decide) (hs) ?_
  refine z_aload_n (pc := 55) dX0_take_55 rfl ?_
  refine z_getA (pc := 56) f_X0_17 dX0_take_56 (by decide) rfl rfl ?_
  refine z_iload (pc := 59) dX0_take_59 rfl ?_
  refine z_iload_n (pc := 61) dX0_take_61 rfl ?_
  refine z_iastN (pc := 62) dX0_take_62 (by decide) rfl (by decide) (hs) ?_
  refine z_aload_n (pc := 63) dX0_take_63 rfl ?_
  refine z_getA (pc := 64) f_X0_39 dX0_take_64 (by decide) rfl rfl ?_
  refine z_iload_n (pc := 67) dX0_take_67 rfl ?_
  refine z_iload_n (pc := 68) dX0_take_68 rfl ?_
  refine z_iastN (pc := 69) dX0_take_69 (by decide) rfl (by decide) (hi) ?_
  refine z_iload_n (pc := 70) dX0_take_70 rfl ?_
  refine z_iconst (pc := 71) (v := (nI 2)) dX0_take_71 (by decide) ?_
  refine z_icmp_eq (pc := 72) (tgt := 91) dX0_take_72 (by decide) (fun h72 => ?_) (fun h72 => ?_)
  · have q72 : w = 2 := z_nI_inj (by omega) (by decide) h72
    exact (c_X0_tk32 hs (by simp only [z_up_at, reduceIte, Nat.reduceEqDiff]; exact hn') h12).mono (fun r σ' g => ⟨g.1, g.2.trans (by rw [x_take, ← hσ, x_t2]; first | (rw [if_pos q72]; rfl) | (rw [if_neg q72, if_pos q82]; rfl) | (rw [if_neg q72, if_neg q82]; rfl))⟩)
  · have q72 : ¬ w = 2 := fun q => h72 (by rw [q])
    refine z_aload_n (pc := 75) dX0_take_75 rfl ?_
    refine z_getA (pc := 76) f_X0_27 dX0_take_76 (by decide) rfl rfl ?_
    refine z_iload_n (pc := 79) dX0_take_79 rfl ?_
    refine z_iload_n (pc := 80) dX0_take_80 rfl ?_
    refine z_iconst (pc := 81) (v := (nI 1)) dX0_take_81 (by decide) ?_
    refine z_icmp_ne (pc := 82) (tgt := 89) dX0_take_82 (by decide) (fun h82 => ?_) (fun h82 => ?_)
    · have q82 : ¬ w = 1 := fun q => h82 (by rw [q])
      refine z_iconst (pc := 89) (v := (nI 0)) dX0_take_89 (by decide) ?_
      refine z_zastN (pc := 90) dX0_take_90 (by decide) rfl (by decide) (hi) (by first | exact Or.inl rfl | exact Or.inr rfl) ?_
      exact (c_X0_tk32 hs (by simp only [z_up_at, reduceIte, Nat.reduceEqDiff]; exact hn') h12).mono (fun r σ' g => ⟨g.1, g.2.trans (by rw [x_take, ← hσ, x_t2]; first | (rw [if_pos q72]; rfl) | (rw [if_neg q72, if_pos q82]; rfl) | (rw [if_neg q72, if_neg q82]; rfl))⟩)
    · have q82 : w = 1 := z_nI_inj (by omega) (by decide) h82
      refine z_iconst (pc := 85) (v := (nI 1)) dX0_take_85 (by decide) ?_
      refine z_goto (pc := 86) (tgt := 90) dX0_take_86 (by decide) ?_
      refine z_zastN (pc := 90) dX0_take_90 (by decide) rfl (by decide) (hi) (by first | exact Or.inl rfl | exact Or.inr rfl) ?_
      exact (c_X0_tk32 hs (by simp only [z_up_at, reduceIte, Nat.reduceEqDiff]; exact hn') h12).mono (fun r σ' g => ⟨g.1, g.2.trans (by rw [x_take, ← hσ, x_t2]; first | (rw [if_pos q72]; rfl) | (rw [if_neg q72, if_pos q82]; rfl) | (rw [if_neg q72, if_neg q82]; rfl))⟩)
set_option maxRecDepth 20000 in
theorem c_X0_rs22 {σ : z_Sto} {i : Nat} (hi : i ≤ 12) : z_R layX iX0_restart 49 [some (.ref 24), some (.int (nI i))] [] σ (fun r σ' => r = none ∧ σ' = x_rb 24 (12 - i) i σ) := by
  generalize hf : 12 - i = f
  induction f using Nat.strongRecOn generalizing i σ
  rename_i f ih
  refine z_iload_n (pc := 49) dX0_restart_49 rfl ?_
  refine z_bipush (pc := 50) (v := (nI 12)) dX0_restart_50 (by decide) ?_
  refine z_icmp_ge (pc := 52) (tgt := 97) dX0_restart_52 (by decide) (fun h52 => ?_) (fun h52 => ?_)
  · have q52 : f = 0 := by have := (nI_leI (by decide) (by omega)).mp h52; omega
    exact z_return (pc := 97) dX0_restart_97 rfl (⟨rfl, by rw [q52]; rfl⟩)
  · have q52 : i < 12 := by have : ¬ 12 ≤ i := fun q => h52 ((nI_leI (by decide) (by omega)).mpr q); omega
    have hf1 : f = (12 - (i + 1)) + 1 := by omega
    refine z_aload_n (pc := 55) dX0_restart_55 rfl ?_
    refine z_getA (pc := 56) f_X0_27 dX0_restart_56 (by decide) rfl rfl ?_
    refine z_iload_n (pc := 59) dX0_restart_59 rfl ?_
    refine z_iconst (pc := 60) (v := (nI 1)) dX0_restart_60 (by decide) ?_
    refine z_zastN (pc := 61) dX0_restart_61 (by decide) rfl (by decide) (q52) (Or.inr rfl) ?_
    refine z_aload_n (pc := 62) dX0_restart_62 rfl ?_
    refine z_getA (pc := 63) f_X0_30 dX0_restart_63 (by decide) rfl rfl ?_
    refine z_iload_n (pc := 66) dX0_restart_66 rfl ?_
    refine z_iconst (pc := 67) (v := (nI 1)) dX0_restart_67 (by decide) ?_
    refine z_zastN (pc := 68) dX0_restart_68 (by decide) rfl (by decide) (q52) (Or.inr rfl) ?_
    refine z_aload_n (pc := 69) dX0_restart_69 rfl ?_
    refine z_getA (pc := 70) f_X0_33 dX0_restart_70 (by decide) rfl rfl ?_
    refine z_iload_n (pc := 73) dX0_restart_73 rfl ?_
    refine z_iconst (pc := 74) (v := (nI 0)) dX0_restart_74 (by decide) ?_
    refine z_iastN (pc := 75) dX0_restart_75 (by decide) rfl (by decide) (q52) ?_
    refine z_aload_n (pc := 76) dX0_restart_76 rfl ?_
    refine z_getA (pc := 77) f_X0_36 dX0_restart_77 (by decide) rfl rfl ?_
    refine z_iload_n (pc := 80) dX0_restart_80 rfl ?_
    refine z_iconst (pc := 81) (v := (nI 0)) dX0_restart_81 (by decide) ?_
    refine z_iastN (pc := 82) dX0_restart_82 (by decide) rfl (by decide) (q52) ?_
    refine z_aload_n (pc := 83) dX0_restart_83 rfl ?_
    refine z_getA (pc := 84) f_X0_39 dX0_restart_84 (by decide) rfl rfl ?_
    refine z_iload_n (pc := 87) dX0_restart_87 rfl ?_
    refine z_ldc (pc := 88) k_X0_57 dX0_restart_88 ?_
    refine z_iastN (pc := 90) dX0_restart_90 (by decide) rfl (by decide) (q52) ?_
    refine z_iincN (pc := 91) dX0_restart_91 rfl (by decide) rfl rfl ?_
    refine z_goto (pc := 94) (tgt := 49) dX0_restart_94 (by decide) ?_
    exact (ih _ (by omega) (i := i + 1) (by omega) rfl).mono (fun r σ' g => ⟨g.1, g.2.trans (by rw [hf1, x_rb]; rfl)⟩)
set_option maxRecDepth 20000 in
theorem c_X0_rs12 {σ : z_Sto} {s : Nat} (hs : s ≤ 16) : z_R layX iX0_restart 7 [some (.ref 24), some (.int (nI s))] [] σ (fun r σ' => r = none ∧ σ' = x_rb 24 12 0 (x_ra 24 (16 - s) s σ)) := by
  generalize hf : 16 - s = f
  induction f using Nat.strongRecOn generalizing s σ
  rename_i f ih
  refine z_iload_n (pc := 7) dX0_restart_7 rfl ?_
  refine z_bipush (pc := 8) (v := (nI 16)) dX0_restart_8 (by decide) ?_
  refine z_icmp_ge (pc := 10) (tgt := 47) dX0_restart_10 (by decide) (fun h10 => ?_) (fun h10 => ?_)
  · have q10 : f = 0 := by have := (nI_leI (by decide) (by omega)).mp h10; omega
    refine z_iconst (pc := 47) (v := (nI 0)) dX0_restart_47 (by decide) ?_
    refine z_istore_n (pc := 48) dX0_restart_48 (by decide) rfl rfl ?_
    exact (c_X0_rs22 (i := 0) (by decide)).mono (fun r σ' g => ⟨g.1, g.2.trans (by rw [q10]; rfl)⟩)
  · have q10 : s < 16 := by have : ¬ 16 ≤ s := fun q => h10 ((nI_leI (by decide) (by omega)).mpr q); omega
    have hf1 : f = (16 - (s + 1)) + 1 := by omega
    refine z_aload_n (pc := 13) dX0_restart_13 rfl ?_
    refine z_getA (pc := 14) f_X0_11 dX0_restart_14 (by decide) rfl rfl ?_
    refine z_iload_n (pc := 17) dX0_restart_17 rfl ?_
    refine z_iconst (pc := 18) (v := (nI 0)) dX0_restart_18 (by decide) ?_
    refine z_iastN (pc := 19) dX0_restart_19 (by decide) rfl (by decide) (q10) ?_
    refine z_aload_n (pc := 20) dX0_restart_20 rfl ?_
    refine z_getA (pc := 21) f_X0_17 dX0_restart_21 (by decide) rfl rfl ?_
    refine z_iload_n (pc := 24) dX0_restart_24 rfl ?_
    refine z_iconst (pc := 25) (v := (nI 0)) dX0_restart_25 (by decide) ?_
    refine z_iastN (pc := 26) dX0_restart_26 (by decide) rfl (by decide) (q10) ?_
    refine z_aload_n (pc := 27) dX0_restart_27 rfl ?_
    refine z_getA (pc := 28) f_X0_20 dX0_restart_28 (by decide) rfl rfl ?_
    refine z_iload_n (pc := 31) dX0_restart_31 rfl ?_
    refine z_iconst (pc := 32) (v := (nI 0)) dX0_restart_32 (by decide) ?_
    refine z_iastN (pc := 33) dX0_restart_33 (by decide) rfl (by decide) (q10) ?_
    refine z_aload_n (pc := 34) dX0_restart_34 rfl ?_
    refine z_getA (pc := 35) f_X0_23 dX0_restart_35 (by decide) rfl rfl ?_
    refine z_iload_n (pc := 38) dX0_restart_38 rfl ?_
    refine z_iconst (pc := 39) (v := (nI 0)) dX0_restart_39 (by decide) ?_
    refine z_zastN (pc := 40) dX0_restart_40 (by decide) rfl (by decide) (q10) (Or.inl rfl) ?_
    refine z_iincN (pc := 41) dX0_restart_41 rfl (by decide) rfl rfl ?_
    refine z_goto (pc := 44) (tgt := 7) dX0_restart_44 (by decide) ?_
    exact (ih _ (by omega) (s := s + 1) (by omega) rfl).mono (fun r σ' g => ⟨g.1, g.2.trans (by rw [hf1, x_ra]; rfl)⟩)
set_option maxRecDepth 20000 in
theorem c_X0_restart2 {σ : z_Sto} : z_R layX iX0_restart 0 [some (.ref 24), none] [] σ (fun r σ' => r = none ∧ σ' = x_restart 24 σ) := by
  refine z_aload_n (pc := 0) dX0_restart_0 rfl ?_
  refine z_iconst (pc := 1) (v := (nI 0)) dX0_restart_1 (by decide) ?_
  refine z_putI (pc := 2) f_X0_53 tyX0_ok nmX0 (by decide) rfl (by decide) (by decide) dX0_restart_2 (by decide) rfl rfl ?_
  refine z_iconst (pc := 5) (v := (nI 0)) dX0_restart_5 (by decide) ?_
  refine z_istore_n (pc := 6) dX0_restart_6 (by decide) rfl rfl ?_
  exact c_X0_rs12 (s := 0) (by decide)
end
section
/-! Replay -/
theorem z_ifc {c d : Prop} [Decidable c] [Decidable d] {α : Type} {x y : α} (h : c ↔ d) : (if c then x else y) = if d then x else y := by
  by_cases hc : c
  · rw [if_pos hc, if_pos (h.mp hc)]
  · rw [if_neg hc, if_neg (fun q => hc (h.mpr q))]
def x_log (σ : z_Sto) (n e : Nat) : Prop := ∀ j, j < e → ∃ i w s, i < n ∧ w < 3 ∧ s < 16 ∧ σ 8 j = nI i ∧ σ 9 j = nI w ∧ σ 5 i = nI s
theorem x_log_fr {σ τ : z_Sto} {n e : Nat} (h : x_log σ n e) (h8 : τ 8 = σ 8) (h9 : τ 9 = σ 9) (h5 : τ 5 = σ 5) : x_log τ n e := by
  intro j hj
  rw [h8, h9, h5]
  exact h j hj
def x_g1 (n j : Nat) (σ : z_Sto) : z_Sto := x_take 24 23 (σ 5 (σ 8 j).toNatClampNeg).toNatClampNeg (σ 8 j).toNatClampNeg (σ 9 j).toNatClampNeg n (σ 10 j) σ
def x_gl (n : Nat) : Nat → Nat → z_Sto → z_Sto
  | 0, _, σ => σ
  | f + 1, j, σ => x_gl n f (j + 1) (x_g1 n j σ)
def x_go (n e : Nat) (s o t : Int32) (σ : z_Sto) : z_Sto := x_sa 24 23 n t 16 0 (x_gl n e 0 (x_restart 24 (z_up (z_up (x_copy σ) 23 4 s) 23 5 o)))
theorem x_g1_fr {n j c : Nat} {σ : z_Sto} (h : x_away 24 c) : x_g1 n j σ c = σ c := x_take_fr h
theorem x_gl_fr {n c : Nat} (h : x_away 24 c) : ∀ (f j : Nat) (σ : z_Sto), x_gl n f j σ c = σ c
  | 0, _, _ => rfl
  | f + 1, j, σ => by rw [x_gl, x_gl_fr h f, x_g1_fr h]
theorem x_go_fr {n e c : Nat} {s o t : Int32} {σ : z_Sto} (h : x_away 24 c) (h23 : c ≠ 23) : x_go n e s o t σ c = σ c := by
  have h' := h
  unfold x_away at h'
  rw [x_go, x_sa_fr (by omega), x_gl_fr h, x_restart_fr h, z_up_ne _ _ _ h23, z_up_ne _ _ _ h23]
  simp [x_copy, h23]
set_option maxRecDepth 20000 in
theorem c_X3_gol {σ : z_Sto} {n e j h : Nat} {s o t : Int32} (hn : σ 3 3 = nI n) (h12 : n ≤ 12) (he : σ 7 3 = nI e) (h3 : e ≤ 300) (hlg : x_log σ n e) (hh : σ 23 3 = nI h) (h1 : 1 ≤ h) (h2 : h ≤ 500) (hj : j ≤ e) : z_R layX iX3_goOver 23 [some (.ref 21), some (.int s), some (.int o), some (.int t), some (.int (nI j))] [] σ (fun r σ' => r = none ∧ σ' = x_sa 24 23 n t 16 0 (x_gl n (e - j) j σ)) := by
  generalize hf : e - j = f
  induction f using Nat.strongRecOn generalizing j σ
  rename_i f ih
  refine z_iload (pc := 23) dX3_goOver_23 rfl ?_
  refine z_aload_n (pc := 25) dX3_goOver_25 rfl ?_
  refine z_getA (pc := 26) f_X3_33 dX3_goOver_26 (by decide) rfl rfl ?_
  refine z_cV0 (pc := 29) mX1_size l_X3_53 (by decide) dX3_goOver_29 (by decide) rfl rfl (by decide) (Nat.le_of_ble_eq_true rfl) (c_X1_size) rfl (fun r29 σ29 hr29 => ?_)
  obtain ⟨rfl, rfl⟩ := hr29
  rw [he]
  refine z_icmp_ge (pc := 32) (tgt := 75) dX3_goOver_32 (by decide) (fun h32 => ?_) (fun h32 => ?_)
  · have q32 : f = 0 := by have := (nI_leI (by omega) (by omega)).mp h32; omega
    refine z_aload_n (pc := 75) dX3_goOver_75 rfl ?_
    refine z_getA (pc := 76) f_X3_42 dX3_goOver_76 (by decide) rfl rfl ?_
    refine z_iload_n (pc := 79) dX3_goOver_79 rfl ?_
    refine z_cV1 (pc := 80) mX0_settleAll l_X3_73 (by decide) dX3_goOver_80 (by decide) rfl rfl (by decide) (Nat.le_of_ble_eq_true rfl) (c_X0_settleAll2 hn h12) rfl (fun r80 σ80 hr80 => ?_)
    obtain ⟨er80, eσ80⟩ := hr80
    subst er80
    exact z_return (pc := 83) dX3_goOver_83 rfl (⟨rfl, eσ80.trans (by rw [q32, x_gl])⟩)
  · have q32 : j < e := by have : ¬ e ≤ j := fun q => h32 ((nI_leI (by omega) (by omega)).mpr q); omega
    have hf1 : f = (e - (j + 1)) + 1 := by omega
    obtain ⟨i, w, sl, hi, hw, hsl, e8, e9, e5⟩ := hlg j q32
    have hg : x_g1 n j σ29 = x_take 24 23 sl i w n (σ29 10 j) σ29 := by rw [x_g1, e8, z_cl (by omega), e5, z_cl (by omega), e9, z_cl (by omega)]
    refine z_aload_n (pc := 35) dX3_goOver_35 rfl ?_
    refine z_getA (pc := 36) f_X3_42 dX3_goOver_36 (by decide) rfl rfl ?_
    refine z_aload_n (pc := 39) dX3_goOver_39 rfl ?_
    refine z_getA (pc := 40) f_X3_33 dX3_goOver_40 (by decide) rfl rfl ?_
    refine z_iload (pc := 43) dX3_goOver_43 rfl ?_
    refine z_cV1 (pc := 45) mX1_lineAt l_X3_59 (by decide) dX3_goOver_45 (by decide) rfl rfl (by decide) (Nat.le_of_ble_eq_true rfl) (c_X1_lineAt (by omega)) rfl (fun r45 σ45 hr45 => ?_)
    obtain ⟨rfl, rfl⟩ := hr45
    rw [e8]
    refine z_aload_n (pc := 48) dX3_goOver_48 rfl ?_
    refine z_getA (pc := 49) f_X3_33 dX3_goOver_49 (by decide) rfl rfl ?_
    refine z_iload (pc := 52) dX3_goOver_52 rfl ?_
    refine z_cV1 (pc := 54) mX1_whatAt l_X3_63 (by decide) dX3_goOver_54 (by decide) rfl rfl (by decide) (Nat.le_of_ble_eq_true rfl) (c_X1_whatAt (by omega)) rfl (fun r54 σ54 hr54 => ?_)
    obtain ⟨rfl, rfl⟩ := hr54
    rw [e9]
    refine z_aload_n (pc := 57) dX3_goOver_57 rfl ?_
    refine z_getA (pc := 58) f_X3_33 dX3_goOver_58 (by decide) rfl rfl ?_
    refine z_iload (pc := 61) dX3_goOver_61 rfl ?_
    refine z_cV1 (pc := 63) mX1_tickAt l_X3_66 (by decide) dX3_goOver_63 (by decide) rfl rfl (by decide) (Nat.le_of_ble_eq_true rfl) (c_X1_tickAt (by omega)) rfl (fun r63 σ63 hr63 => ?_)
    obtain ⟨rfl, rfl⟩ := hr63
    refine z_cV3 (pc := 66) mX0_take l_X3_69 (by decide) dX3_goOver_66 (by decide) rfl rfl (by decide) (Nat.le_of_ble_eq_true rfl) (c_X0_take2 (by omega) e5 hsl hn h12 hw hh h1 h2) rfl (fun r66 σ66 hr66 => ?_)
    obtain ⟨rfl, rfl⟩ := hr66
    refine z_iincN (pc := 69) dX3_goOver_69 rfl (by decide) rfl rfl ?_
    refine z_goto (pc := 72) (tgt := 23) dX3_goOver_72 (by decide) ?_
    exact (ih _ (by omega) (j := j + 1) (by rw [x_take_fr (Or.inl (by decide))]; exact hn) (by rw [x_take_fr (Or.inl (by decide))]; exact he) (x_log_fr hlg (x_take_fr (Or.inl (by decide))) (x_take_fr (Or.inl (by decide))) (x_take_fr (Or.inl (by decide)))) (by rw [x_take_fr (Or.inl (by decide))]; exact hh) (by omega) rfl).mono (fun r σ' g => ⟨g.1, g.2.trans (by rw [hf1, x_gl, hg])⟩)
set_option maxRecDepth 20000 in
theorem c_X3_goOver {σ : z_Sto} {n e h : Nat} {s o t : Int32} (hn : σ 3 3 = nI n) (h12 : n ≤ 12) (he : σ 7 3 = nI e) (h3 : e ≤ 300) (hlg : x_log σ n e) (hh : σ 2 3 = nI h) (h1 : 1 ≤ h) (h2 : h ≤ 500) : z_R layX iX3_goOver 0 [some (.ref 21), some (.int s), some (.int o), some (.int t), none] [] σ (fun r σ' => r = none ∧ σ' = x_go n e s o t σ) := by
  have hc : ∀ c, c < 23 → x_restart 24 (z_up (z_up (x_copy σ) 23 4 s) 23 5 o) c = σ c := fun c hc => by rw [x_restart_fr (Or.inl (by omega)), z_up_ne _ _ _ (by omega), z_up_ne _ _ _ (by omega)]; simp [x_copy, Nat.ne_of_lt hc]
  have hv : x_restart 24 (z_up (z_up (x_copy σ) 23 4 s) 23 5 o) 23 3 = nI h := by rw [x_restart_fr (Or.inl (by decide))]; simp [z_up_at, x_copy, hh]
  refine z_aload_n (pc := 0) dX3_goOver_0 rfl ?_
  refine z_getA (pc := 1) f_X3_12 dX3_goOver_1 (by decide) rfl rfl ?_
  refine z_aload_n (pc := 4) dX3_goOver_4 rfl ?_
  refine z_getA (pc := 5) f_X3_26 dX3_goOver_5 (by decide) rfl rfl ?_
  refine z_iload_n (pc := 8) dX3_goOver_8 rfl ?_
  refine z_iload_n (pc := 9) dX3_goOver_9 rfl ?_
  refine z_cV3 (pc := 10) mX5_copyWithMarks l_X3_46 (by decide) dX3_goOver_10 (by decide) rfl rfl (by decide) (Nat.le_of_ble_eq_true rfl) (c_X5_copyWithMarks) rfl (fun r10 σ10 hr10 => ?_)
  obtain ⟨rfl, rfl⟩ := hr10
  refine z_aload_n (pc := 13) dX3_goOver_13 rfl ?_
  refine z_getA (pc := 14) f_X3_42 dX3_goOver_14 (by decide) rfl rfl ?_
  refine z_cV0 (pc := 17) mX0_restart l_X3_50 (by decide) dX3_goOver_17 (by decide) rfl rfl (by decide) (Nat.le_of_ble_eq_true rfl) (c_X0_restart2) rfl (fun r17 σ17 hr17 => ?_)
  obtain ⟨er17, eσ17⟩ := hr17
  subst er17
  rw [← eσ17] at hc hv
  refine z_iconst (pc := 20) (v := (nI 0)) dX3_goOver_20 (by decide) ?_
  refine z_istore (pc := 21) dX3_goOver_21 (by decide) rfl rfl ?_
  exact (c_X3_gol (j := 0) (by rw [hc 3 (by decide)]; exact hn) h12 (by rw [hc 7 (by decide)]; exact he) h3 (x_log_fr hlg (hc 8 (by decide)) (hc 9 (by decide)) (hc 5 (by decide))) hv h1 h2 (by omega)).mono (fun r σ' g => ⟨g.1, g.2.trans (by rw [x_go, eσ17]; rfl)⟩)
set_option maxRecDepth 20000 in
theorem c_X3_flipsOf {σ : z_Sto} {i : Nat} (hi : i < 12) : z_R layX iX3_flipsOf 0 [some (.ref 21), some (.int (nI i))] [] σ (fun r σ' => r = some (.int (σ 31 i)) ∧ σ' = σ) := by
  refine z_aload_n (pc := 0) dX3_flipsOf_0 rfl ?_
  refine z_getA (pc := 1) f_X3_42 dX3_flipsOf_1 (by decide) rfl rfl ?_
  refine z_iload_n (pc := 4) dX3_flipsOf_4 rfl ?_
  refine z_cV1 (pc := 5) mX0_flipsOf l_X3_77 (by decide) dX3_flipsOf_5 (by decide) rfl rfl (by decide) (Nat.le_of_ble_eq_true rfl) (c_X0_flipsOf2 hi) rfl (fun r5 σ5 hr5 => ?_)
  obtain ⟨rfl, rfl⟩ := hr5
  exact z_ireturn (pc := 8) dX3_flipsOf_8 rfl rfl (⟨rfl, rfl⟩)
set_option maxRecDepth 20000 in
theorem c_X3_lostOf {σ : z_Sto} {i : Nat} (hi : i < 12) : z_R layX iX3_lostOf 0 [some (.ref 21), some (.int (nI i))] [] σ (fun r σ' => r = some (.int (σ 32 i)) ∧ σ' = σ) := by
  refine z_aload_n (pc := 0) dX3_lostOf_0 rfl ?_
  refine z_getA (pc := 1) f_X3_42 dX3_lostOf_1 (by decide) rfl rfl ?_
  refine z_iload_n (pc := 4) dX3_lostOf_4 rfl ?_
  refine z_cV1 (pc := 5) mX0_lostOf l_X3_80 (by decide) dX3_lostOf_5 (by decide) rfl rfl (by decide) (Nat.le_of_ble_eq_true rfl) (c_X0_lostOf2 hi) rfl (fun r5 σ5 hr5 => ?_)
  obtain ⟨rfl, rfl⟩ := hr5
  exact z_ireturn (pc := 8) dX3_lostOf_8 rfl rfl (⟨rfl, rfl⟩)
def x_keep (m : Int32) (tr : Nat) (σ : z_Sto) : z_Sto := if tr < 420 then z_up (z_up σ 34 tr m) 21 6 (nI (tr + 1)) else σ
set_option maxRecDepth 20000 in
theorem c_X3_keep {σ : z_Sto} {m : Int32} {tr : Nat} (ht : σ 21 6 = nI tr) (h4 : tr ≤ 420) : z_R layX iX3_keep 0 [some (.ref 21), some (.int m)] [] σ (fun r σ' => r = none ∧ σ' = x_keep m tr σ) := by
  refine z_aload_n (pc := 0) dX3_keep_0 rfl ?_
  refine z_getI (pc := 1) f_X3_22 dX3_keep_1 (by decide) rfl rfl ?_
  rw [ht]
  refine z_aload_n (pc := 4) dX3_keep_4 rfl ?_
  refine z_getA (pc := 5) f_X3_18 dX3_keep_5 (by decide) rfl rfl ?_
  refine z_alenI (pc := 8) dX3_keep_8 (by decide) rfl ?_
  refine z_icmp_ge (pc := 9) (tgt := 32) dX3_keep_9 (by decide) (fun h9 => ?_) (fun h9 => ?_)
  · have q9 : ¬ tr < 420 := by have := (nI_leI (a := 420) (b := tr) (by decide) (by omega)).mp h9; omega
    exact z_return (pc := 32) dX3_keep_32 rfl (⟨rfl, by simp only [x_keep, q9, if_true, if_false]⟩)
  · have q9 : tr < 420 := by have : ¬ 420 ≤ tr := fun q => h9 ((nI_leI (a := 420) (b := tr) (by decide) (by omega)).mpr q); omega
    refine z_aload_n (pc := 12) dX3_keep_12 rfl ?_
    refine z_getA (pc := 13) f_X3_18 dX3_keep_13 (by decide) rfl rfl ?_
    refine z_aload_n (pc := 16) dX3_keep_16 rfl ?_
    refine z_getI (pc := 17) f_X3_22 dX3_keep_17 (by decide) rfl rfl ?_
    rw [ht]
    refine z_iload_n (pc := 20) dX3_keep_20 rfl ?_
    refine z_iastN (pc := 21) dX3_keep_21 (by decide) rfl (by decide) (q9) ?_
    refine z_aload_n (pc := 22) dX3_keep_22 rfl ?_
    refine z_dup_a (pc := 23) dX3_keep_23 ?_
    refine z_getI (pc := 24) f_X3_22 dX3_keep_24 (by decide) rfl rfl ?_
    simp only [z_up_at, reduceIte, Nat.reduceEqDiff, ht]
    refine z_iconst (pc := 27) (v := (nI 1)) dX3_keep_27 (by decide) ?_
    refine z_iaddN (pc := 28) dX3_keep_28 ?_
    refine z_putI (pc := 29) f_X3_22 tyX3_ok nmX3 (by decide) rfl rfl rfl dX3_keep_29 (by decide) rfl rfl ?_
    exact z_return (pc := 32) dX3_keep_32 rfl (⟨rfl, by simp only [x_keep, q9, if_true, if_false]⟩)
def x_m1 (q : Int32) (σ : z_Sto) (i : Nat) (b : Int32) : Int32 := if (σ 6 i = nI 1 ∧ σ 32 i = 0) ∨ (σ 6 i = nI 2 ∧ σ 31 i ≤ q) then b ||| (nI 1 <<< (nI i &&& 31)) else b
def x_met (q : Int32) (σ : z_Sto) : Nat → Nat → Int32 → Int32
  | 0, _, b => b
  | f + 1, i, b => x_met q σ f (i + 1) (x_m1 q σ i b)
set_option maxRecDepth 20000 in
theorem c_X3_met74 {σ : z_Sto} {q b v4 v5 v6 : Int32} {i : Nat} {Φ : z_Post} (K : ∀ b', b' = (if ¬ v5 = 0 ∨ ¬ v6 = 0 then b ||| (nI 1 <<< (nI i &&& 31)) else b) → z_R layX iX3_metLines 4 [some (.ref 21), some (.int q), some (.int b'), some (.int (nI (i + 1))), some (.int v4), some (.int v5), some (.int v6)] [] σ Φ) : z_R layX iX3_metLines 74 [some (.ref 21), some (.int q), some (.int b), some (.int (nI i)), some (.int v4), some (.int v5), some (.int v6)] [] σ Φ := by
  refine z_iload (pc := 74) dX3_metLines_74 rfl ?_
  refine z_if_ne (pc := 76) (tgt := 84) dX3_metLines_76 (by decide) (fun h76 => ?_) (fun h76 => ?_)
  · refine z_iload_n (pc := 84) dX3_metLines_84 rfl ?_
    refine z_iconst (pc := 85) (v := (nI 1)) dX3_metLines_85 (by decide) ?_
    refine z_iload_n (pc := 86) dX3_metLines_86 rfl ?_
    refine z_ishl (pc := 87) dX3_metLines_87 ?_
    refine z_ior (pc := 88) dX3_metLines_88 ?_
    refine z_istore_n (pc := 89) dX3_metLines_89 (by decide) rfl rfl ?_
    refine z_iincN (pc := 90) dX3_metLines_90 rfl (by decide) rfl rfl ?_
    refine z_goto (pc := 93) (tgt := 4) dX3_metLines_93 (by decide) ?_
    exact K _ (by first | exact (if_pos (Or.inl h76)).symm | exact (if_pos (Or.inr h81)).symm | exact (if_neg (fun g => g.elim (fun g => g h76) (fun g => g h81))).symm)
  · refine z_iload (pc := 79) dX3_metLines_79 rfl ?_
    refine z_if_eq (pc := 81) (tgt := 90) dX3_metLines_81 (by decide) (fun h81 => ?_) (fun h81 => ?_)
    · refine z_iincN (pc := 90) dX3_metLines_90 rfl (by decide) rfl rfl ?_
      refine z_goto (pc := 93) (tgt := 4) dX3_metLines_93 (by decide) ?_
      exact K _ (by first | exact (if_pos (Or.inl h76)).symm | exact (if_pos (Or.inr h81)).symm | exact (if_neg (fun g => g.elim (fun g => g h76) (fun g => g h81))).symm)
    · refine z_iload_n (pc := 84) dX3_metLines_84 rfl ?_
      refine z_iconst (pc := 85) (v := (nI 1)) dX3_metLines_85 (by decide) ?_
      refine z_iload_n (pc := 86) dX3_metLines_86 rfl ?_
      refine z_ishl (pc := 87) dX3_metLines_87 ?_
      refine z_ior (pc := 88) dX3_metLines_88 ?_
      refine z_istore_n (pc := 89) dX3_metLines_89 (by decide) rfl rfl ?_
      refine z_iincN (pc := 90) dX3_metLines_90 rfl (by decide) rfl rfl ?_
      refine z_goto (pc := 93) (tgt := 4) dX3_metLines_93 (by decide) ?_
      exact K _ (by first | exact (if_pos (Or.inl h76)).symm | exact (if_pos (Or.inr h81)).symm | exact (if_neg (fun g => g.elim (fun g => g h76) (fun g => g h81))).symm)
set_option maxRecDepth 20000 in
theorem c_X3_metl {σ : z_Sto} {q b : Int32} {n i : Nat} {v4 v5 v6 : Option Value} (hn : σ 3 3 = nI n) (h12 : n ≤ 12) (hi : i ≤ n) : z_R layX iX3_metLines 4 [some (.ref 21), some (.int q), some (.int b), some (.int (nI i)), v4, v5, v6] [] σ (fun r σ' => r = some (.int (x_met q σ (n - i) i b)) ∧ σ' = σ) := by
  generalize hf : n - i = f
  induction f using Nat.strongRecOn generalizing i b v4 v5 v6
  rename_i f ih
  refine z_iload_n (pc := 4) dX3_metLines_4 rfl ?_
  refine z_aload_n (pc := 5) dX3_metLines_5 rfl ?_
  refine z_getA (pc := 6) f_X3_29 dX3_metLines_6 (by decide) rfl rfl ?_
  refine z_cV0 (pc := 9) mX4_size l_X3_105 (by decide) dX3_metLines_9 (by decide) rfl rfl (by decide) (Nat.le_of_ble_eq_true rfl) (c_X4_size) rfl (fun r9 σ9 hr9 => ?_)
  obtain ⟨rfl, rfl⟩ := hr9
  rw [hn]
  refine z_icmp_ge (pc := 12) (tgt := 96) dX3_metLines_12 (by decide) (fun h12 => ?_) (fun h12 => ?_)
  · have q12 : f = 0 := by have := (nI_leI (by omega) (by omega)).mp h12; omega
    refine z_iload_n (pc := 96) dX3_metLines_96 rfl ?_
    exact z_ireturn (pc := 97) dX3_metLines_97 rfl rfl (⟨by rw [q12]; rfl, rfl⟩)
  · have q12 : i < n := by have : ¬ n ≤ i := fun q => h12 ((nI_leI (by omega) (by omega)).mpr q); omega
    have hf1 : f = (n - (i + 1)) + 1 := by omega
    refine z_aload_n (pc := 15) dX3_metLines_15 rfl ?_
    refine z_getA (pc := 16) f_X3_29 dX3_metLines_16 (by decide) rfl rfl ?_
    refine z_iload_n (pc := 19) dX3_metLines_19 rfl ?_
    refine z_cV1 (pc := 20) mX4_markOf l_X3_106 (by decide) dX3_metLines_20 (by decide) rfl rfl (by decide) (Nat.le_of_ble_eq_true rfl) (c_X4_markOf (by omega)) rfl (fun r20 σ20 hr20 => ?_)
    obtain ⟨rfl, rfl⟩ := hr20
    refine z_istore (pc := 23) dX3_metLines_23 (by decide) rfl rfl ?_
    refine z_iload (pc := 25) dX3_metLines_25 rfl ?_
    refine z_iconst (pc := 27) (v := (nI 1)) dX3_metLines_27 (by decide) ?_
    refine z_icmp_ne (pc := 28) (tgt := 46) dX3_metLines_28 (by decide) (fun h28 => ?_) (fun h28 => ?_)
    · have t5 : (¬ nI 0 = 0) ↔ (σ20 6 i = nI 1 ∧ σ20 32 i = 0) := ⟨fun g => absurd rfl g, fun g => absurd g.1 h28⟩
      refine z_iconst (pc := 46) (v := (nI 0)) dX3_metLines_46 (by decide) ?_
      refine z_istore (pc := 47) dX3_metLines_47 (by decide) rfl rfl ?_
      refine z_iload (pc := 49) dX3_metLines_49 rfl ?_
      refine z_iconst (pc := 51) (v := (nI 2)) dX3_metLines_51 (by decide) ?_
      refine z_icmp_ne (pc := 52) (tgt := 71) dX3_metLines_52 (by decide) (fun h52 => ?_) (fun h52 => ?_)
      · have t6 := fun (y : Int32) => (⟨fun g => absurd rfl g, fun g => absurd g.1 h52⟩ : (¬ nI 0 = 0) ↔ (_ ∧ y ≤ q))
        refine z_iconst (pc := 71) (v := (nI 0)) dX3_metLines_71 (by decide) ?_
        refine z_istore (pc := 72) dX3_metLines_72 (by decide) rfl rfl ?_
        exact c_X3_met74 (fun b' hb => (ih _ (by omega) (i := i + 1) (by omega) rfl).mono (fun r σ' g => ⟨g.1.trans (by rw [hf1, x_met]; exact congrArg (fun z => some (Value.int (x_met q _ (n - (i + 1)) (i + 1) z))) (by first | exact hb.trans (z_ifc (or_congr t5 t6)) | exact hb.trans (z_ifc (or_congr t5 (t6 _))))), g.2⟩))
      · refine z_aload_n (pc := 55) dX3_metLines_55 rfl ?_
        refine z_getA (pc := 56) f_X3_42 dX3_metLines_56 (by decide) rfl rfl ?_
        refine z_iload_n (pc := 59) dX3_metLines_59 rfl ?_
        refine z_cV1 (pc := 60) mX0_flipsOf l_X3_77 (by decide) dX3_metLines_60 (by decide) rfl rfl (by decide) (Nat.le_of_ble_eq_true rfl) (c_X0_flipsOf2 (by omega)) rfl (fun r60 σ60 hr60 => ?_)
        obtain ⟨rfl, rfl⟩ := hr60
        refine z_iload_n (pc := 63) dX3_metLines_63 rfl ?_
        refine z_icmp_gt (pc := 64) (tgt := 71) dX3_metLines_64 (by decide) (fun h64 => ?_) (fun h64 => ?_)
        · have t6 : (¬ nI 0 = 0) ↔ (σ60 6 i = nI 2 ∧ σ60 31 i ≤ q) := ⟨fun g => absurd rfl g, fun g => absurd g.2 (z_nle h64)⟩
          refine z_iconst (pc := 71) (v := (nI 0)) dX3_metLines_71 (by decide) ?_
          refine z_istore (pc := 72) dX3_metLines_72 (by decide) rfl rfl ?_
          exact c_X3_met74 (fun b' hb => (ih _ (by omega) (i := i + 1) (by omega) rfl).mono (fun r σ' g => ⟨g.1.trans (by rw [hf1, x_met]; exact congrArg (fun z => some (Value.int (x_met q _ (n - (i + 1)) (i + 1) z))) (by first | exact hb.trans (z_ifc (or_congr t5 t6)) | exact hb.trans (z_ifc (or_congr t5 (t6 _))))), g.2⟩))
        · have t6 : (¬ nI 1 = 0) ↔ (σ60 6 i = nI 2 ∧ σ60 31 i ≤ q) := ⟨fun _ => ⟨h52, z_nlt h64⟩, fun _ => by decide⟩
          refine z_iconst (pc := 67) (v := (nI 1)) dX3_metLines_67 (by decide) ?_
          refine z_goto (pc := 68) (tgt := 72) dX3_metLines_68 (by decide) ?_
          refine z_istore (pc := 72) dX3_metLines_72 (by decide) rfl rfl ?_
          exact c_X3_met74 (fun b' hb => (ih _ (by omega) (i := i + 1) (by omega) rfl).mono (fun r σ' g => ⟨g.1.trans (by rw [hf1, x_met]; exact congrArg (fun z => some (Value.int (x_met q _ (n - (i + 1)) (i + 1) z))) (by first | exact hb.trans (z_ifc (or_congr t5 t6)) | exact hb.trans (z_ifc (or_congr t5 (t6 _))))), g.2⟩))
    · refine z_aload_n (pc := 31) dX3_metLines_31 rfl ?_
      refine z_getA (pc := 32) f_X3_42 dX3_metLines_32 (by decide) rfl rfl ?_
      refine z_iload_n (pc := 35) dX3_metLines_35 rfl ?_
      refine z_cV1 (pc := 36) mX0_lostOf l_X3_80 (by decide) dX3_metLines_36 (by decide) rfl rfl (by decide) (Nat.le_of_ble_eq_true rfl) (c_X0_lostOf2 (by omega)) rfl (fun r36 σ36 hr36 => ?_)
      obtain ⟨rfl, rfl⟩ := hr36
      refine z_if_ne (pc := 39) (tgt := 46) dX3_metLines_39 (by decide) (fun h39 => ?_) (fun h39 => ?_)
      · have t5 : (¬ nI 0 = 0) ↔ (σ36 6 i = nI 1 ∧ σ36 32 i = 0) := ⟨fun g => absurd rfl g, fun g => absurd g.2 h39⟩
        refine z_iconst (pc := 46) (v := (nI 0)) dX3_metLines_46 (by decide) ?_
        refine z_istore (pc := 47) dX3_metLines_47 (by decide) rfl rfl ?_
        refine z_iload (pc := 49) dX3_metLines_49 rfl ?_
        refine z_iconst (pc := 51) (v := (nI 2)) dX3_metLines_51 (by decide) ?_
        refine z_icmp_ne (pc := 52) (tgt := 71) dX3_metLines_52 (by decide) (fun h52 => ?_) (fun h52 => ?_)
        · have t6 := fun (y : Int32) => (⟨fun g => absurd rfl g, fun g => absurd g.1 h52⟩ : (¬ nI 0 = 0) ↔ (_ ∧ y ≤ q))
          refine z_iconst (pc := 71) (v := (nI 0)) dX3_metLines_71 (by decide) ?_
          refine z_istore (pc := 72) dX3_metLines_72 (by decide) rfl rfl ?_
          exact c_X3_met74 (fun b' hb => (ih _ (by omega) (i := i + 1) (by omega) rfl).mono (fun r σ' g => ⟨g.1.trans (by rw [hf1, x_met]; exact congrArg (fun z => some (Value.int (x_met q _ (n - (i + 1)) (i + 1) z))) (by first | exact hb.trans (z_ifc (or_congr t5 t6)) | exact hb.trans (z_ifc (or_congr t5 (t6 _))))), g.2⟩))
        · refine z_aload_n (pc := 55) dX3_metLines_55 rfl ?_
          refine z_getA (pc := 56) f_X3_42 dX3_metLines_56 (by decide) rfl rfl ?_
          refine z_iload_n (pc := 59) dX3_metLines_59 rfl ?_
          refine z_cV1 (pc := 60) mX0_flipsOf l_X3_77 (by decide) dX3_metLines_60 (by decide) rfl rfl (by decide) (Nat.le_of_ble_eq_true rfl) (c_X0_flipsOf2 (by omega)) rfl (fun r60 σ60 hr60 => ?_)
          obtain ⟨rfl, rfl⟩ := hr60
          refine z_iload_n (pc := 63) dX3_metLines_63 rfl ?_
          refine z_icmp_gt (pc := 64) (tgt := 71) dX3_metLines_64 (by decide) (fun h64 => ?_) (fun h64 => ?_)
          · have t6 : (¬ nI 0 = 0) ↔ (σ60 6 i = nI 2 ∧ σ60 31 i ≤ q) := ⟨fun g => absurd rfl g, fun g => absurd g.2 (z_nle h64)⟩
            refine z_iconst (pc := 71) (v := (nI 0)) dX3_metLines_71 (by decide) ?_
            refine z_istore (pc := 72) dX3_metLines_72 (by decide) rfl rfl ?_
            exact c_X3_met74 (fun b' hb => (ih _ (by omega) (i := i + 1) (by omega) rfl).mono (fun r σ' g => ⟨g.1.trans (by rw [hf1, x_met]; exact congrArg (fun z => some (Value.int (x_met q _ (n - (i + 1)) (i + 1) z))) (by first | exact hb.trans (z_ifc (or_congr t5 t6)) | exact hb.trans (z_ifc (or_congr t5 (t6 _))))), g.2⟩))
          · have t6 : (¬ nI 1 = 0) ↔ (σ60 6 i = nI 2 ∧ σ60 31 i ≤ q) := ⟨fun _ => ⟨h52, z_nlt h64⟩, fun _ => by decide⟩
            refine z_iconst (pc := 67) (v := (nI 1)) dX3_metLines_67 (by decide) ?_
            refine z_goto (pc := 68) (tgt := 72) dX3_metLines_68 (by decide) ?_
            refine z_istore (pc := 72) dX3_metLines_72 (by decide) rfl rfl ?_
            exact c_X3_met74 (fun b' hb => (ih _ (by omega) (i := i + 1) (by omega) rfl).mono (fun r σ' g => ⟨g.1.trans (by rw [hf1, x_met]; exact congrArg (fun z => some (Value.int (x_met q _ (n - (i + 1)) (i + 1) z))) (by first | exact hb.trans (z_ifc (or_congr t5 t6)) | exact hb.trans (z_ifc (or_congr t5 (t6 _))))), g.2⟩))
      · have t5 : (¬ nI 1 = 0) ↔ (σ36 6 i = nI 1 ∧ σ36 32 i = 0) := ⟨fun _ => ⟨h28, h39⟩, fun _ => by decide⟩
        refine z_iconst (pc := 42) (v := (nI 1)) dX3_metLines_42 (by decide) ?_
        refine z_goto (pc := 43) (tgt := 47) dX3_metLines_43 (by decide) ?_
        refine z_istore (pc := 47) dX3_metLines_47 (by decide) rfl rfl ?_
        refine z_iload (pc := 49) dX3_metLines_49 rfl ?_
        refine z_iconst (pc := 51) (v := (nI 2)) dX3_metLines_51 (by decide) ?_
        refine z_icmp_ne (pc := 52) (tgt := 71) dX3_metLines_52 (by decide) (fun h52 => ?_) (fun h52 => ?_)
        · have t6 := fun (y : Int32) => (⟨fun g => absurd rfl g, fun g => absurd g.1 h52⟩ : (¬ nI 0 = 0) ↔ (_ ∧ y ≤ q))
          refine z_iconst (pc := 71) (v := (nI 0)) dX3_metLines_71 (by decide) ?_
          refine z_istore (pc := 72) dX3_metLines_72 (by decide) rfl rfl ?_
          exact c_X3_met74 (fun b' hb => (ih _ (by omega) (i := i + 1) (by omega) rfl).mono (fun r σ' g => ⟨g.1.trans (by rw [hf1, x_met]; exact congrArg (fun z => some (Value.int (x_met q _ (n - (i + 1)) (i + 1) z))) (by first | exact hb.trans (z_ifc (or_congr t5 t6)) | exact hb.trans (z_ifc (or_congr t5 (t6 _))))), g.2⟩))
        · refine z_aload_n (pc := 55) dX3_metLines_55 rfl ?_
          refine z_getA (pc := 56) f_X3_42 dX3_metLines_56 (by decide) rfl rfl ?_
          refine z_iload_n (pc := 59) dX3_metLines_59 rfl ?_
          refine z_cV1 (pc := 60) mX0_flipsOf l_X3_77 (by decide) dX3_metLines_60 (by decide) rfl rfl (by decide) (Nat.le_of_ble_eq_true rfl) (c_X0_flipsOf2 (by omega)) rfl (fun r60 σ60 hr60 => ?_)
          obtain ⟨rfl, rfl⟩ := hr60
          refine z_iload_n (pc := 63) dX3_metLines_63 rfl ?_
          refine z_icmp_gt (pc := 64) (tgt := 71) dX3_metLines_64 (by decide) (fun h64 => ?_) (fun h64 => ?_)
          · have t6 : (¬ nI 0 = 0) ↔ (σ60 6 i = nI 2 ∧ σ60 31 i ≤ q) := ⟨fun g => absurd rfl g, fun g => absurd g.2 (z_nle h64)⟩
            refine z_iconst (pc := 71) (v := (nI 0)) dX3_metLines_71 (by decide) ?_
            refine z_istore (pc := 72) dX3_metLines_72 (by decide) rfl rfl ?_
            exact c_X3_met74 (fun b' hb => (ih _ (by omega) (i := i + 1) (by omega) rfl).mono (fun r σ' g => ⟨g.1.trans (by rw [hf1, x_met]; exact congrArg (fun z => some (Value.int (x_met q _ (n - (i + 1)) (i + 1) z))) (by first | exact hb.trans (z_ifc (or_congr t5 t6)) | exact hb.trans (z_ifc (or_congr t5 (t6 _))))), g.2⟩))
          · have t6 : (¬ nI 1 = 0) ↔ (σ60 6 i = nI 2 ∧ σ60 31 i ≤ q) := ⟨fun _ => ⟨h52, z_nlt h64⟩, fun _ => by decide⟩
            refine z_iconst (pc := 67) (v := (nI 1)) dX3_metLines_67 (by decide) ?_
            refine z_goto (pc := 68) (tgt := 72) dX3_metLines_68 (by decide) ?_
            refine z_istore (pc := 72) dX3_metLines_72 (by decide) rfl rfl ?_
            exact c_X3_met74 (fun b' hb => (ih _ (by omega) (i := i + 1) (by omega) rfl).mono (fun r σ' g => ⟨g.1.trans (by rw [hf1, x_met]; exact congrArg (fun z => some (Value.int (x_met q _ (n - (i + 1)) (i + 1) z))) (by first | exact hb.trans (z_ifc (or_congr t5 t6)) | exact hb.trans (z_ifc (or_congr t5 (t6 _))))), g.2⟩))
set_option maxRecDepth 20000 in
theorem c_X3_metLines {σ : z_Sto} {q : Int32} {n : Nat} (hn : σ 3 3 = nI n) (h12 : n ≤ 12) : z_R layX iX3_metLines 0 [some (.ref 21), some (.int q), none, none, none, none, none] [] σ (fun r σ' => r = some (.int (x_met q σ n 0 (nI 0))) ∧ σ' = σ) := by
  refine z_iconst (pc := 0) (v := (nI 0)) dX3_metLines_0 (by decide) ?_
  refine z_istore_n (pc := 1) dX3_metLines_1 (by decide) rfl rfl ?_
  refine z_iconst (pc := 2) (v := (nI 0)) dX3_metLines_2 (by decide) ?_
  refine z_istore_n (pc := 3) dX3_metLines_3 (by decide) rfl rfl ?_
  exact c_X3_metl (i := 0) hn h12 (by omega)
def x_cm (both : Int32) (σ : z_Sto) : Nat → Nat → Int32
  | 0, _ => nI 0
  | f + 1, j => if σ 34 j &&& both = both then nI 1 else x_cm both σ f (j + 1)
theorem x_cm01 (both : Int32) (σ : z_Sto) : ∀ f j, x_cm both σ f j = nI 0 ∨ x_cm both σ f j = nI 1
  | 0, _ => Or.inl rfl
  | f + 1, j => by
    rw [x_cm]
    split
    · exact Or.inr rfl
    · exact x_cm01 both σ f (j + 1)
set_option maxRecDepth 20000 in
theorem c_X3_cml {σ : z_Sto} {a b both : Int32} {tr j : Nat} (ht : σ 21 6 = nI tr) (h4 : tr ≤ 420) (hj : j ≤ tr) : z_R layX iX3_canMeet 11 [some (.ref 21), some (.int a), some (.int b), some (.int both), some (.int (nI j))] [] σ (fun r σ' => r = some (.int (x_cm both σ (tr - j) j)) ∧ σ' = σ) := by
  generalize hf : tr - j = f
  induction f using Nat.strongRecOn generalizing j
  rename_i f ih
  refine z_iload (pc := 11) dX3_canMeet_11 rfl ?_
  refine z_aload_n (pc := 13) dX3_canMeet_13 rfl ?_
  refine z_getI (pc := 14) f_X3_22 dX3_canMeet_14 (by decide) rfl rfl ?_
  rw [ht]
  refine z_icmp_ge (pc := 17) (tgt := 41) dX3_canMeet_17 (by decide) (fun h17 => ?_) (fun h17 => ?_)
  · have q17 : f = 0 := by have := (nI_leI (by omega) (by omega)).mp h17; omega
    refine z_iconst (pc := 41) (v := (nI 0)) dX3_canMeet_41 (by decide) ?_
    exact z_ireturn (pc := 42) dX3_canMeet_42 rfl (by decide) (⟨by rw [q17]; rfl, rfl⟩)
  · have q17 : j < tr := by have : ¬ tr ≤ j := fun q => h17 ((nI_leI (by omega) (by omega)).mpr q); omega
    have hf1 : f = (tr - (j + 1)) + 1 := by omega
    refine z_aload_n (pc := 20) dX3_canMeet_20 rfl ?_
    refine z_getA (pc := 21) f_X3_18 dX3_canMeet_21 (by decide) rfl rfl ?_
    refine z_iload (pc := 24) dX3_canMeet_24 rfl ?_
    refine z_ialdN (pc := 26) dX3_canMeet_26 (by decide) rfl (by decide) (by omega) ?_
    refine z_iload_n (pc := 27) dX3_canMeet_27 rfl ?_
    refine z_iand (pc := 28) dX3_canMeet_28 ?_
    refine z_iload_n (pc := 29) dX3_canMeet_29 rfl ?_
    refine z_icmp_ne (pc := 30) (tgt := 35) dX3_canMeet_30 (by decide) (fun h30 => ?_) (fun h30 => ?_)
    · refine z_iincN (pc := 35) dX3_canMeet_35 rfl (by decide) rfl rfl ?_
      refine z_goto (pc := 38) (tgt := 11) dX3_canMeet_38 (by decide) ?_
      exact (ih _ (by omega) (j := j + 1) (by omega) rfl).mono (fun r σ' g => ⟨g.1.trans (by rw [hf1, x_cm, if_neg h30]), g.2⟩)
    · refine z_iconst (pc := 33) (v := (nI 1)) dX3_canMeet_33 (by decide) ?_
      exact z_ireturn (pc := 34) dX3_canMeet_34 rfl (by decide) (⟨by rw [hf1, x_cm, if_pos h30], rfl⟩)
def x_both (a b : Nat) : Int32 := (nI 1 <<< (nI a &&& 31)) ||| (nI 1 <<< (nI b &&& 31))
set_option maxRecDepth 20000 in
theorem c_X3_canMeet {σ : z_Sto} {a b tr : Nat} (ht : σ 21 6 = nI tr) (h4 : tr ≤ 420) : z_R layX iX3_canMeet 0 [some (.ref 21), some (.int (nI a)), some (.int (nI b)), none, none] [] σ (fun r σ' => r = some (.int (x_cm (x_both a b) σ tr 0)) ∧ σ' = σ) := by
  refine z_iconst (pc := 0) (v := (nI 1)) dX3_canMeet_0 (by decide) ?_
  refine z_iload_n (pc := 1) dX3_canMeet_1 rfl ?_
  refine z_ishl (pc := 2) dX3_canMeet_2 ?_
  refine z_iconst (pc := 3) (v := (nI 1)) dX3_canMeet_3 (by decide) ?_
  refine z_iload_n (pc := 4) dX3_canMeet_4 rfl ?_
  refine z_ishl (pc := 5) dX3_canMeet_5 ?_
  refine z_ior (pc := 6) dX3_canMeet_6 ?_
  refine z_istore_n (pc := 7) dX3_canMeet_7 (by decide) rfl rfl ?_
  refine z_iconst (pc := 8) (v := (nI 0)) dX3_canMeet_8 (by decide) ?_
  refine z_istore (pc := 9) dX3_canMeet_9 (by decide) rfl rfl ?_
  exact c_X3_cml (j := 0) ht h4 (by omega)
set_option maxRecDepth 20000 in
theorem c_X3_told {σ : z_Sto} {a b : Nat} : z_R layX iX3_told 0 [some (.int (nI a)), some (.int (nI b))] [] σ (fun r σ' => r = some (.int (-1000 - nI (a * 16 + b))) ∧ σ' = σ) := by
  refine z_sipush (pc := 0) (v := (-1000)) dX3_told_0 (by decide) ?_
  refine z_iload_n (pc := 3) dX3_told_3 rfl ?_
  refine z_bipush (pc := 4) (v := (nI 16)) dX3_told_4 (by decide) ?_
  refine z_imulN (pc := 6) dX3_told_6 ?_
  refine z_iload_n (pc := 7) dX3_told_7 rfl ?_
  refine z_iaddN (pc := 8) dX3_told_8 ?_
  refine z_isub (pc := 9) dX3_told_9 ?_
  exact z_ireturn (pc := 10) dX3_told_10 rfl rfl (⟨rfl, rfl⟩)
end
section
/-! Replay: conflict, findMarks -/
theorem z_iincWN {lay : z_Lay} {mi : z_MI} {pc : Nat} {L L' : z_Loc} {st : List Value} {σ : z_Sto} {Φ : z_Post} {i x : Nat} (m : Nat) {k : Int} (hd : decode mi.2.1 pc = .ok (.iinc i k, 6)) (hm : Int32.ofInt k = nI m) (hx : L[i]? = some (some (.int (nI x)))) (hn : i < mi.2.2.1) (h2 : z_ok1 L i = true) (hL' : L.set i (some (.int (nI (x + m)))) = L') (kk : z_R lay mi (pc + 6) L' st σ Φ) : z_R lay mi pc L st σ Φ := z_iincW hd hx hn h2 (by rw [hm, nI_add]; exact hL') kk
def x_told (i k : Nat) : Int32 := -1000 - nI (i * 16 + k)
def x_cf3 (σ : z_Sto) (tr i : Nat) : Nat → Nat → Option Int32
  | 0, _ => none
  | f + 1, k => if (σ 6 i = nI 1 ∧ σ 6 k = nI 2) ∧ x_cm (x_both i k) σ tr 0 = 0 then some (x_told i k) else x_cf3 σ tr i f (k + 1)
theorem x_cf3_no {σ : z_Sto} {tr i f k : Nat} (h : ¬ ((σ 6 i = nI 1 ∧ σ 6 k = nI 2) ∧ x_cm (x_both i k) σ tr 0 = 0)) : x_cf3 σ tr i (f + 1) k = x_cf3 σ tr i f (k + 1) := by rw [x_cf3, if_neg h]
def x_cf2 (σ : z_Sto) (n tr : Nat) : Nat → Nat → Int32
  | 0, _ => -999
  | f + 1, i => match x_cf3 σ tr i n 0 with
    | some v => v
    | none => x_cf2 σ n tr f (i + 1)
def x_cf1 (σ : z_Sto) (n tr : Nat) : Nat → Nat → Int32
  | 0, _ => x_cf2 σ n tr n 0
  | f + 1, i => if ¬ σ 6 i = 0 ∧ x_cm (x_both i i) σ tr 0 = 0 then x_told i i else x_cf1 σ n tr f (i + 1)
set_option maxRecDepth 20000 in
theorem c_X3_cf101 {σ : z_Sto} {i k tr : Nat} {v3 : Int32} {Φ : z_Post} (ht : σ 21 6 = nI tr) (h4 : tr ≤ 420) (hret : (¬ v3 = 0) ∧ x_cm (x_both i k) σ tr 0 = 0 → Φ (some (.int (x_told i k))) σ) (K : ¬ ((¬ v3 = 0) ∧ x_cm (x_both i k) σ tr 0 = 0) → z_R layX iX3_conflict 60 [some (.ref 21), some (.int (nI i)), some (.int (nI (k + 1))), some (.int v3)] [] σ Φ) : z_R layX iX3_conflict 101 [some (.ref 21), some (.int (nI i)), some (.int (nI k)), some (.int v3)] [] σ Φ := by
  refine z_iload_n (pc := 101) dX3_conflict_101 rfl ?_
  refine z_if_eq (pc := 102) (tgt := 120) dX3_conflict_102 (by decide) (fun h102 => ?_) (fun h102 => ?_)
  · refine z_iincN (pc := 120) dX3_conflict_120 rfl (by decide) rfl rfl ?_
    refine z_goto (pc := 123) (tgt := 60) dX3_conflict_123 (by decide) ?_
    exact K (by first | exact fun g => g.1 h102 | exact fun g => h111 g.2)
  · refine z_aload_n (pc := 105) dX3_conflict_105 rfl ?_
    refine z_iload_n (pc := 106) dX3_conflict_106 rfl ?_
    refine z_iload_n (pc := 107) dX3_conflict_107 rfl ?_
    refine z_cV2 (pc := 108) mX3_canMeet l_X3_109 (by decide) dX3_conflict_108 (by decide) rfl rfl (by decide) (Nat.le_of_ble_eq_true rfl) (c_X3_canMeet ht h4) rfl (fun r108 σ108 hr108 => ?_)
    obtain ⟨rfl, rfl⟩ := hr108
    refine z_if_ne (pc := 111) (tgt := 120) dX3_conflict_111 (by decide) (fun h111 => ?_) (fun h111 => ?_)
    · refine z_iincN (pc := 120) dX3_conflict_120 rfl (by decide) rfl rfl ?_
      refine z_goto (pc := 123) (tgt := 60) dX3_conflict_123 (by decide) ?_
      exact K (by first | exact fun g => g.1 h102 | exact fun g => h111 g.2)
    · refine z_iload_n (pc := 114) dX3_conflict_114 rfl ?_
      refine z_iload_n (pc := 115) dX3_conflict_115 rfl ?_
      refine z_cS2 (pc := 116) mX3_told l_X3_113 (by decide) dX3_conflict_116 (by decide) (Nat.le_of_ble_eq_true rfl) (c_X3_told) rfl (fun r116 σ116 hr116 => ?_)
      obtain ⟨rfl, rfl⟩ := hr116
      exact z_ireturn (pc := 119) dX3_conflict_119 rfl rfl (hret ⟨h102, h111⟩)
set_option maxRecDepth 20000 in
theorem c_X3_cf3 {σ : z_Sto} {n i k tr : Nat} {v3 : Option Value} {Φ : z_Post} (hn : σ 3 3 = nI n) (h12 : n ≤ 12) (ht : σ 21 6 = nI tr) (h4 : tr ≤ 420) (hi : i < n) (hk : k ≤ n) (hret : ∀ v, x_cf3 σ tr i (n - k) k = some v → Φ (some (.int v)) σ) (K : x_cf3 σ tr i (n - k) k = none → ∀ w, z_R layX iX3_conflict 126 [some (.ref 21), some (.int (nI i)), some (.int (nI n)), w] [] σ Φ) : z_R layX iX3_conflict 60 [some (.ref 21), some (.int (nI i)), some (.int (nI k)), v3] [] σ Φ := by
  generalize hf : n - k = f at hret K
  induction f using Nat.strongRecOn generalizing k v3
  rename_i f ih
  refine z_iload_n (pc := 60) dX3_conflict_60 rfl ?_
  refine z_aload_n (pc := 61) dX3_conflict_61 rfl ?_
  refine z_getA (pc := 62) f_X3_29 dX3_conflict_62 (by decide) rfl rfl ?_
  refine z_cV0 (pc := 65) mX4_size l_X3_105 (by decide) dX3_conflict_65 (by decide) rfl rfl (by decide) (Nat.le_of_ble_eq_true rfl) (c_X4_size) rfl (fun r65 σ65 hr65 => ?_)
  obtain ⟨rfl, rfl⟩ := hr65
  rw [hn]
  refine z_icmp_ge (pc := 68) (tgt := 126) dX3_conflict_68 (by decide) (fun h68 => ?_) (fun h68 => ?_)
  · have q68 : k = n := by have := (nI_leI (by omega) (by omega)).mp h68; omega
    subst q68
    have q0 : f = 0 := by omega
    subst q0
    exact K rfl v3
  · have q68 : k < n := by have : ¬ n ≤ k := fun q => h68 ((nI_leI (by omega) (by omega)).mpr q); omega
    have hf1 : f = (n - (k + 1)) + 1 := by omega
    refine z_aload_n (pc := 71) dX3_conflict_71 rfl ?_
    refine z_getA (pc := 72) f_X3_29 dX3_conflict_72 (by decide) rfl rfl ?_
    refine z_iload_n (pc := 75) dX3_conflict_75 rfl ?_
    refine z_cV1 (pc := 76) mX4_markOf l_X3_106 (by decide) dX3_conflict_76 (by decide) rfl rfl (by decide) (Nat.le_of_ble_eq_true rfl) (c_X4_markOf (by omega)) rfl (fun r76 σ76 hr76 => ?_)
    obtain ⟨rfl, rfl⟩ := hr76
    refine z_iconst (pc := 79) (v := (nI 1)) dX3_conflict_79 (by decide) ?_
    refine z_icmp_ne (pc := 80) (tgt := 99) dX3_conflict_80 (by decide) (fun h80 => ?_) (fun h80 => ?_)
    · have t3 : (¬ nI 0 = 0) ↔ (σ76 6 i = nI 1 ∧ σ76 6 k = nI 2) := ⟨fun g => absurd rfl g, fun g => absurd g.1 h80⟩
      refine z_iconst (pc := 99) (v := (nI 0)) dX3_conflict_99 (by decide) ?_
      refine z_istore_n (pc := 100) dX3_conflict_100 (by decide) rfl rfl ?_
      exact c_X3_cf101 ht h4 (fun g => hret _ (by rw [hf1, x_cf3, if_pos ⟨t3.mp g.1, g.2⟩])) (fun g => ih _ (by omega) (k := k + 1) (by omega) rfl (fun v hv => hret v (by rw [hf1]; exact (x_cf3_no (fun q => g ⟨t3.mpr q.1, q.2⟩)).trans hv)) (fun hv => K (by rw [hf1]; exact (x_cf3_no (fun q => g ⟨t3.mpr q.1, q.2⟩)).trans hv)))
    · refine z_aload_n (pc := 83) dX3_conflict_83 rfl ?_
      refine z_getA (pc := 84) f_X3_29 dX3_conflict_84 (by decide) rfl rfl ?_
      refine z_iload_n (pc := 87) dX3_conflict_87 rfl ?_
      refine z_cV1 (pc := 88) mX4_markOf l_X3_106 (by decide) dX3_conflict_88 (by decide) rfl rfl (by decide) (Nat.le_of_ble_eq_true rfl) (c_X4_markOf (by omega)) rfl (fun r88 σ88 hr88 => ?_)
      obtain ⟨rfl, rfl⟩ := hr88
      refine z_iconst (pc := 91) (v := (nI 2)) dX3_conflict_91 (by decide) ?_
      refine z_icmp_ne (pc := 92) (tgt := 99) dX3_conflict_92 (by decide) (fun h92 => ?_) (fun h92 => ?_)
      · have t3 : (¬ nI 0 = 0) ↔ (σ88 6 i = nI 1 ∧ σ88 6 k = nI 2) := ⟨fun g => absurd rfl g, fun g => absurd g.2 h92⟩
        refine z_iconst (pc := 99) (v := (nI 0)) dX3_conflict_99 (by decide) ?_
        refine z_istore_n (pc := 100) dX3_conflict_100 (by decide) rfl rfl ?_
        exact c_X3_cf101 ht h4 (fun g => hret _ (by rw [hf1, x_cf3, if_pos ⟨t3.mp g.1, g.2⟩])) (fun g => ih _ (by omega) (k := k + 1) (by omega) rfl (fun v hv => hret v (by rw [hf1]; exact (x_cf3_no (fun q => g ⟨t3.mpr q.1, q.2⟩)).trans hv)) (fun hv => K (by rw [hf1]; exact (x_cf3_no (fun q => g ⟨t3.mpr q.1, q.2⟩)).trans hv)))
      · have t3 : (¬ nI 1 = 0) ↔ (σ88 6 i = nI 1 ∧ σ88 6 k = nI 2) := ⟨fun _ => ⟨h80, h92⟩, fun _ => by decide⟩
        refine z_iconst (pc := 95) (v := (nI 1)) dX3_conflict_95 (by decide) ?_
        refine z_goto (pc := 96) (tgt := 100) dX3_conflict_96 (by decide) ?_
        refine z_istore_n (pc := 100) dX3_conflict_100 (by decide) rfl rfl ?_
        exact c_X3_cf101 ht h4 (fun g => hret _ (by rw [hf1, x_cf3, if_pos ⟨t3.mp g.1, g.2⟩])) (fun g => ih _ (by omega) (k := k + 1) (by omega) rfl (fun v hv => hret v (by rw [hf1]; exact (x_cf3_no (fun q => g ⟨t3.mpr q.1, q.2⟩)).trans hv)) (fun hv => K (by rw [hf1]; exact (x_cf3_no (fun q => g ⟨t3.mpr q.1, q.2⟩)).trans hv)))
set_option maxRecDepth 20000 in
theorem c_X3_cf2 {σ : z_Sto} {n i tr : Nat} {v2 v3 : Option Value} (hn : σ 3 3 = nI n) (h12 : n ≤ 12) (ht : σ 21 6 = nI tr) (h4 : tr ≤ 420) (hi : i ≤ n) : z_R layX iX3_conflict 47 [some (.ref 21), some (.int (nI i)), v2, v3] [] σ (fun r σ' => r = some (.int (x_cf2 σ n tr (n - i) i)) ∧ σ' = σ) := by
  generalize hf : n - i = f
  induction f using Nat.strongRecOn generalizing i v2 v3
  rename_i f ih
  refine z_iload_n (pc := 47) dX3_conflict_47 rfl ?_
  refine z_aload_n (pc := 48) dX3_conflict_48 rfl ?_
  refine z_getA (pc := 49) f_X3_29 dX3_conflict_49 (by decide) rfl rfl ?_
  refine z_cV0 (pc := 52) mX4_size l_X3_105 (by decide) dX3_conflict_52 (by decide) rfl rfl (by decide) (Nat.le_of_ble_eq_true rfl) (c_X4_size) rfl (fun r52 σ52 hr52 => ?_)
  obtain ⟨rfl, rfl⟩ := hr52
  rw [hn]
  refine z_icmp_ge (pc := 55) (tgt := 132) dX3_conflict_55 (by decide) (fun h55 => ?_) (fun h55 => ?_)
  · have q55 : f = 0 := by have := (nI_leI (by omega) (by omega)).mp h55; omega
    refine z_sipush (pc := 132) (v := (-999)) dX3_conflict_132 (by decide) ?_
    exact z_ireturn (pc := 135) dX3_conflict_135 rfl rfl (⟨by rw [q55]; rfl, rfl⟩)
  · have q55 : i < n := by have : ¬ n ≤ i := fun q => h55 ((nI_leI (by omega) (by omega)).mpr q); omega
    have hf1 : f = (n - (i + 1)) + 1 := by omega
    refine z_iconst (pc := 58) (v := (nI 0)) dX3_conflict_58 (by decide) ?_
    refine z_istore_n (pc := 59) dX3_conflict_59 (by decide) rfl rfl ?_
    exact c_X3_cf3 (k := 0) hn h12 ht h4 q55 (by omega) (fun v hv => ⟨by rw [hf1, x_cf2]; rw [Nat.sub_zero] at hv; rw [hv], rfl⟩) (fun hv w => z_iincN (pc := 126) dX3_conflict_126 rfl (by decide) rfl rfl (z_goto (pc := 129) (tgt := 47) dX3_conflict_129 (by decide) ((ih _ (by omega) (i := i + 1) (by omega) rfl).mono (fun r σ' g => ⟨g.1.trans (by rw [hf1, x_cf2]; rw [Nat.sub_zero] at hv; rw [hv]), g.2⟩))))
set_option maxRecDepth 20000 in
theorem c_X3_cf1 {σ : z_Sto} {n i tr : Nat} (hn : σ 3 3 = nI n) (h12 : n ≤ 12) (ht : σ 21 6 = nI tr) (h4 : tr ≤ 420) (hi : i ≤ n) : z_R layX iX3_conflict 2 [some (.ref 21), some (.int (nI i)), none, none] [] σ (fun r σ' => r = some (.int (x_cf1 σ n tr (n - i) i)) ∧ σ' = σ) := by
  generalize hf : n - i = f
  induction f using Nat.strongRecOn generalizing i
  rename_i f ih
  refine z_iload_n (pc := 2) dX3_conflict_2 rfl ?_
  refine z_aload_n (pc := 3) dX3_conflict_3 rfl ?_
  refine z_getA (pc := 4) f_X3_29 dX3_conflict_4 (by decide) rfl rfl ?_
  refine z_cV0 (pc := 7) mX4_size l_X3_105 (by decide) dX3_conflict_7 (by decide) rfl rfl (by decide) (Nat.le_of_ble_eq_true rfl) (c_X4_size) rfl (fun r7 σ7 hr7 => ?_)
  obtain ⟨rfl, rfl⟩ := hr7
  rw [hn]
  refine z_icmp_ge (pc := 10) (tgt := 45) dX3_conflict_10 (by decide) (fun h10 => ?_) (fun h10 => ?_)
  · have q10 : f = 0 := by have := (nI_leI (by omega) (by omega)).mp h10; omega
    refine z_iconst (pc := 45) (v := (nI 0)) dX3_conflict_45 (by decide) ?_
    refine z_istore_n (pc := 46) dX3_conflict_46 (by decide) rfl rfl ?_
    exact (c_X3_cf2 (i := 0) hn h12 ht h4 (by omega)).mono (fun r σ' g => ⟨g.1.trans (by rw [q10]; rfl), g.2⟩)
  · have q10 : i < n := by have : ¬ n ≤ i := fun q => h10 ((nI_leI (by omega) (by omega)).mpr q); omega
    have hf1 : f = (n - (i + 1)) + 1 := by omega
    refine z_aload_n (pc := 13) dX3_conflict_13 rfl ?_
    refine z_getA (pc := 14) f_X3_29 dX3_conflict_14 (by decide) rfl rfl ?_
    refine z_iload_n (pc := 17) dX3_conflict_17 rfl ?_
    refine z_cV1 (pc := 18) mX4_markOf l_X3_106 (by decide) dX3_conflict_18 (by decide) rfl rfl (by decide) (Nat.le_of_ble_eq_true rfl) (c_X4_markOf (by omega)) rfl (fun r18 σ18 hr18 => ?_)
    obtain ⟨rfl, rfl⟩ := hr18
    refine z_if_eq (pc := 21) (tgt := 39) dX3_conflict_21 (by decide) (fun h21 => ?_) (fun h21 => ?_)
    · refine z_iincN (pc := 39) dX3_conflict_39 rfl (by decide) rfl rfl ?_
      refine z_goto (pc := 42) (tgt := 2) dX3_conflict_42 (by decide) ?_
      exact (ih _ (by omega) (i := i + 1) (by omega) rfl).mono (fun r σ' g => ⟨g.1.trans (by rw [hf1, x_cf1]; first | rw [if_neg (fun q : ¬ _ ∧ _ => q.1 h21)] | rw [if_neg (fun q : ¬ _ ∧ _ => h30 q.2)]), g.2⟩)
    · refine z_aload_n (pc := 24) dX3_conflict_24 rfl ?_
      refine z_iload_n (pc := 25) dX3_conflict_25 rfl ?_
      refine z_iload_n (pc := 26) dX3_conflict_26 rfl ?_
      refine z_cV2 (pc := 27) mX3_canMeet l_X3_109 (by decide) dX3_conflict_27 (by decide) rfl rfl (by decide) (Nat.le_of_ble_eq_true rfl) (c_X3_canMeet ht h4) rfl (fun r27 σ27 hr27 => ?_)
      obtain ⟨rfl, rfl⟩ := hr27
      refine z_if_ne (pc := 30) (tgt := 39) dX3_conflict_30 (by decide) (fun h30 => ?_) (fun h30 => ?_)
      · refine z_iincN (pc := 39) dX3_conflict_39 rfl (by decide) rfl rfl ?_
        refine z_goto (pc := 42) (tgt := 2) dX3_conflict_42 (by decide) ?_
        exact (ih _ (by omega) (i := i + 1) (by omega) rfl).mono (fun r σ' g => ⟨g.1.trans (by rw [hf1, x_cf1]; first | rw [if_neg (fun q : ¬ _ ∧ _ => q.1 h21)] | rw [if_neg (fun q : ¬ _ ∧ _ => h30 q.2)]), g.2⟩)
      · refine z_iload_n (pc := 33) dX3_conflict_33 rfl ?_
        refine z_iload_n (pc := 34) dX3_conflict_34 rfl ?_
        refine z_cS2 (pc := 35) mX3_told l_X3_113 (by decide) dX3_conflict_35 (by decide) (Nat.le_of_ble_eq_true rfl) (c_X3_told) rfl (fun r35 σ35 hr35 => ?_)
        obtain ⟨rfl, rfl⟩ := hr35
        exact z_ireturn (pc := 38) dX3_conflict_38 rfl rfl (⟨by rw [hf1, x_cf1, if_pos ⟨h21, h30⟩]; rfl, rfl⟩)
set_option maxRecDepth 20000 in
theorem c_X3_conflict {σ : z_Sto} {n tr : Nat} (hn : σ 3 3 = nI n) (h12 : n ≤ 12) (ht : σ 21 6 = nI tr) (h4 : tr ≤ 420) : z_R layX iX3_conflict 0 [some (.ref 21), none, none, none] [] σ (fun r σ' => r = some (.int (x_cf1 σ n tr n 0)) ∧ σ' = σ) := by
  refine z_iconst (pc := 0) (v := (nI 0)) dX3_conflict_0 (by decide) ?_
  refine z_istore_n (pc := 1) dX3_conflict_1 (by decide) rfl rfl ?_
  exact c_X3_cf1 (i := 0) hn h12 ht h4 (by omega)
end
section
/-! Replay.findMarks -/
def x_ok (σ : z_Sto) (n e h : Nat) : Prop := σ 3 3 = nI n ∧ n ≤ 12 ∧ σ 7 3 = nI e ∧ e ≤ 300 ∧ x_log σ n e ∧ σ 2 3 = nI h ∧ 1 ≤ h ∧ h ≤ 500
theorem x_ok_fr {σ τ : z_Sto} {n e h : Nat} (H : x_ok σ n e h) (f : ∀ c, c = 2 ∨ c = 3 ∨ c = 5 ∨ c = 7 ∨ c = 8 ∨ c = 9 → τ c = σ c) : x_ok τ n e h := by
  obtain ⟨a1, a2, a3, a4, a5, a6, a7⟩ := H
  exact ⟨by rw [f 3 (by decide)]; exact a1, a2, by rw [f 7 (by decide)]; exact a3, a4, x_log_fr a5 (f 8 (by decide)) (f 9 (by decide)) (f 5 (by decide)), by rw [f 2 (by decide)]; exact a6, a7⟩
theorem x_take_b {b v s i w n : Nat} {t : Int32} {σ : z_Sto} : x_take b v s i w n t σ b 11 = σ b 11 ∨ x_take b v s i w n t σ b 11 = nI 1 := by
  have e2 : ∀ τ : z_Sto, x_t2 b i w τ b = τ b := fun τ => by
    unfold x_t2
    split
    · rfl
    · rw [z_up_ne _ _ _ (by omega)]
  have e1 : ∀ τ : z_Sto, x_t1 b v s i w t τ b = τ b := fun τ => by
    rw [x_t1, z_up_ne _ _ _ (by omega), z_up_ne _ _ _ (by omega), z_up_ne _ _ _ (by omega)]
  rw [x_take, x_look_fr (by omega)]
  unfold x_t3
  split
  · left
    rw [e2, e1, x_set_fr (by omega)]
  · right
    rw [z_up_same, z_upd_s]
theorem x_rb_b {b : Nat} : ∀ (f i : Nat) (σ : z_Sto), x_rb b f i σ b = σ b
  | 0, _, _ => rfl
  | f + 1, i, σ => by rw [x_rb, x_rb_b f, x_s2, z_up_ne _ _ _ (by omega), z_up_ne _ _ _ (by omega), z_up_ne _ _ _ (by omega), z_up_ne _ _ _ (by omega), z_up_ne _ _ _ (by omega)]
theorem x_ra_b {b : Nat} : ∀ (f i : Nat) (σ : z_Sto), x_ra b f i σ b = σ b
  | 0, _, _ => rfl
  | f + 1, i, σ => by rw [x_ra, x_ra_b f, x_s1, z_up_ne _ _ _ (by omega), z_up_ne _ _ _ (by omega), z_up_ne _ _ _ (by omega), z_up_ne _ _ _ (by omega)]
theorem x_restart_b {b : Nat} {σ : z_Sto} : x_restart b σ b 11 = nI 0 := by
  rw [x_restart, x_rb_b, x_ra_b, z_up_same, z_upd_s]
theorem x_gl_b {n : Nat} : ∀ (f j : Nat) (σ : z_Sto), (σ 24 11 = nI 0 ∨ σ 24 11 = nI 1) → (x_gl n f j σ 24 11 = nI 0 ∨ x_gl n f j σ 24 11 = nI 1)
  | 0, _, _, h => h
  | f + 1, j, σ, h => by
    rw [x_gl]
    refine x_gl_b f (j + 1) _ ?_
    rcases (x_take_b : x_g1 n j σ 24 11 = σ 24 11 ∨ x_g1 n j σ 24 11 = nI 1) with e | e
    · rw [show x_g1 n j σ 24 11 = σ 24 11 from e]; exact h
    · exact Or.inr e
theorem x_go_b {n e : Nat} {s o t : Int32} {σ : z_Sto} : x_go n e s o t σ 24 11 = nI 0 ∨ x_go n e s o t σ 24 11 = nI 1 := by
  rw [x_go, x_sa_fr (by decide)]
  exact x_gl_b _ _ _ (Or.inl x_restart_b)
def x_tr (σ : z_Sto) : Nat := (σ 21 6).toNatClampNeg
def x_trok (σ : z_Sto) : Prop := ∃ tr, tr ≤ 420 ∧ σ 21 6 = nI tr
theorem x_trok.at {σ : z_Sto} (h : x_trok σ) : σ 21 6 = nI (x_tr σ) ∧ x_tr σ ≤ 420 := by
  obtain ⟨tr, h1, h2⟩ := h
  have : x_tr σ = tr := by rw [x_tr, h2, z_cl (by omega)]
  rw [this]
  exact ⟨h2, h1⟩
def x_fk (n e : Nat) (q t : Int32) (sh op : Nat) (σ : z_Sto) : z_Sto := x_keep (x_met q (x_go n e (nI sh) (nI op) t σ) n 0 (nI 0)) (x_tr σ) (x_go n e (nI sh) (nI op) t σ)
def x_fi (n e : Nat) (q t w : Int32) (sh : Nat) : Nat → Nat → Int32 → z_Sto → (Int32 × z_Sto) ⊕ (Int32 × z_Sto)
  | 0, _, a, σ => .inr (a, σ)
  | f + 1, op, a, σ => if sh < op ∨ a = 0 then .inr (a, σ) else if x_met q (x_go n e (nI sh) (nI op) t σ) n 0 (nI 0) = w then .inl (nI (sh * 100000 + op), x_go n e (nI sh) (nI op) t σ) else x_fi n e q t w sh f (op + 250) (x_fk n e q t sh op σ 24 11) (x_fk n e q t sh op σ)
def x_fo (n e : Nat) (q t w : Int32) : Nat → Nat → Int32 → z_Sto → Int32 × z_Sto
  | 0, _, _, σ => (x_cf1 σ n (x_tr σ) n 0, σ)
  | f + 1, sh, a, σ => if 10000 < sh ∨ a = 0 then (x_cf1 σ n (x_tr σ) n 0, σ) else match x_fi n e q t w sh (sh / 250) 250 a σ with
    | .inl r => r
    | .inr p => x_fo n e q t w f (sh + 500) p.1 p.2
theorem x_keep_fr {m : Int32} {tr c : Nat} {σ : z_Sto} (h : c ≠ 34 ∧ c ≠ 21) : x_keep m tr σ c = σ c := by
  unfold x_keep
  split
  · rw [z_up_ne _ _ _ h.2, z_up_ne _ _ _ h.1]
  · rfl
theorem x_fk_fr {n e sh op c : Nat} {q t : Int32} {σ : z_Sto} (h : c < 21 ∨ c = 22 ∨ 34 < c) : x_fk n e q t sh op σ c = σ c := by
  rw [x_fk, x_keep_fr (by omega), x_go_fr (by unfold x_away; omega) (by omega)]
theorem x_keep_tr {m : Int32} {tr : Nat} {σ : z_Sto} (h : σ 21 6 = nI tr) (h4 : tr ≤ 420) : x_trok (x_keep m tr σ) := by
  unfold x_keep
  split
  · exact ⟨tr + 1, by omega, by rw [z_up_same, z_upd_s]⟩
  · exact ⟨tr, h4, h⟩
theorem x_fk_tr {n e sh op : Nat} {q t : Int32} {σ : z_Sto} (h : x_trok σ) : x_trok (x_fk n e q t sh op σ) :=
  x_keep_tr (by rw [x_go_fr (by unfold x_away; omega) (by decide)]; exact h.at.1) h.at.2
set_option maxRecDepth 20000 in
theorem c_X3_fi {σ : z_Sto} {n e h sh op f : Nat} {q t w a : Int32} {v7 : Option Value} {Φ : z_Post} (hok : x_ok σ n e h) (ht : x_trok σ) (hsh : sh ≤ 10000) (hop : op ≤ sh + 250) (hf : sh < op + 250 * f) (hret : ∀ v τ, x_fi n e q t w sh f op a σ = .inl (v, τ) → Φ (some (.int v)) τ) (K : ∀ a' τ, x_fi n e q t w sh f op a σ = .inr (a', τ) → x_ok τ n e h → x_trok τ → ∀ w6 w7, z_R layX iX3_findMarks 106 [some (.ref 21), some (.int q), some (.int t), some (.int w), some (.int a'), some (.int (nI sh)), w6, w7] [] τ Φ) : z_R layX iX3_findMarks 39 [some (.ref 21), some (.int q), some (.int t), some (.int w), some (.int a), some (.int (nI sh)), some (.int (nI op)), v7] [] σ Φ := by
  induction f generalizing op σ a v7
  · exact z_iload (pc := 39) dX3_findMarks_39 rfl (z_iload (pc := 41) dX3_findMarks_41 rfl (z_icmp_gt (pc := 43) (tgt := 106) dX3_findMarks_43 (by decide) (fun h43 => K _ _ rfl hok ht _ _) (fun h43 => absurd ((nI_ltI (by omega) (by omega)).mpr (by omega)) h43)))
  rename_i f ih
  refine z_iload (pc := 39) dX3_findMarks_39 rfl ?_
  refine z_iload (pc := 41) dX3_findMarks_41 rfl ?_
  refine z_icmp_gt (pc := 43) (tgt := 106) dX3_findMarks_43 (by decide) (fun h43 => ?_) (fun h43 => ?_)
  · have q43 : sh < op := (nI_ltI (by omega) (by omega)).mp h43
    exact K _ _ (by rw [x_fi, if_pos (Or.inl q43)]) hok ht _ _
  · have q43 : ¬ sh < op := fun q => h43 ((nI_ltI (by omega) (by omega)).mpr q)
    refine z_iload (pc := 46) dX3_findMarks_46 rfl ?_
    refine z_if_eq (pc := 48) (tgt := 106) dX3_findMarks_48 (by decide) (fun h48 => ?_) (fun h48 => ?_)
    · exact K _ _ (by rw [x_fi, if_pos (Or.inr h48)]) hok ht _ _
    · have q48 : ¬ (sh < op ∨ a = 0) := fun g => g.elim q43 h48
      refine z_aload_n (pc := 51) dX3_findMarks_51 rfl ?_
      refine z_iload (pc := 52) dX3_findMarks_52 rfl ?_
      refine z_iload (pc := 54) dX3_findMarks_54 rfl ?_
      refine z_iload_n (pc := 56) dX3_findMarks_56 rfl ?_
      refine z_cV3 (pc := 57) mX3_goOver l_X3_88 (by decide) dX3_findMarks_57 (by decide) rfl rfl (by decide) (Nat.le_of_ble_eq_true rfl) (c_X3_goOver hok.1 hok.2.1 hok.2.2.1 hok.2.2.2.1 hok.2.2.2.2.1 hok.2.2.2.2.2.1 hok.2.2.2.2.2.2.1 hok.2.2.2.2.2.2.2) rfl (fun r57 σ57 hr57 => ?_)
      obtain ⟨er57, eσ57⟩ := hr57
      subst er57
      have hok1 : x_ok σ57 n e h := x_ok_fr hok (fun c hc => by rw [eσ57]; exact x_go_fr (by unfold x_away; omega) (by omega))
      have ht1 : σ57 21 6 = nI (x_tr σ) := by rw [eσ57, x_go_fr (by unfold x_away; omega) (by decide)]; exact ht.at.1
      have hb1 : σ57 24 11 = nI 0 ∨ σ57 24 11 = nI 1 := by rw [eσ57]; exact x_go_b
      refine z_aload_n (pc := 60) dX3_findMarks_60 rfl ?_
      refine z_iload_n (pc := 61) dX3_findMarks_61 rfl ?_
      refine z_cV1 (pc := 62) mX3_metLines l_X3_91 (by decide) dX3_findMarks_62 (by decide) rfl rfl (by decide) (Nat.le_of_ble_eq_true rfl) (c_X3_metLines hok1.1 hok1.2.1) rfl (fun r62 σ62 hr62 => ?_)
      obtain ⟨rfl, rfl⟩ := hr62
      refine z_istore (pc := 65) dX3_findMarks_65 (by decide) rfl rfl ?_
      refine z_iload (pc := 67) dX3_findMarks_67 rfl ?_
      refine z_iload_n (pc := 69) dX3_findMarks_69 rfl ?_
      refine z_icmp_ne (pc := 70) (tgt := 82) dX3_findMarks_70 (by decide) (fun h70 => ?_) (fun h70 => ?_)
      · refine z_aload_n (pc := 82) dX3_findMarks_82 rfl ?_
        refine z_iload (pc := 83) dX3_findMarks_83 rfl ?_
        refine z_cV1 (pc := 85) mX3_keep l_X3_95 (by decide) dX3_findMarks_85 (by decide) rfl rfl (by decide) (Nat.le_of_ble_eq_true rfl) (c_X3_keep ht1 ht.at.2) rfl (fun r85 σ85 hr85 => ?_)
        obtain ⟨er85, eσ85⟩ := hr85
        subst er85
        have efk : σ85 = x_fk n e q t sh op σ := by rw [eσ85, x_fk, ← eσ57]
        have hb2 : σ85 24 11 = nI 0 ∨ σ85 24 11 = nI 1 := by rw [eσ85, x_keep_fr (by decide)]; exact hb1
        refine z_aload_n (pc := 88) dX3_findMarks_88 rfl ?_
        refine z_getA (pc := 89) f_X3_42 dX3_findMarks_89 (by decide) rfl rfl ?_
        refine z_cV0 (pc := 92) mX0_wasEverShut l_X3_98 (by decide) dX3_findMarks_92 (by decide) rfl rfl (by decide) (Nat.le_of_ble_eq_true rfl) (c_X0_wasEverShut2 hb2) rfl (fun r92 σ92 hr92 => ?_)
        obtain ⟨er92, eσ92⟩ := hr92
        subst er92
        subst eσ92
        refine z_istore (pc := 95) dX3_findMarks_95 (by decide) rfl rfl ?_
        refine z_iincWN (pc := 97) 250 dX3_findMarks_97 (by decide) rfl (by decide) rfl rfl ?_
        refine z_goto (pc := 103) (tgt := 39) dX3_findMarks_103 (by decide) ?_
        exact ih (op := op + 250) (x_ok_fr hok (fun c hc => by rw [efk]; exact x_fk_fr (by omega))) (by rw [efk]; exact x_fk_tr ht) (by omega) (by omega) (fun v τ g => hret v τ (by rw [x_fi, if_neg q48, ← eσ57, if_neg h70, ← efk]; exact g)) (fun a' τ g => K a' τ (by rw [x_fi, if_neg q48, ← eσ57, if_neg h70, ← efk]; exact g))
      · refine z_iload (pc := 73) dX3_findMarks_73 rfl ?_
        refine z_ldc (pc := 75) k_X3_94 dX3_findMarks_75 ?_
        refine z_imulN (pc := 77) dX3_findMarks_77 ?_
        refine z_iload (pc := 78) dX3_findMarks_78 rfl ?_
        refine z_iaddN (pc := 80) dX3_findMarks_80 ?_
        exact z_ireturn (pc := 81) dX3_findMarks_81 rfl rfl (hret _ _ (by rw [x_fi, if_neg q48, ← eσ57, if_pos h70]))
set_option maxRecDepth 20000 in
theorem c_X3_fx {σ : z_Sto} {n e h : Nat} {v1 v2 v3 v4 v5 v6 v7 : Option Value} (hok : x_ok σ n e h) (ht : x_trok σ) : z_R layX iX3_findMarks 115 [some (.ref 21), v1, v2, v3, v4, v5, v6, v7] [] σ (fun r σ' => r = some (.int (x_cf1 σ n (x_tr σ) n 0)) ∧ σ' = σ) := by
  refine z_aload_n (pc := 115) dX3_findMarks_115 rfl ?_
  refine z_cV0 (pc := 116) mX3_conflict l_X3_102 (by decide) dX3_findMarks_116 (by decide) rfl rfl (by decide) (Nat.le_of_ble_eq_true rfl) (c_X3_conflict hok.1 hok.2.1 ht.at.1 ht.at.2) rfl (fun r116 σ116 hr116 => ?_)
  obtain ⟨rfl, rfl⟩ := hr116
  exact z_ireturn (pc := 119) dX3_findMarks_119 rfl rfl (⟨rfl, rfl⟩)
set_option maxRecDepth 20000 in
theorem c_X3_fo {σ : z_Sto} {n e h sh f : Nat} {q t w a : Int32} {v6 v7 : Option Value} (hok : x_ok σ n e h) (ht : x_trok σ) (hsh : sh ≤ 10500) (hf : 10000 < sh + 500 * f) : z_R layX iX3_findMarks 21 [some (.ref 21), some (.int q), some (.int t), some (.int w), some (.int a), some (.int (nI sh)), v6, v7] [] σ (fun r σ' => r = some (.int (x_fo n e q t w f sh a σ).1) ∧ σ' = (x_fo n e q t w f sh a σ).2) := by
  induction f generalizing sh σ a v6 v7
  · exact z_iload (pc := 21) dX3_findMarks_21 rfl (z_sipush (pc := 23) (v := nI 10000) dX3_findMarks_23 (by decide) (z_icmp_gt (pc := 26) (tgt := 115) dX3_findMarks_26 (by decide) (fun _ => c_X3_fx hok ht) (fun h26 => absurd ((nI_ltI (by decide) (by omega)).mpr (by omega)) h26)))
  rename_i f ih
  refine z_iload (pc := 21) dX3_findMarks_21 rfl ?_
  refine z_sipush (pc := 23) (v := (nI 10000)) dX3_findMarks_23 (by decide) ?_
  refine z_icmp_gt (pc := 26) (tgt := 115) dX3_findMarks_26 (by decide) (fun h26 => ?_) (fun h26 => ?_)
  · have q26 : 10000 < sh := (nI_ltI (by decide) (by omega)).mp h26
    have ex : x_fo n e q t w (f + 1) sh a σ = (x_cf1 σ n (x_tr σ) n 0, σ) := by rw [x_fo, if_pos (Or.inl q26)]
    exact (c_X3_fx hok ht).mono (fun r σ' g => by rw [ex]; exact g)
  · have q26 : ¬ 10000 < sh := fun q => h26 ((nI_ltI (by decide) (by omega)).mpr q)
    refine z_iload (pc := 29) dX3_findMarks_29 rfl ?_
    refine z_if_eq (pc := 31) (tgt := 115) dX3_findMarks_31 (by decide) (fun h31 => ?_) (fun h31 => ?_)
    · have ex : x_fo n e q t w (f + 1) sh a σ = (x_cf1 σ n (x_tr σ) n 0, σ) := by rw [x_fo, if_pos (Or.inr h31)]
      exact (c_X3_fx hok ht).mono (fun r σ' g => by rw [ex]; exact g)
    · refine z_sipush (pc := 34) (v := (nI 250)) dX3_findMarks_34 (by decide) ?_
      refine z_istore (pc := 37) dX3_findMarks_37 (by decide) rfl rfl ?_
      have q31 : ¬ (10000 < sh ∨ a = 0) := fun g => g.elim q26 h31
      have hd := Nat.div_add_mod sh 250
      have hm := Nat.mod_lt sh (show 250 > 0 by decide)
      exact c_X3_fi (f := sh / 250) hok ht (by omega) (by omega) (by omega) (fun v τ g => by rw [x_fo, if_neg q31, g]; exact ⟨rfl, rfl⟩) (fun a' τ g hok' ht' w6 w7 => z_iincWN (pc := 106) 500 dX3_findMarks_106 (by decide) rfl (by decide) rfl rfl (z_goto (pc := 112) (tgt := 21) dX3_findMarks_112 (by decide) ((ih (sh := sh + 500) hok' ht' (by omega) (by omega)).mono (fun r σ' k => by rw [x_fo, if_neg q31, g]; exact k))))
def x_fm (n e : Nat) (q t : Int32) (σ : z_Sto) : Int32 × z_Sto := x_fo n e q t (x_bits (σ 6) n) 20 500 (nI 1) (z_up σ 21 6 (nI 0))
set_option maxRecDepth 20000 in
theorem c_X3_findMarks {σ : z_Sto} {n e h : Nat} {q t : Int32} (hok : x_ok σ n e h) : z_R layX iX3_findMarks 0 [some (.ref 21), some (.int q), some (.int t), none, none, none, none, none] [] σ (fun r σ' => r = some (.int (x_fm n e q t σ).1) ∧ σ' = (x_fm n e q t σ).2) := by
  refine z_aload_n (pc := 0) dX3_findMarks_0 rfl ?_
  refine z_getA (pc := 1) f_X3_29 dX3_findMarks_1 (by decide) rfl rfl ?_
  refine z_cV0 (pc := 4) mX4_markedLines l_X3_83 (by decide) dX3_findMarks_4 (by decide) rfl rfl (by decide) (Nat.le_of_ble_eq_true rfl) (c_X4_markedLines hok.1 hok.2.1) rfl (fun r4 σ4 hr4 => ?_)
  obtain ⟨rfl, rfl⟩ := hr4
  refine z_istore_n (pc := 7) dX3_findMarks_7 (by decide) rfl rfl ?_
  refine z_iconst (pc := 8) (v := (nI 1)) dX3_findMarks_8 (by decide) ?_
  refine z_istore (pc := 9) dX3_findMarks_9 (by decide) rfl rfl ?_
  refine z_aload_n (pc := 11) dX3_findMarks_11 rfl ?_
  refine z_iconst (pc := 12) (v := (nI 0)) dX3_findMarks_12 (by decide) ?_
  refine z_putI (pc := 13) f_X3_22 tyX3_ok nmX3 (by decide) rfl rfl rfl dX3_findMarks_13 (by decide) rfl rfl ?_
  refine z_sipush (pc := 16) (v := (nI 500)) dX3_findMarks_16 (by decide) ?_
  refine z_istore (pc := 19) dX3_findMarks_19 (by decide) rfl rfl ?_
  exact c_X3_fo (f := 20) (sh := 500) (x_ok_fr hok (fun c hc => z_up_ne _ _ _ (by omega))) ⟨0, by decide, by rw [z_up_same, z_upd_s]⟩ (by decide) (by decide)
theorem x_fi_fr {n e sh c : Nat} {q t w : Int32} (h : c < 21 ∨ c = 22 ∨ 34 < c) : ∀ (f op : Nat) (a : Int32) (σ : z_Sto), (∀ v τ, x_fi n e q t w sh f op a σ = .inl (v, τ) → τ c = σ c) ∧ (∀ v τ, x_fi n e q t w sh f op a σ = .inr (v, τ) → τ c = σ c)
  | 0, op, a, σ => ⟨fun v τ g => by (rw [x_fi] at g; cases g), fun v τ g => by (rw [x_fi] at g; cases g; rfl)⟩
  | f + 1, op, a, σ => by
    have ih := x_fi_fr (n := n) (e := e) (sh := sh) (q := q) (t := t) (w := w) h f (op + 250) (x_fk n e q t sh op σ 24 11) (x_fk n e q t sh op σ)
    rw [x_fk_fr h] at ih
    rw [x_fi]
    split
    · exact ⟨fun v τ g => (by cases g), fun v τ g => (by cases g; rfl)⟩
    · split
      · exact ⟨fun v τ g => (by cases g; exact x_go_fr (by unfold x_away; omega) (by omega)), fun v τ g => (by cases g)⟩
      · exact ih
theorem x_fo_fr {n e c : Nat} {q t w : Int32} (h : c < 21 ∨ c = 22 ∨ 34 < c) : ∀ (f sh : Nat) (a : Int32) (σ : z_Sto), (x_fo n e q t w f sh a σ).2 c = σ c
  | 0, sh, a, σ => by rw [x_fo]
  | f + 1, sh, a, σ => by
    have hi := x_fi_fr (n := n) (e := e) (sh := sh) (q := q) (t := t) (w := w) h (sh / 250) 250 a σ
    rw [x_fo]
    split
    · rfl
    · split
      · rename_i r g
        exact hi.1 r.1 r.2 g
      · rename_i p g
        rw [x_fo_fr h f]
        exact hi.2 p.1 p.2 g
theorem x_fm_fr {n e c : Nat} {q t : Int32} {σ : z_Sto} (h : c < 21 ∨ c = 22 ∨ 34 < c) : (x_fm n e q t σ).2 c = σ c := by
  rw [x_fm, x_fo_fr h, z_up_ne _ _ _ (by omega)]
end
section
/-! rows of houses as numbers: three bits a house -/
def y_code : List Nat → Nat
  | [] => 0
  | h :: t => (h + 1) + 8 * y_code t
def y_ok (l : List Nat) : Prop := l.Nodup ∧ ∀ x ∈ l, x < 5
theorem y_ok_nil : y_ok [] := ⟨List.nodup_nil, fun x h => by cases h⟩
theorem y_ok_tl {h : Nat} {t : List Nat} (H : y_ok (h :: t)) : y_ok t := ⟨(List.nodup_cons.mp H.1).2, fun x hx => H.2 x (List.mem_cons_of_mem _ hx)⟩
theorem y_nodup_len : ∀ (m : Nat) (l : List Nat), l.Nodup → (∀ x ∈ l, x < m) → l.length ≤ m
  | 0, l, _, h => by
    cases l with
    | nil => simp
    | cons a t => exact absurd (h a List.mem_cons_self) (by omega)
  | m + 1, l, hn, h => by
    have h1 := y_nodup_len m (l.filter (fun x => decide (x ≠ m))) (List.Pairwise.filter _ hn) (fun x hx => by
      have := List.mem_filter.mp hx
      have h2 := h x this.1
      have h3 : x ≠ m := by simpa using this.2
      omega)
    have h2 : l.length ≤ (l.filter (fun x => decide (x ≠ m))).length + 1 := by
      clear h1 h
      induction l with
      | nil => simp
      | cons a t ih =>
        have hn' := List.nodup_cons.mp hn
        by_cases ha : a = m
        · have : t.filter (fun x => decide (x ≠ m)) = t := by
            rw [List.filter_eq_self]
            intro x hx
            have : x ≠ m := fun e => hn'.1 (by rw [ha, ← e]; exact hx)
            simpa using this
          rw [List.filter_cons_of_neg (by simpa using ha), this]
          simp
        · rw [List.filter_cons_of_pos (by simpa using ha)]
          have := ih hn'.2
          simp only [List.length_cons]
          omega
    omega
theorem y_len {l : List Nat} (h : y_ok l) : l.length ≤ 5 := y_nodup_len 5 l h.1 h.2
theorem y_code_lt : ∀ (l : List Nat), (∀ x ∈ l, x < 5) → y_code l < 8 ^ l.length
  | [], _ => by decide
  | h :: t, H => by
    have h1 := y_code_lt t (fun x hx => H x (List.mem_cons_of_mem _ hx))
    have h2 := H h List.mem_cons_self
    rw [y_code, List.length_cons, Nat.pow_succ]
    omega
theorem y_code_b {l : List Nat} (h : y_ok l) : y_code l < 32768 := by
  have h1 := y_code_lt l h.2
  have h2 := y_len h
  have h3 : 8 ^ l.length ≤ 8 ^ 5 := Nat.pow_le_pow_right (by decide) h2
  have h4 : 8 ^ 5 = 32768 := by decide
  omega
theorem y_code_drop : ∀ (k : Nat) (l : List Nat), (∀ x ∈ l, x < 5) → y_code l / 8 ^ k = y_code (l.drop k)
  | 0, l, _ => by simp
  | k + 1, [], _ => by simp [y_code]
  | k + 1, h :: t, H => by
    have h1 := y_code_drop k t (fun x hx => H x (List.mem_cons_of_mem _ hx))
    have h2 := H h List.mem_cons_self
    rw [List.drop_succ_cons, ← h1, Nat.pow_succ, Nat.mul_comm, ← Nat.div_div_eq_div_mul, y_code]
    congr 1
    omega
theorem y_code_0 {l : List Nat} : y_code l = 0 ↔ l = [] := by
  cases l with
  | nil => simp [y_code]
  | cons h t => simp [y_code]
theorem y_code_inj : ∀ (l m : List Nat), (∀ x ∈ l, x < 5) → (∀ x ∈ m, x < 5) → y_code l = y_code m → l = m
  | [], m, _, _, e => by
    have := y_code_0.mp (e.symm.trans rfl)
    exact this.symm
  | h :: t, [], _, _, e => absurd e (by rw [y_code, y_code]; omega)
  | h :: t, g :: u, H, G, e => by
    have h1 := H h List.mem_cons_self
    have h2 := G g List.mem_cons_self
    rw [y_code, y_code] at e
    have h3 : h = g := by omega
    have h4 := y_code_inj t u (fun x hx => H x (List.mem_cons_of_mem _ hx)) (fun x hx => G x (List.mem_cons_of_mem _ hx)) (by omega)
    rw [h3, h4]
theorem y_code_ne {l m : List Nat} (hl : y_ok l) (hm : y_ok m) : nI (y_code l) = nI (y_code m) ↔ l = m := by
  constructor
  · intro e
    exact y_code_inj l m hl.2 hm.2 (z_nI_inj (Nat.lt_trans (y_code_b hl) (by decide)) (Nat.lt_trans (y_code_b hm) (by decide)) e)
  · intro e
    rw [e]
theorem y_mem_drop {l : List Nat} (H : ∀ x ∈ l, x < 5) {h : Nat} (hh : h < 5) (k : Nat) : y_code l / 8 ^ k % 8 = h + 1 ↔ l[k]? = some h := by
  rw [y_code_drop k l H]
  cases hd : l.drop k with
  | nil =>
    have : l.length ≤ k := by
      have := congrArg List.length hd
      simp at this
      omega
    rw [List.getElem?_eq_none this]
    simp [y_code]
  | cons a t =>
    have h1 : l[k]? = some a := by
      have := congrArg (fun m => m[0]?) hd
      simpa using this
    have h2 : a < 5 := H a (List.mem_of_getElem? h1)
    rw [h1, y_code]
    constructor
    · intro e
      have : a = h := by omega
      rw [this]
    · intro e
      have : a = h := Option.some.inj e
      omega
theorem x_shr3 {c k : Nat} (hc : c < 2 ^ 31) (hk : k < 5) : nI c >>> (nI (3 * k) &&& 31) = nI (c / 8 ^ k) := by
  rcases (show k = 0 ∨ k = 1 ∨ k = 2 ∨ k = 3 ∨ k = 4 by omega) with rfl | rfl | rfl | rfl | rfl
  · exact pk_shrN hc _ 0 (by decide)
  · exact pk_shrN hc _ 3 (by decide)
  · exact pk_shrN hc _ 6 (by decide)
  · exact pk_shrN hc _ 9 (by decide)
  · exact pk_shrN hc _ 12 (by decide)
theorem x_and7 {c : Nat} (hc : c < 2 ^ 31) : nI c &&& nI 7 = nI (c % 8) := pk_andN (by omega) 3 (by decide)
theorem x_or8 {c h : Nat} (hh : h < 5) : nI (c * 8) ||| nI (h + 1) = nI ((h + 1) + 8 * c) := by
  have e : nI (c * 8) ||| nI (h + 1) = nI ((c * 8) ||| (h + 1)) := by
    apply Int32.toBitVec_inj.1
    show BitVec.ofNat 32 (c * 8) ||| BitVec.ofNat 32 (h + 1) = BitVec.ofNat 32 ((c * 8) ||| (h + 1))
    apply BitVec.eq_of_getLsbD_eq
    intro i hi
    simp [hi]
  rw [e]
  have := Nat.two_pow_add_eq_or_of_lt (i := 3) (b := h + 1) (by omega) c
  rw [show c * 8 = 2 ^ 3 * c by omega, ← this]
  congr 1
  omega
theorem x_shl8 {c : Nat} (hc : c < 32768) : nI c <<< (nI 3 &&& 31) = nI (c * 8) := pk_shlN _ 3 (by decide) (by omega)
/-! the houses' own rows, and what they send -/
def y_b1 (T : Nat → List Nat) (h i : Nat) (b : List Nat) : List Nat := if T (h * 5 + i) = [] ∨ h ∈ T (h * 5 + i) then b else if b = [] ∨ (T (h * 5 + i)).length < b.length then T (h * 5 + i) else b
def y_best (T : Nat → List Nat) (h : Nat) : Nat → Nat → List Nat → List Nat
  | 0, _, b => b
  | f + 1, i, b => y_best T h f (i + 1) (y_b1 T h i b)
def y_put (h : Nat) (b : List Nat) : List Nat := if b = [] then [] else h :: b
def y_own (T : Nat → List Nat) (h : Nat) : List Nat := y_put h (y_best T h 5 0 [])
def y_good (T : Nat → List Nat) : Prop := ∀ p, p < 25 → y_ok (T p)
theorem y_b1_ok {T : Nat → List Nat} {h i : Nat} {b : List Nat} (hT : y_good T) (hh : h < 5) (hi : i < 5) (hb : y_ok b ∧ h ∉ b) : y_ok (y_b1 T h i b) ∧ h ∉ y_b1 T h i b := by
  unfold y_b1
  split
  · exact hb
  · rename_i q
    split
    · exact ⟨hT _ (by omega), fun g => q (Or.inr g)⟩
    · exact hb
theorem y_best_ok {T : Nat → List Nat} {h : Nat} (hT : y_good T) (hh : h < 5) : ∀ (f i : Nat) (b : List Nat), i + f ≤ 5 → (y_ok b ∧ h ∉ b) → y_ok (y_best T h f i b) ∧ h ∉ y_best T h f i b
  | 0, _, _, _, hb => hb
  | f + 1, i, b, hi, hb => by
    rw [y_best]
    exact y_best_ok hT hh f (i + 1) _ (by omega) (y_b1_ok hT hh (by omega) hb)
theorem y_put_ok {h : Nat} {b : List Nat} (hh : h < 5) (hb : y_ok b ∧ h ∉ b) : y_ok (y_put h b) := by
  unfold y_put
  split
  · exact y_ok_nil
  · refine ⟨List.nodup_cons.mpr ⟨hb.2, hb.1.1⟩, fun x hx => ?_⟩
    rcases List.mem_cons.mp hx with rfl | hx
    · exact hh
    · exact hb.1.2 x hx
theorem y_own_ok {T : Nat → List Nat} {h : Nat} (hT : y_good T) (hh : h < 5) : y_ok (y_own T h) := y_put_ok hh (y_best_ok hT hh 5 0 [] (by decide) ⟨y_ok_nil, fun g => by cases g⟩)
abbrev y_Q : Type := Nat → Nat × List Nat
def y_s1 (wy : Nat → Int32) (h : Nat) (row : List Nat) (i : Nat) (q : y_Q × Nat) : y_Q × Nat := if ¬ wy (h * 5 + i) = 0 ∧ q.2 < 2000 then (va_up q.1 q.2 (i * 5 + h, row), q.2 + 1) else q
def y_send (wy : Nat → Int32) (h : Nat) (row : List Nat) : Nat → Nat → y_Q × Nat → y_Q × Nat
  | 0, _, q => q
  | f + 1, i, q => y_send wy h row f (i + 1) (y_s1 wy h row i q)
def x_que (σ : z_Sto) (q : y_Q × Nat) : Prop := (∀ j, j < q.2 → σ 41 j = nI (y_code (q.1 j).2 * 25 + (q.1 j).1) ∧ (q.1 j).1 < 25 ∧ y_ok (q.1 j).2) ∧ σ 35 6 = nI q.2 ∧ q.2 ≤ 2000
def x_told_ok (σ : z_Sto) (T : Nat → List Nat) : Prop := y_good T ∧ ∀ p, p < 25 → σ 37 p = nI (y_code (T p))
def x_own_ok (σ : z_Sto) (O : Nat → List Nat) : Prop := ∀ h, h < 5 → y_ok (O h) ∧ σ 39 h = nI (y_code (O h))
def x_way_ok (σ : z_Sto) : Prop := ∀ k, k < 25 → σ 36 k = nI 0 ∨ σ 36 k = nI 1
end
section
/-! Net: rows, letters -/
set_option maxRecDepth 20000 in
theorem c_X2_lenl {σ : z_Sto} {l : List Nat} {k : Nat} (hl : y_ok l) (hk : k ≤ l.length) : z_R layX iX2_lengthOf 2 [some (.int (nI (y_code l))), some (.int (nI k))] [] σ (fun r σ' => r = some (.int (nI l.length)) ∧ σ' = σ) := by
  have h5 := y_len hl
  have hb := y_code_b hl
  generalize hf : l.length - k = f
  induction f using Nat.strongRecOn generalizing k
  rename_i f ih
  refine z_iload_n (pc := 2) dX2_lengthOf_2 rfl ?_
  refine z_iconst (pc := 3) (v := (nI 5)) dX2_lengthOf_3 (by decide) ?_
  refine z_icmp_ge (pc := 4) (tgt := 21) dX2_lengthOf_4 (by decide) (fun h4 => ?_) (fun h4 => ?_)
  · have q4 : k = l.length := by have := (nI_leI (by decide) (by omega)).mp h4; omega
    refine z_iload_n (pc := 21) dX2_lengthOf_21 rfl ?_
    exact z_ireturn (pc := 22) dX2_lengthOf_22 rfl rfl (⟨by rw [q4], rfl⟩)
  · have q4 : k < 5 := by have : ¬ 5 ≤ k := fun q => h4 ((nI_leI (by decide) (by omega)).mpr q); omega
    refine z_iload_n (pc := 7) dX2_lengthOf_7 rfl ?_
    refine z_iconst (pc := 8) (v := (nI 3)) dX2_lengthOf_8 (by decide) ?_
    refine z_iload_n (pc := 9) dX2_lengthOf_9 rfl ?_
    refine z_imulN (pc := 10) dX2_lengthOf_10 ?_
    refine z_ishr (pc := 11) dX2_lengthOf_11 ?_
    rw [x_shr3 (by omega) q4, y_code_drop k l hl.2]
    refine z_if_eq (pc := 12) (tgt := 21) dX2_lengthOf_12 (by decide) (fun h12 => ?_) (fun h12 => ?_)
    · have q4 : k = l.length := by have e : y_code (l.drop k) = 0 := z_nI_inj (Nat.lt_of_le_of_lt (by rw [← y_code_drop k l hl.2]; exact Nat.div_le_self _ _) (show y_code l < 2 ^ 31 by omega)) (by decide) h12; have := List.drop_eq_nil_iff.mp (y_code_0.mp e); omega
      refine z_iload_n (pc := 21) dX2_lengthOf_21 rfl ?_
      exact z_ireturn (pc := 22) dX2_lengthOf_22 rfl rfl (⟨by rw [q4], rfl⟩)
    · have q12 : k < l.length := by rcases Nat.lt_or_ge k l.length with g | g; exact g; exact absurd (by rw [List.drop_eq_nil_iff.mpr g]; rfl) h12
      refine z_iincN (pc := 15) dX2_lengthOf_15 rfl (by decide) rfl rfl ?_
      refine z_goto (pc := 18) (tgt := 2) dX2_lengthOf_18 (by decide) ?_
      exact ih _ (by omega) (k := k + 1) (by omega) rfl
set_option maxRecDepth 20000 in
theorem c_X2_lengthOf {σ : z_Sto} {l : List Nat} (hl : y_ok l) : z_R layX iX2_lengthOf 0 [some (.int (nI (y_code l))), none] [] σ (fun r σ' => r = some (.int (nI l.length)) ∧ σ' = σ) := by
  refine z_iconst (pc := 0) (v := (nI 0)) dX2_lengthOf_0 (by decide) ?_
  refine z_istore_n (pc := 1) dX2_lengthOf_1 (by decide) rfl rfl ?_
  exact c_X2_lenl (k := 0) hl (by omega)
set_option maxRecDepth 20000 in
theorem c_X2_hol {σ : z_Sto} {l : List Nat} {h k : Nat} (hl : y_ok l) (hh : h < 5) (hk : k ≤ 5) (hno : ∀ j, j < k → l[j]? ≠ some h) : z_R layX iX2_holds 2 [some (.int (nI (y_code l))), some (.int (nI h)), some (.int (nI k))] [] σ (fun r σ' => r = some (.int (if h ∈ l then nI 1 else nI 0)) ∧ σ' = σ) := by
  have h5 := y_len hl
  have hb := y_code_b hl
  generalize hf : 5 - k = f
  induction f using Nat.strongRecOn generalizing k
  rename_i f ih
  refine z_iload_n (pc := 2) dX2_holds_2 rfl ?_
  refine z_iconst (pc := 3) (v := (nI 5)) dX2_holds_3 (by decide) ?_
  refine z_icmp_ge (pc := 4) (tgt := 29) dX2_holds_4 (by decide) (fun h4 => ?_) (fun h4 => ?_)
  · have q4 : h ∉ l := fun g => by obtain ⟨j, hj⟩ := List.mem_iff_getElem?.mp g; have := (nI_leI (by decide) (by omega)).mp h4; exact hno j (by have := (List.getElem?_eq_some_iff.mp hj).1; omega) hj
    refine z_iconst (pc := 29) (v := (nI 0)) dX2_holds_29 (by decide) ?_
    exact z_ireturn (pc := 30) dX2_holds_30 rfl (by decide) (⟨by rw [if_neg q4], rfl⟩)
  · have q4 : k < 5 := by have : ¬ 5 ≤ k := fun q => h4 ((nI_leI (by decide) (by omega)).mpr q); omega
    refine z_iload_n (pc := 7) dX2_holds_7 rfl ?_
    refine z_iconst (pc := 8) (v := (nI 3)) dX2_holds_8 (by decide) ?_
    refine z_iload_n (pc := 9) dX2_holds_9 rfl ?_
    refine z_imulN (pc := 10) dX2_holds_10 ?_
    refine z_ishr (pc := 11) dX2_holds_11 ?_
    rw [x_shr3 (by omega) q4]
    refine z_bipush (pc := 12) (v := (nI 7)) dX2_holds_12 (by decide) ?_
    refine z_iand (pc := 14) dX2_holds_14 ?_
    rw [x_and7 (Nat.lt_of_le_of_lt (Nat.div_le_self _ _) (show y_code l < 2 ^ 31 by omega))]
    refine z_iload_n (pc := 15) dX2_holds_15 rfl ?_
    refine z_iconst (pc := 16) (v := (nI 1)) dX2_holds_16 (by decide) ?_
    refine z_iaddN (pc := 17) dX2_holds_17 ?_
    refine z_icmp_ne (pc := 18) (tgt := 23) dX2_holds_18 (by decide) (fun h18 => ?_) (fun h18 => ?_)
    · have q18 : l[k]? ≠ some h := fun g => h18 (by rw [(y_mem_drop hl.2 hh k).mpr g])
      refine z_iincN (pc := 23) dX2_holds_23 rfl (by decide) rfl rfl ?_
      refine z_goto (pc := 26) (tgt := 2) dX2_holds_26 (by decide) ?_
      exact ih _ (by omega) (k := k + 1) (by omega) (fun j hj => by rcases Nat.lt_or_ge j k with g | g; exact hno j g; rw [show j = k by omega]; exact q18) rfl
    · have q18 : l[k]? = some h := (y_mem_drop hl.2 hh k).mp (z_nI_inj (by omega) (by omega) h18)
      refine z_iconst (pc := 21) (v := (nI 1)) dX2_holds_21 (by decide) ?_
      exact z_ireturn (pc := 22) dX2_holds_22 rfl (by decide) (⟨by rw [if_pos (List.mem_of_getElem? q18)], rfl⟩)
set_option maxRecDepth 20000 in
theorem c_X2_holds {σ : z_Sto} {l : List Nat} {h : Nat} (hl : y_ok l) (hh : h < 5) : z_R layX iX2_holds 0 [some (.int (nI (y_code l))), some (.int (nI h)), none] [] σ (fun r σ' => r = some (.int (if h ∈ l then nI 1 else nI 0)) ∧ σ' = σ) := by
  refine z_iconst (pc := 0) (v := (nI 0)) dX2_holds_0 (by decide) ?_
  refine z_istore_n (pc := 1) dX2_holds_1 (by decide) rfl rfl ?_
  exact c_X2_hol (k := 0) hl hh (by omega) (fun j hj => absurd hj (by omega))
set_option maxRecDepth 20000 in
theorem c_X2_goalRow {σ : z_Sto} : z_R layX iX2_goalRow 0 [some (.ref 35)] [] σ (fun r σ' => r = some (.int (nI (y_code (if σ 35 10 = 0 then [0] else [])))) ∧ σ' = σ) := by
  refine z_aload_n (pc := 0) dX2_goalRow_0 rfl ?_
  refine z_getI (pc := 1) f_X2_44 dX2_goalRow_1 (by decide) rfl rfl ?_
  refine z_if_eq (pc := 4) (tgt := 11) dX2_goalRow_4 (by decide) (fun h4 => ?_) (fun h4 => ?_)
  · refine z_iconst (pc := 11) (v := (nI 1)) dX2_goalRow_11 (by decide) ?_
    exact z_ireturn (pc := 12) dX2_goalRow_12 rfl rfl (⟨by first | (rw [if_pos h4]; rfl) | (rw [if_neg h4]; rfl), rfl⟩)
  · refine z_iconst (pc := 7) (v := (nI 0)) dX2_goalRow_7 (by decide) ?_
    refine z_goto (pc := 8) (tgt := 12) dX2_goalRow_8 (by decide) ?_
    exact z_ireturn (pc := 12) dX2_goalRow_12 rfl rfl (⟨by first | (rw [if_pos h4]; rfl) | (rw [if_neg h4]; rfl), rfl⟩)
set_option maxRecDepth 20000 in
theorem c_X2_sho63 {σ : z_Sto} {h i : Nat} {b : List Nat} {v4 : Option Value} (hh : h < 5) (hb : y_ok b) : z_R layX iX2_shortestRow 63 [some (.ref 35), some (.int (nI h)), some (.int (nI (y_code b))), some (.int (nI i)), v4] [] σ (fun r σ' => r = some (.int (nI (y_code (y_put h b)))) ∧ σ' = σ) := by
  have hc := y_code_b hb
  refine z_iload_n (pc := 63) dX2_shortestRow_63 rfl ?_
  refine z_if_ne (pc := 64) (tgt := 71) dX2_shortestRow_64 (by decide) (fun h64 => ?_) (fun h64 => ?_)
  · have q64 : b ≠ [] := fun g => h64 (by rw [g]; rfl)
    refine z_iload_n (pc := 71) dX2_shortestRow_71 rfl ?_
    refine z_iconst (pc := 72) (v := (nI 3)) dX2_shortestRow_72 (by decide) ?_
    refine z_ishl (pc := 73) dX2_shortestRow_73 ?_
    rw [x_shl8 hc]
    refine z_iload_n (pc := 74) dX2_shortestRow_74 rfl ?_
    refine z_iconst (pc := 75) (v := (nI 1)) dX2_shortestRow_75 (by decide) ?_
    refine z_iaddN (pc := 76) dX2_shortestRow_76 ?_
    refine z_ior (pc := 77) dX2_shortestRow_77 ?_
    rw [x_or8 hh]
    exact z_ireturn (pc := 78) dX2_shortestRow_78 rfl rfl (⟨by first | (rw [y_put, if_pos q64]; rfl) | (rw [y_put, if_neg q64]; rfl), rfl⟩)
  · have q64 : b = [] := y_code_0.mp (z_nI_inj (by omega) (by decide) h64)
    refine z_iconst (pc := 67) (v := (nI 0)) dX2_shortestRow_67 (by decide) ?_
    refine z_goto (pc := 68) (tgt := 78) dX2_shortestRow_68 (by decide) ?_
    exact z_ireturn (pc := 78) dX2_shortestRow_78 rfl rfl (⟨by first | (rw [y_put, if_pos q64]; rfl) | (rw [y_put, if_neg q64]; rfl), rfl⟩)
set_option maxRecDepth 20000 in
theorem c_X2_shol {σ : z_Sto} {T : Nat → List Nat} {h i : Nat} {b : List Nat} {v4 : Option Value} (hT : x_told_ok σ T) (hh : h < 5) (hi : i ≤ 5) (hb : y_ok b ∧ h ∉ b) : z_R layX iX2_shortestRow 4 [some (.ref 35), some (.int (nI h)), some (.int (nI (y_code b))), some (.int (nI i)), v4] [] σ (fun r σ' => r = some (.int (nI (y_code (y_put h (y_best T h (5 - i) i b))))) ∧ σ' = σ) := by
  generalize hf : 5 - i = f
  induction f using Nat.strongRecOn generalizing i b v4
  rename_i f ih
  refine z_iload_n (pc := 4) dX2_shortestRow_4 rfl ?_
  refine z_iconst (pc := 5) (v := (nI 5)) dX2_shortestRow_5 (by decide) ?_
  refine z_icmp_ge (pc := 6) (tgt := 63) dX2_shortestRow_6 (by decide) (fun h6 => ?_) (fun h6 => ?_)
  · have q6 : f = 0 := by have := (nI_leI (by decide) (by omega)).mp h6; omega
    exact (c_X2_sho63 hh hb.1).mono (fun r σ' k => ⟨k.1.trans (by rw [q6]; rfl), k.2⟩)
  · have q6 : i < 5 := by have : ¬ 5 ≤ i := fun q => h6 ((nI_leI (by decide) (by omega)).mpr q); omega
    have hf1 : f = (5 - (i + 1)) + 1 := by omega
    have hTp := hT.1 (h * 5 + i) (by omega)
    have hcp := y_code_b hTp
    have hcb := y_code_b hb.1
    have hb' := y_b1_ok hT.1 hh q6 hb
    refine z_aload_n (pc := 9) dX2_shortestRow_9 rfl ?_
    refine z_getA (pc := 10) f_X2_15 dX2_shortestRow_10 (by decide) rfl rfl ?_
    refine z_iload_n (pc := 13) dX2_shortestRow_13 rfl ?_
    refine z_iload_n (pc := 14) dX2_shortestRow_14 rfl ?_
    refine z_cS2 (pc := 15) mX2_place l_X2_48 (by decide) dX2_shortestRow_15 (by decide) (Nat.le_of_ble_eq_true rfl) (c_X2_place) rfl (fun r15 σ15 hr15 => ?_)
    obtain ⟨rfl, rfl⟩ := hr15
    refine z_ialdN (pc := 18) dX2_shortestRow_18 (by decide) rfl (by decide) (by omega) ?_
    rw [hT.2 _ (by omega)]
    refine z_istore (pc := 19) dX2_shortestRow_19 (by decide) rfl rfl ?_
    refine z_iload (pc := 21) dX2_shortestRow_21 rfl ?_
    refine z_if_eq (pc := 23) (tgt := 57) dX2_shortestRow_23 (by decide) (fun h23 => ?_) (fun h23 => ?_)
    · have q23 : y_b1 T h i b = b := by rw [y_b1, if_pos (Or.inl (y_code_0.mp (z_nI_inj (by omega) (by decide) h23)))]
      refine z_iincN (pc := 57) dX2_shortestRow_57 rfl (by decide) rfl rfl ?_
      refine z_goto (pc := 60) (tgt := 4) dX2_shortestRow_60 (by decide) ?_
      exact (ih _ (by omega) (i := i + 1) (b := y_b1 T h i b) (by omega) hb' rfl) |> fun g => by rw [q23] at g; exact g.mono (fun r σ' k => ⟨k.1.trans (by rw [hf1, y_best, q23]), k.2⟩)
    · have q23 : ¬ T (h * 5 + i) = [] := fun g => h23 (by rw [g]; rfl)
      refine z_iload (pc := 26) dX2_shortestRow_26 rfl ?_
      refine z_iload_n (pc := 28) dX2_shortestRow_28 rfl ?_
      refine z_cS2 (pc := 29) mX2_holds l_X2_72 (by decide) dX2_shortestRow_29 (by decide) (Nat.le_of_ble_eq_true rfl) (c_X2_holds hTp hh) rfl (fun r29 σ29 hr29 => ?_)
      obtain ⟨rfl, rfl⟩ := hr29
      refine z_if_eq (pc := 32) (tgt := 38) dX2_shortestRow_32 (by decide) (fun h32 => ?_) (fun h32 => ?_)
      · have q32 : h ∉ T (h * 5 + i) := fun g => absurd (by rw [if_pos g] at h32; exact h32) (by decide)
        have q3 : ¬ (T (h * 5 + i) = [] ∨ h ∈ T (h * 5 + i)) := fun g => g.elim q23 q32
        refine z_iload_n (pc := 38) dX2_shortestRow_38 rfl ?_
        refine z_if_eq (pc := 39) (tgt := 54) dX2_shortestRow_39 (by decide) (fun h39 => ?_) (fun h39 => ?_)
        · have q39 : b = [] := y_code_0.mp (z_nI_inj (by omega) (by decide) h39)
          have q23 : y_b1 T h i b = T (h * 5 + i) := by rw [y_b1, if_neg q3, if_pos (Or.inl q39)]
          refine z_iload (pc := 54) dX2_shortestRow_54 rfl ?_
          refine z_istore_n (pc := 56) dX2_shortestRow_56 (by decide) rfl rfl ?_
          refine z_iincN (pc := 57) dX2_shortestRow_57 rfl (by decide) rfl rfl ?_
          refine z_goto (pc := 60) (tgt := 4) dX2_shortestRow_60 (by decide) ?_
          exact (ih _ (by omega) (i := i + 1) (b := y_b1 T h i b) (by omega) hb' rfl) |> fun g => by rw [q23] at g; exact g.mono (fun r σ' k => ⟨k.1.trans (by rw [hf1, y_best, q23]), k.2⟩)
        · have q39 : ¬ b = [] := fun g => h39 (by rw [g]; rfl)
          have hl1 := y_len hTp
          have hl2 := y_len hb.1
          refine z_iload (pc := 42) dX2_shortestRow_42 rfl ?_
          refine z_cS1 (pc := 44) mX2_lengthOf l_X2_76 (by decide) dX2_shortestRow_44 (by decide) (Nat.le_of_ble_eq_true rfl) (c_X2_lengthOf hTp) rfl (fun r44 σ44 hr44 => ?_)
          obtain ⟨rfl, rfl⟩ := hr44
          refine z_iload_n (pc := 47) dX2_shortestRow_47 rfl ?_
          refine z_cS1 (pc := 48) mX2_lengthOf l_X2_76 (by decide) dX2_shortestRow_48 (by decide) (Nat.le_of_ble_eq_true rfl) (c_X2_lengthOf hb.1) rfl (fun r48 σ48 hr48 => ?_)
          obtain ⟨rfl, rfl⟩ := hr48
          refine z_icmp_ge (pc := 51) (tgt := 57) dX2_shortestRow_51 (by decide) (fun h51 => ?_) (fun h51 => ?_)
          · have q51 : ¬ (T (h * 5 + i)).length < b.length := by have := (nI_leI (by omega) (by omega)).mp h51; omega
            have q23 : y_b1 T h i b = b := by rw [y_b1, if_neg q3, if_neg (fun g => g.elim q39 q51)]
            refine z_iincN (pc := 57) dX2_shortestRow_57 rfl (by decide) rfl rfl ?_
            refine z_goto (pc := 60) (tgt := 4) dX2_shortestRow_60 (by decide) ?_
            exact (ih _ (by omega) (i := i + 1) (b := y_b1 T h i b) (by omega) hb' rfl) |> fun g => by rw [q23] at g; exact g.mono (fun r σ' k => ⟨k.1.trans (by rw [hf1, y_best, q23]), k.2⟩)
          · have q51 : (T (h * 5 + i)).length < b.length := by have : ¬ b.length ≤ (T (h * 5 + i)).length := fun q => h51 ((nI_leI (by omega) (by omega)).mpr q); omega
            have q23 : y_b1 T h i b = T (h * 5 + i) := by rw [y_b1, if_neg q3, if_pos (Or.inr q51)]
            refine z_iload (pc := 54) dX2_shortestRow_54 rfl ?_
            refine z_istore_n (pc := 56) dX2_shortestRow_56 (by decide) rfl rfl ?_
            refine z_iincN (pc := 57) dX2_shortestRow_57 rfl (by decide) rfl rfl ?_
            refine z_goto (pc := 60) (tgt := 4) dX2_shortestRow_60 (by decide) ?_
            exact (ih _ (by omega) (i := i + 1) (b := y_b1 T h i b) (by omega) hb' rfl) |> fun g => by rw [q23] at g; exact g.mono (fun r σ' k => ⟨k.1.trans (by rw [hf1, y_best, q23]), k.2⟩)
      · have q32 : h ∈ T (h * 5 + i) := by (by_cases g : h ∈ T (h * 5 + i); exact g; exact absurd (by rw [if_neg g]; rfl) h32)
        have q23 : y_b1 T h i b = b := by rw [y_b1, if_pos (Or.inr q32)]
        refine z_goto (pc := 35) (tgt := 57) dX2_shortestRow_35 (by decide) ?_
        refine z_iincN (pc := 57) dX2_shortestRow_57 rfl (by decide) rfl rfl ?_
        refine z_goto (pc := 60) (tgt := 4) dX2_shortestRow_60 (by decide) ?_
        exact (ih _ (by omega) (i := i + 1) (b := y_b1 T h i b) (by omega) hb' rfl) |> fun g => by rw [q23] at g; exact g.mono (fun r σ' k => ⟨k.1.trans (by rw [hf1, y_best, q23]), k.2⟩)
set_option maxRecDepth 20000 in
theorem c_X2_shortestRow {σ : z_Sto} {T : Nat → List Nat} {h : Nat} (hT : x_told_ok σ T) (hh : h < 5) : z_R layX iX2_shortestRow 0 [some (.ref 35), some (.int (nI h)), none, none, none] [] σ (fun r σ' => r = some (.int (nI (y_code (y_own T h)))) ∧ σ' = σ) := by
  refine z_iconst (pc := 0) (v := (nI 0)) dX2_shortestRow_0 (by decide) ?_
  refine z_istore_n (pc := 1) dX2_shortestRow_1 (by decide) rfl rfl ?_
  refine z_iconst (pc := 2) (v := (nI 0)) dX2_shortestRow_2 (by decide) ?_
  refine z_istore_n (pc := 3) dX2_shortestRow_3 (by decide) rfl rfl ?_
  exact c_X2_shol (b := []) (i := 0) hT hh (by decide) ⟨y_ok_nil, fun g => by cases g⟩
theorem x_que_push {σ : z_Sto} {q : y_Q × Nat} {p : Nat} {row : List Nat} (hq : x_que σ q) (h2 : q.2 < 2000) (hp : p < 25) (hr : y_ok row) : x_que (z_up (z_up σ 41 q.2 (nI (y_code row * 25 + p))) 35 6 (nI (q.2 + 1))) (va_up q.1 q.2 (p, row), q.2 + 1) := by
  refine ⟨fun j hj => ?_, by rw [z_up_same, z_upd_s], by show q.2 + 1 ≤ 2000; omega⟩
  have hj' : j < q.2 + 1 := hj
  rw [z_up_ne _ _ _ (by decide), z_up_same]
  by_cases e : j = q.2
  · subst e
    rw [z_upd_s]
    simp only [va_up, if_true]
    exact ⟨trivial, hp, hr⟩
  · rw [z_upd_n e]
    simp only [va_up, if_neg e]
    exact hq.1 j (by omega)
set_option maxRecDepth 20000 in
theorem c_X2_sndl {σ : z_Sto} {wy : Nat → Int32} {q : y_Q × Nat} {h i : Nat} {row : List Nat} (hw : x_way_ok σ) (hwy : σ 36 = wy) (hq : x_que σ q) (hh : h < 5) (hr : y_ok row) (hi : i ≤ 5) : z_R layX iX2_send 2 [some (.ref 35), some (.int (nI h)), some (.int (nI (y_code row))), some (.int (nI i))] [] σ (fun r σ' => r = none ∧ x_que σ' (y_send wy h row (5 - i) i q) ∧ (∀ c, c ≠ 41 → c ≠ 35 → σ' c = σ c) ∧ (∀ k, k ≠ 6 → σ' 35 k = σ 35 k)) := by
  have hc := y_code_b hr
  generalize hf : 5 - i = f
  induction f using Nat.strongRecOn generalizing i σ q
  rename_i f ih
  refine z_iload_n (pc := 2) dX2_send_2 rfl ?_
  refine z_iconst (pc := 3) (v := (nI 5)) dX2_send_3 (by decide) ?_
  refine z_icmp_ge (pc := 4) (tgt := 61) dX2_send_4 (by decide) (fun h4 => ?_) (fun h4 => ?_)
  · have q4 : f = 0 := by have := (nI_leI (by decide) (by omega)).mp h4; omega
    exact z_return (pc := 61) dX2_send_61 rfl (⟨rfl, by rw [q4]; exact hq, fun c _ _ => rfl, fun k _ => rfl⟩)
  · have q4 : i < 5 := by have : ¬ 5 ≤ i := fun q => h4 ((nI_leI (by decide) (by omega)).mpr q); omega
    have hf1 : f = (5 - (i + 1)) + 1 := by omega
    refine z_aload_n (pc := 7) dX2_send_7 rfl ?_
    refine z_iload_n (pc := 8) dX2_send_8 rfl ?_
    refine z_iload_n (pc := 9) dX2_send_9 rfl ?_
    refine z_cV2 (pc := 10) mX2_hasWay l_X2_79 (by decide) dX2_send_10 (by decide) rfl rfl (by decide) (Nat.le_of_ble_eq_true rfl) (c_X2_hasWay hh q4 hw) rfl (fun r10 σ10 hr10 => ?_)
    obtain ⟨rfl, rfl⟩ := hr10
    refine z_if_eq (pc := 13) (tgt := 55) dX2_send_13 (by decide) (fun h13 => ?_) (fun h13 => ?_)
    · have es : y_s1 wy h row i q = q := by rw [y_s1, if_neg (fun g => g.1 (by rw [← hwy]; exact h13))]
      refine z_iincN (pc := 55) dX2_send_55 rfl (by decide) rfl rfl ?_
      refine z_goto (pc := 58) (tgt := 2) dX2_send_58 (by decide) ?_
      exact by first | exact (ih _ (by omega) (i := i + 1) hw hwy hq (by omega) rfl).mono (fun r σ' k => ⟨k.1, by rw [hf1, y_send, es]; exact k.2.1, k.2.2⟩) | exact (ih _ (by omega) (i := i + 1) (q := (va_up q.1 q.2 (i * 5 + h, row), q.2 + 1)) (fun k hk => by rw [z_up_ne _ _ _ (by decide), z_up_ne _ _ _ (by decide)]; exact hw k hk) (by rw [z_up_ne _ _ _ (by decide), z_up_ne _ _ _ (by decide)]; exact hwy) (x_que_push hq q23 (by omega) hr) (by omega) rfl).mono (fun r σ' k => ⟨k.1, by rw [hf1, y_send, es]; exact k.2.1, fun c h1 h2 => by rw [k.2.2.1 c h1 h2, z_up_ne _ _ _ h2, z_up_ne _ _ _ h1], fun c h1 => by rw [k.2.2.2 c h1, z_up_at]; simp [h1, z_up_at]⟩)
    · refine z_aload_n (pc := 16) dX2_send_16 rfl ?_
      refine z_getI (pc := 17) f_X2_31 dX2_send_17 (by decide) rfl rfl ?_
      rw [hq.2.1]
      refine z_sipush (pc := 20) (v := (nI 2000)) dX2_send_20 (by decide) ?_
      refine z_icmp_ge (pc := 23) (tgt := 55) dX2_send_23 (by decide) (fun h23 => ?_) (fun h23 => ?_)
      · have es : y_s1 wy h row i q = q := by rw [y_s1, if_neg (fun g => by have := (nI_leI (by decide) (by have := hq.2.2; omega)).mp h23; omega)]
        refine z_iincN (pc := 55) dX2_send_55 rfl (by decide) rfl rfl ?_
        refine z_goto (pc := 58) (tgt := 2) dX2_send_58 (by decide) ?_
        exact by first | exact (ih _ (by omega) (i := i + 1) hw hwy hq (by omega) rfl).mono (fun r σ' k => ⟨k.1, by rw [hf1, y_send, es]; exact k.2.1, k.2.2⟩) | exact (ih _ (by omega) (i := i + 1) (q := (va_up q.1 q.2 (i * 5 + h, row), q.2 + 1)) (fun k hk => by rw [z_up_ne _ _ _ (by decide), z_up_ne _ _ _ (by decide)]; exact hw k hk) (by rw [z_up_ne _ _ _ (by decide), z_up_ne _ _ _ (by decide)]; exact hwy) (x_que_push hq q23 (by omega) hr) (by omega) rfl).mono (fun r σ' k => ⟨k.1, by rw [hf1, y_send, es]; exact k.2.1, fun c h1 h2 => by rw [k.2.2.1 c h1 h2, z_up_ne _ _ _ h2, z_up_ne _ _ _ h1], fun c h1 => by rw [k.2.2.2 c h1, z_up_at]; simp [h1, z_up_at]⟩)
      · have q23 : q.2 < 2000 := by have : ¬ 2000 ≤ q.2 := fun g => h23 ((nI_leI (by decide) (by have := hq.2.2; omega)).mpr g); omega
        have es : y_s1 wy h row i q = (va_up q.1 q.2 (i * 5 + h, row), q.2 + 1) := by rw [y_s1, if_pos ⟨fun g => h13 (by rw [hwy]; exact g), q23⟩]
        refine z_aload_n (pc := 26) dX2_send_26 rfl ?_
        refine z_getA (pc := 27) f_X2_28 dX2_send_27 (by decide) rfl rfl ?_
        refine z_aload_n (pc := 30) dX2_send_30 rfl ?_
        refine z_getI (pc := 31) f_X2_31 dX2_send_31 (by decide) rfl rfl ?_
        rw [hq.2.1]
        refine z_iload_n (pc := 34) dX2_send_34 rfl ?_
        refine z_bipush (pc := 35) (v := (nI 25)) dX2_send_35 (by decide) ?_
        refine z_imulN (pc := 37) dX2_send_37 ?_
        refine z_iload_n (pc := 38) dX2_send_38 rfl ?_
        refine z_iload_n (pc := 39) dX2_send_39 rfl ?_
        refine z_cS2 (pc := 40) mX2_place l_X2_48 (by decide) dX2_send_40 (by decide) (Nat.le_of_ble_eq_true rfl) (c_X2_place) rfl (fun r40 σ40 hr40 => ?_)
        obtain ⟨rfl, rfl⟩ := hr40
        refine z_iaddN (pc := 43) dX2_send_43 ?_
        refine z_iastN (pc := 44) dX2_send_44 (by decide) rfl (by decide) (q23) ?_
        refine z_aload_n (pc := 45) dX2_send_45 rfl ?_
        refine z_dup_a (pc := 46) dX2_send_46 ?_
        refine z_getI (pc := 47) f_X2_31 dX2_send_47 (by decide) rfl rfl ?_
        simp only [z_up_at, reduceIte, Nat.reduceEqDiff, hq.2.1]
        refine z_iconst (pc := 50) (v := (nI 1)) dX2_send_50 (by decide) ?_
        refine z_iaddN (pc := 51) dX2_send_51 ?_
        refine z_putI (pc := 52) f_X2_31 tyX2_ok nmX2 (by decide) rfl rfl rfl dX2_send_52 (by decide) rfl rfl ?_
        refine z_iincN (pc := 55) dX2_send_55 rfl (by decide) rfl rfl ?_
        refine z_goto (pc := 58) (tgt := 2) dX2_send_58 (by decide) ?_
        exact by first | exact (ih _ (by omega) (i := i + 1) hw hwy hq (by omega) rfl).mono (fun r σ' k => ⟨k.1, by rw [hf1, y_send, es]; exact k.2.1, k.2.2⟩) | exact (ih _ (by omega) (i := i + 1) (q := (va_up q.1 q.2 (i * 5 + h, row), q.2 + 1)) (fun k hk => by rw [z_up_ne _ _ _ (by decide), z_up_ne _ _ _ (by decide)]; exact hw k hk) (by rw [z_up_ne _ _ _ (by decide), z_up_ne _ _ _ (by decide)]; exact hwy) (x_que_push hq q23 (by omega) hr) (by omega) rfl).mono (fun r σ' k => ⟨k.1, by rw [hf1, y_send, es]; exact k.2.1, fun c h1 h2 => by rw [k.2.2.1 c h1 h2, z_up_ne _ _ _ h2, z_up_ne _ _ _ h1], fun c h1 => by rw [k.2.2.2 c h1, z_up_at]; simp [h1, z_up_at]⟩)
set_option maxRecDepth 20000 in
theorem c_X2_send {σ : z_Sto} {q : y_Q × Nat} {h : Nat} {row : List Nat} (hw : x_way_ok σ) (hq : x_que σ q) (hh : h < 5) (hr : y_ok row) : z_R layX iX2_send 0 [some (.ref 35), some (.int (nI h)), some (.int (nI (y_code row))), none] [] σ (fun r σ' => r = none ∧ x_que σ' (y_send (σ 36) h row 5 0 q) ∧ (∀ c, c ≠ 41 → c ≠ 35 → σ' c = σ c) ∧ (∀ k, k ≠ 6 → σ' 35 k = σ 35 k)) := by
  refine z_iconst (pc := 0) (v := (nI 0)) dX2_send_0 (by decide) ?_
  refine z_istore_n (pc := 1) dX2_send_1 (by decide) rfl rfl ?_
  exact c_X2_sndl (i := 0) hw rfl hq hh hr (by decide)
def y_row (cut : Int32) (T : Nat → List Nat) (h : Nat) : List Nat := if h = 0 then (if cut = 0 then [0] else []) else y_own T h
theorem y_row_ok {cut : Int32} {T : Nat → List Nat} {h : Nat} (hT : y_good T) (hh : h < 5) : y_ok (y_row cut T h) := by
  unfold y_row
  split
  · split
    · exact ⟨by decide, by decide⟩
    · exact y_ok_nil
  · exact y_own_ok hT hh
abbrev y_S : Type := (Nat → List Nat) × (y_Q × Nat)
def y_fo (cut : Int32) (wy : Nat → Int32) (T : Nat → List Nat) (h : Nat) (s : y_S) : y_S := if y_row cut T h = s.1 h then s else (va_up s.1 h (y_row cut T h), y_send wy h (y_row cut T h) 5 0 s.2)
set_option maxRecDepth 20000 in
theorem c_X2_fo17 {σ : z_Sto} {O : Nat → List Nat} {q : y_Q × Nat} {h : Nat} {row : List Nat} (hw : x_way_ok σ) (hO : x_own_ok σ O) (hq : x_que σ q) (hh : h < 5) (hr : y_ok row) : z_R layX iX2_findOwn 17 [some (.ref 35), some (.int (nI h)), some (.int (nI (y_code row)))] [] σ (fun r σ' => r = none ∧ (x_own_ok σ' (if row = O h then O else va_up O h row) ∧ x_que σ' (if row = O h then q else y_send (σ 36) h row 5 0 q)) ∧ (∀ c, c ≠ 41 → c ≠ 35 → c ≠ 39 → σ' c = σ c) ∧ (∀ k, k ≠ 6 → σ' 35 k = σ 35 k)) := by
  refine z_iload_n (pc := 17) dX2_findOwn_17 rfl ?_
  refine z_aload_n (pc := 18) dX2_findOwn_18 rfl ?_
  refine z_getA (pc := 19) f_X2_22 dX2_findOwn_19 (by decide) rfl rfl ?_
  refine z_iload_n (pc := 22) dX2_findOwn_22 rfl ?_
  refine z_ialdN (pc := 23) dX2_findOwn_23 (by decide) rfl (by decide) (hh) ?_
  rw [(hO h hh).2]
  refine z_icmp_eq (pc := 24) (tgt := 40) dX2_findOwn_24 (by decide) (fun h24 => ?_) (fun h24 => ?_)
  · have q24 : row = O h := (y_code_ne hr (hO h hh).1).mp h24
    exact z_return (pc := 40) dX2_findOwn_40 rfl (by first | exact ⟨rfl, by rw [if_pos q24, if_pos q24]; exact ⟨hO, hq⟩, fun c _ _ _ => rfl, fun k _ => rfl⟩ | exact ⟨rfl, by rw [if_neg q24, if_neg q24]; exact ⟨fun j hj => by rw [g2 39 (by decide) (by decide), z_up_same]; by_cases e : j = h; subst e; rw [z_upd_s]; simp only [va_up, if_true]; exact ⟨hr, trivial⟩; rw [z_upd_n e]; simp only [va_up, if_neg e]; exact hO j hj, by rw [z_up_ne _ _ _ (by decide)] at g1; exact g1⟩, fun c a1 a2 a3 => by rw [g2 c a1 a2, z_up_ne _ _ _ a3], fun k hk => by rw [g3 k hk, z_up_ne _ _ _ (by decide)]⟩)
  · have q24 : ¬ row = O h := fun g => h24 ((y_code_ne hr (hO h hh).1).mpr g)
    refine z_aload_n (pc := 27) dX2_findOwn_27 rfl ?_
    refine z_getA (pc := 28) f_X2_22 dX2_findOwn_28 (by decide) rfl rfl ?_
    refine z_iload_n (pc := 31) dX2_findOwn_31 rfl ?_
    refine z_iload_n (pc := 32) dX2_findOwn_32 rfl ?_
    refine z_iastN (pc := 33) dX2_findOwn_33 (by decide) rfl (by decide) (hh) ?_
    refine z_aload_n (pc := 34) dX2_findOwn_34 rfl ?_
    refine z_iload_n (pc := 35) dX2_findOwn_35 rfl ?_
    refine z_iload_n (pc := 36) dX2_findOwn_36 rfl ?_
    refine z_cV2 (pc := 37) mX2_send l_X2_68 (by decide) dX2_findOwn_37 (by decide) rfl rfl (by decide) (Nat.le_of_ble_eq_true rfl) (c_X2_send (σ := z_up σ 39 h (nI (y_code row))) (q := q) (fun k hk => by rw [z_up_ne _ _ _ (by decide)]; exact hw k hk) ⟨fun j hj => by rw [z_up_ne _ _ _ (by decide)]; exact hq.1 j hj, by rw [z_up_ne _ _ _ (by decide)]; exact hq.2.1, hq.2.2⟩ hh hr) rfl (fun r37 σ37 hr37 => ?_)
    obtain ⟨rfl, g1, g2, g3⟩ := hr37
    exact z_return (pc := 40) dX2_findOwn_40 rfl (by first | exact ⟨rfl, by rw [if_pos q24, if_pos q24]; exact ⟨hO, hq⟩, fun c _ _ _ => rfl, fun k _ => rfl⟩ | exact ⟨rfl, by rw [if_neg q24, if_neg q24]; exact ⟨fun j hj => by rw [g2 39 (by decide) (by decide), z_up_same]; by_cases e : j = h; subst e; rw [z_upd_s]; simp only [va_up, if_true]; exact ⟨hr, trivial⟩; rw [z_upd_n e]; simp only [va_up, if_neg e]; exact hO j hj, by rw [z_up_ne _ _ _ (by decide)] at g1; exact g1⟩, fun c a1 a2 a3 => by rw [g2 c a1 a2, z_up_ne _ _ _ a3], fun k hk => by rw [g3 k hk, z_up_ne _ _ _ (by decide)]⟩)
set_option maxRecDepth 20000 in
theorem c_X2_findOwn {σ : z_Sto} {T : Nat → List Nat} {s : y_S} {h : Nat} (hw : x_way_ok σ) (hT : x_told_ok σ T) (hO : x_own_ok σ s.1) (hq : x_que σ s.2) (hh : h < 5) : z_R layX iX2_findOwn 0 [some (.ref 35), some (.int (nI h)), none] [] σ (fun r σ' => r = none ∧ (x_own_ok σ' (y_fo (σ 35 10) (σ 36) T h s).1 ∧ x_que σ' (y_fo (σ 35 10) (σ 36) T h s).2) ∧ (∀ c, c ≠ 41 → c ≠ 35 → c ≠ 39 → σ' c = σ c) ∧ (∀ k, k ≠ 6 → σ' 35 k = σ 35 k)) := by
  have ef : ∀ row, y_row (σ 35 10) T h = row → ((y_fo (σ 35 10) (σ 36) T h s).1 = (if row = s.1 h then s.1 else va_up s.1 h row) ∧ (y_fo (σ 35 10) (σ 36) T h s).2 = (if row = s.1 h then s.2 else y_send (σ 36) h row 5 0 s.2)) := fun row e => by subst e; unfold y_fo; constructor <;> split <;> rfl
  have hok := y_row_ok (cut := σ 35 10) hT.1 hh
  refine z_iload_n (pc := 0) dX2_findOwn_0 rfl ?_
  refine z_if_ne (pc := 1) (tgt := 11) dX2_findOwn_1 (by decide) (fun h1 => ?_) (fun h1 => ?_)
  · have er : y_row (σ 35 10) T h = y_own T h := by rw [y_row, if_neg (fun g => h1 (by rw [g]; rfl))]
    refine z_aload_n (pc := 11) dX2_findOwn_11 rfl ?_
    refine z_iload_n (pc := 12) dX2_findOwn_12 rfl ?_
    refine z_cV1 (pc := 13) mX2_shortestRow l_X2_64 (by decide) dX2_findOwn_13 (by decide) rfl rfl (by decide) (Nat.le_of_ble_eq_true rfl) (c_X2_shortestRow hT hh) rfl (fun r13 σ13 hr13 => ?_)
    obtain ⟨rfl, rfl⟩ := hr13
    refine z_istore_n (pc := 16) dX2_findOwn_16 (by decide) rfl rfl ?_
    obtain ⟨e1, e2⟩ := ef _ er
    rw [er] at hok
    rw [e1, e2]
    exact c_X2_fo17 hw hO hq hh hok
  · have er : y_row (σ 35 10) T h = (if σ 35 10 = 0 then [0] else []) := by rw [y_row, if_pos (z_nI_inj (by omega) (by decide) h1)]
    refine z_aload_n (pc := 4) dX2_findOwn_4 rfl ?_
    refine z_cV0 (pc := 5) mX2_goalRow l_X2_60 (by decide) dX2_findOwn_5 (by decide) rfl rfl (by decide) (Nat.le_of_ble_eq_true rfl) (c_X2_goalRow) rfl (fun r5 σ5 hr5 => ?_)
    obtain ⟨rfl, rfl⟩ := hr5
    refine z_goto (pc := 8) (tgt := 16) dX2_findOwn_8 (by decide) ?_
    refine z_istore_n (pc := 16) dX2_findOwn_16 (by decide) rfl rfl ?_
    obtain ⟨e1, e2⟩ := ef _ er
    rw [er] at hok
    rw [e1, e2]
    exact c_X2_fo17 hw hO hq hh hok
set_option maxRecDepth 20000 in
theorem c_X2_hasLetter {σ : z_Sto} {tk sn : Nat} (ht : σ 35 7 = nI tk) (hs : σ 35 6 = nI sn) (h2 : sn ≤ 2000) (h1 : tk ≤ sn) : z_R layX iX2_hasLetter 0 [some (.ref 35)] [] σ (fun r σ' => r = some (.int (if tk < sn then nI 1 else nI 0)) ∧ σ' = σ) := by
  refine z_aload_n (pc := 0) dX2_hasLetter_0 rfl ?_
  refine z_getI (pc := 1) f_X2_35 dX2_hasLetter_1 (by decide) rfl rfl ?_
  rw [ht]
  refine z_aload_n (pc := 4) dX2_hasLetter_4 rfl ?_
  refine z_getI (pc := 5) f_X2_31 dX2_hasLetter_5 (by decide) rfl rfl ?_
  rw [hs]
  refine z_icmp_ge (pc := 8) (tgt := 15) dX2_hasLetter_8 (by decide) (fun h8 => ?_) (fun h8 => ?_)
  · have q8 : ¬ tk < sn := by have := (nI_leI (by omega) (by omega)).mp h8; omega
    refine z_iconst (pc := 15) (v := (nI 0)) dX2_hasLetter_15 (by decide) ?_
    exact z_ireturn (pc := 16) dX2_hasLetter_16 rfl (by decide) (⟨by simp [q8], rfl⟩)
  · have q8 : tk < sn := by have : ¬ sn ≤ tk := fun g => h8 ((nI_leI (by omega) (by omega)).mpr g); omega
    refine z_iconst (pc := 11) (v := (nI 1)) dX2_hasLetter_11 (by decide) ?_
    refine z_goto (pc := 12) (tgt := 16) dX2_hasLetter_12 (by decide) ?_
    exact z_ireturn (pc := 16) dX2_hasLetter_16 rfl (by decide) (⟨by simp [q8], rfl⟩)
def y_fl (cut : Int32) (wy : Nat → Int32) (T : Nat → List Nat) : Nat → Nat → y_S → y_S
  | 0, _, s => s
  | f + 1, h, s => y_fl cut wy T f (h + 1) (y_fo cut wy T h s)
set_option maxRecDepth 20000 in
theorem c_X2_sf2 {σ : z_Sto} {T : Nat → List Nat} {s : y_S} {h : Nat} {cut ct : Int32} {wy : Nat → Int32} (hw : x_way_ok σ) (hwy : σ 36 = wy) (hct : σ 35 10 = ct) (hT : x_told_ok σ T) (hO : x_own_ok σ s.1) (hq : x_que σ s.2) (hh : h ≤ 5) : z_R layX iX2_startFlood 37 [some (.ref 35), some (.int cut), some (.int (nI h))] [] σ (fun r σ' => r = none ∧ (x_own_ok σ' (y_fl ct wy T (5 - h) h s).1 ∧ x_que σ' (y_fl ct wy T (5 - h) h s).2) ∧ (∀ c, c ≠ 41 → c ≠ 35 → c ≠ 39 → σ' c = σ c) ∧ (∀ k, k ≠ 6 → σ' 35 k = σ 35 k)) := by
  generalize hf : 5 - h = f
  induction f using Nat.strongRecOn generalizing h σ s
  rename_i f ih
  refine z_iload_n (pc := 37) dX2_startFlood_37 rfl ?_
  refine z_iconst (pc := 38) (v := (nI 5)) dX2_startFlood_38 (by decide) ?_
  refine z_icmp_ge (pc := 39) (tgt := 53) dX2_startFlood_39 (by decide) (fun h39 => ?_) (fun h39 => ?_)
  · have q39 : f = 0 := by have := (nI_leI (by decide) (by omega)).mp h39; omega
    exact z_return (pc := 53) dX2_startFlood_53 rfl (⟨rfl, by rw [q39]; exact ⟨hO, hq⟩, fun c _ _ _ => rfl, fun k _ => rfl⟩)
  · have q39 : h < 5 := by have : ¬ 5 ≤ h := fun g => h39 ((nI_leI (by decide) (by omega)).mpr g); omega
    have hf1 : f = (5 - (h + 1)) + 1 := by omega
    refine z_aload_n (pc := 42) dX2_startFlood_42 rfl ?_
    refine z_iload_n (pc := 43) dX2_startFlood_43 rfl ?_
    refine z_cV1 (pc := 44) mX2_findOwn l_X2_52 (by decide) dX2_startFlood_44 (by decide) rfl rfl (by decide) (Nat.le_of_ble_eq_true rfl) (c_X2_findOwn hw hT hO hq q39) rfl (fun r44 σ44 hr44 => ?_)
    obtain ⟨rfl, ⟨g1, g2⟩, g3, g4⟩ := hr44
    rw [hct, hwy] at g1 g2
    refine z_iincN (pc := 47) dX2_startFlood_47 rfl (by decide) rfl rfl ?_
    refine z_goto (pc := 50) (tgt := 37) dX2_startFlood_50 (by decide) ?_
    exact (ih _ (by omega) (h := h + 1) (fun k hk => by rw [g3 36 (by decide) (by decide) (by decide)]; exact hw k hk) ((g3 36 (by decide) (by decide) (by decide)).trans hwy) ((g4 10 (by decide)).trans hct) ⟨hT.1, fun p hp => by rw [g3 37 (by decide) (by decide) (by decide)]; exact hT.2 p hp⟩ g1 g2 (by omega) rfl).mono (fun r σ' k => ⟨k.1, by rw [hf1, y_fl]; exact k.2.1, fun c a1 a2 a3 => (k.2.2.1 c a1 a2 a3).trans (g3 c a1 a2 a3), fun c a1 => (k.2.2.2 c a1).trans (g4 c a1)⟩)
set_option maxRecDepth 20000 in
theorem c_X2_sf1 {σ : z_Sto} {i : Nat} {cut : Int32} {Φ : z_Post} (hi : i ≤ 5) (K : ∀ τ : z_Sto, (∀ c, c ≠ 40 → τ c = σ c) → (∀ k, k < 5 → τ 40 k = if k < i then σ 40 k else nI 0) → z_R layX iX2_startFlood 35 [some (.ref 35), some (.int cut), some (.int (nI 5))] [] τ Φ) : z_R layX iX2_startFlood 17 [some (.ref 35), some (.int cut), some (.int (nI i))] [] σ Φ := by
  generalize hf : 5 - i = f
  induction f using Nat.strongRecOn generalizing i σ
  rename_i f ih
  refine z_iload_n (pc := 17) dX2_startFlood_17 rfl ?_
  refine z_iconst (pc := 18) (v := (nI 5)) dX2_startFlood_18 (by decide) ?_
  refine z_icmp_ge (pc := 19) (tgt := 35) dX2_startFlood_19 (by decide) (fun h19 => ?_) (fun h19 => ?_)
  · have q19 : i = 5 := by have := (nI_leI (by decide) (by omega)).mp h19; omega
    subst q19
    exact K σ (fun c _ => rfl) (fun k hk => by rw [if_pos hk])
  · have q19 : i < 5 := by have : ¬ 5 ≤ i := fun g => h19 ((nI_leI (by decide) (by omega)).mpr g); omega
    refine z_aload_n (pc := 22) dX2_startFlood_22 rfl ?_
    refine z_getA (pc := 23) f_X2_25 dX2_startFlood_23 (by decide) rfl rfl ?_
    refine z_iload_n (pc := 26) dX2_startFlood_26 rfl ?_
    refine z_iconst (pc := 27) (v := (nI 0)) dX2_startFlood_27 (by decide) ?_
    refine z_iastN (pc := 28) dX2_startFlood_28 (by decide) rfl (by decide) (q19) ?_
    refine z_iincN (pc := 29) dX2_startFlood_29 rfl (by decide) rfl rfl ?_
    refine z_goto (pc := 32) (tgt := 17) dX2_startFlood_32 (by decide) ?_
    exact ih _ (by omega) (i := i + 1) (by omega) (fun τ h1 h2 => K τ (fun c hc => (h1 c hc).trans (z_up_ne _ _ _ hc)) (fun k hk => by rw [h2 k hk, z_up_same]; by_cases e : k = i; subst e; rw [z_upd_s, if_pos (by omega), if_neg (by omega)]; rw [z_upd_n e]; by_cases g : k < i; rw [if_pos g, if_pos (by omega)]; rw [if_neg g, if_neg (by omega)])) rfl
set_option maxRecDepth 20000 in
theorem c_X2_startFlood {σ : z_Sto} {T : Nat → List Nat} {O : Nat → List Nat} {Q : y_Q} {ct : Nat} (hct : ct < 2) (hw : x_way_ok σ) (hT : x_told_ok σ T) (hO : x_own_ok σ O) : z_R layX iX2_startFlood 0 [some (.ref 35), some (.int (nI ct)), none] [] σ (fun r σ' => r = none ∧ (x_own_ok σ' (y_fl (nI ct) (σ 36) T 5 0 (O, Q, 0)).1 ∧ x_que σ' (y_fl (nI ct) (σ 36) T 5 0 (O, Q, 0)).2) ∧ (∀ c, c ≠ 41 → c ≠ 35 → c ≠ 39 → c ≠ 40 → σ' c = σ c) ∧ (∀ k, k ≠ 6 → k ≠ 7 → k ≠ 10 → σ' 35 k = σ 35 k) ∧ σ' 35 7 = nI 0 ∧ σ' 35 10 = nI ct ∧ ∀ k, k < 5 → σ' 40 k = nI 0) := by
  have hz : narrow .boolean (.int (nI ct)) = .int (nI ct) ∧ fits .boolean (.int (nI ct)) = true := by rcases (show ct = 0 ∨ ct = 1 by omega) with rfl | rfl <;> exact ⟨by decide, by decide⟩
  refine z_aload_n (pc := 0) dX2_startFlood_0 rfl ?_
  refine z_iload_n (pc := 1) dX2_startFlood_1 rfl ?_
  refine z_putI (pc := 2) f_X2_44 tyX2_ok nmX2 (by decide) rfl hz.1 hz.2 dX2_startFlood_2 (by decide) rfl rfl ?_
  refine z_aload_n (pc := 5) dX2_startFlood_5 rfl ?_
  refine z_iconst (pc := 6) (v := (nI 0)) dX2_startFlood_6 (by decide) ?_
  refine z_putI (pc := 7) f_X2_31 tyX2_ok nmX2 (by decide) rfl rfl rfl dX2_startFlood_7 (by decide) rfl rfl ?_
  refine z_aload_n (pc := 10) dX2_startFlood_10 rfl ?_
  refine z_iconst (pc := 11) (v := (nI 0)) dX2_startFlood_11 (by decide) ?_
  refine z_putI (pc := 12) f_X2_35 tyX2_ok nmX2 (by decide) rfl rfl rfl dX2_startFlood_12 (by decide) rfl rfl ?_
  refine z_iconst (pc := 15) (v := (nI 0)) dX2_startFlood_15 (by decide) ?_
  refine z_istore_n (pc := 16) dX2_startFlood_16 (by decide) rfl rfl ?_
  exact c_X2_sf1 (i := 0) (by decide) (fun τ h1 h2 => z_iconst (pc := 35) (v := (nI 0)) dX2_startFlood_35 (by decide) (z_istore_n (pc := 36) dX2_startFlood_36 (by decide) rfl rfl ((c_X2_sf2 (s := (O, Q, 0)) (h := 0) (wy := σ 36) (ct := nI ct) (fun k hk => by rw [h1 36 (by decide), z_up_ne _ _ _ (by decide), z_up_ne _ _ _ (by decide), z_up_ne _ _ _ (by decide)]; exact hw k hk) (by rw [h1 36 (by decide), z_up_ne _ _ _ (by decide), z_up_ne _ _ _ (by decide), z_up_ne _ _ _ (by decide)]) (by rw [h1 35 (by decide)]; simp [z_up_at]) ⟨hT.1, fun p hp => by rw [h1 37 (by decide), z_up_ne _ _ _ (by decide), z_up_ne _ _ _ (by decide), z_up_ne _ _ _ (by decide)]; exact hT.2 p hp⟩ (fun j hj => by rw [h1 39 (by decide), z_up_ne _ _ _ (by decide), z_up_ne _ _ _ (by decide), z_up_ne _ _ _ (by decide)]; exact hO j hj) ⟨fun j hj => absurd hj (Nat.not_lt_zero j), by rw [h1 35 (by decide)]; simp [z_up_at], Nat.zero_le _⟩ (by decide)).mono (fun r σ' k => ⟨k.1, k.2.1, fun c a1 a2 a3 a4 => by rw [k.2.2.1 c a1 a2 a3, h1 c a4, z_up_ne _ _ _ a2, z_up_ne _ _ _ a2, z_up_ne _ _ _ a2], fun c a1 a2 a3 => by rw [k.2.2.2 c a1, h1 35 (by decide)]; simp [z_up_at, a1, a2, a3], by rw [k.2.2.2 7 (by decide), h1 35 (by decide)]; simp [z_up_at], by rw [k.2.2.2 10 (by decide), h1 35 (by decide)]; simp [z_up_at], fun c hc => by rw [k.2.2.1 40 (by decide) (by decide) (by decide), h2 c hc, if_neg (by omega)]⟩))))
end
section
/-! Net: a letter comes -/
def y_tk (cut : Int32) (wy : Nat → Int32) (p : Nat) (l : List Nat) (u : (Nat → List Nat) × y_S) : (Nat → List Nat) × y_S := if u.1 p = l then u else (va_up u.1 p l, y_fo cut wy (va_up u.1 p l) (p / 5) u.2)
set_option maxRecDepth 20000 in
theorem c_X2_takeLetter {σ : z_Sto} {T : Nat → List Nat} {s : y_S} {tk p : Nat} {l : List Nat} (hw : x_way_ok σ) (hT : x_told_ok σ T) (hO : x_own_ok σ s.1) (hq : x_que σ s.2) (ht : σ 35 7 = nI tk) (htk : tk < s.2.2) (hpl : s.2.1 tk = (p, l)) : z_R layX iX2_takeLetter 0 [some (.ref 35), none, none, none, none] [] σ (fun r σ' => r = some (.int (if T p = l then -1 else σ 38 p)) ∧ x_told_ok σ' (y_tk (σ 35 10) (σ 36) p l (T, s)).1 ∧ x_own_ok σ' (y_tk (σ 35 10) (σ 36) p l (T, s)).2.1 ∧ x_que σ' (y_tk (σ 35 10) (σ 36) p l (T, s)).2.2 ∧ σ' 35 7 = nI (tk + 1) ∧ σ' 35 8 = σ 35 8 + nI 1 ∧ (∀ k, k < 5 → σ' 40 k = if ¬ T p = l ∧ k = p / 5 then σ 40 k + nI 1 else σ 40 k) ∧ (∀ c, c ≠ 35 → c ≠ 37 → c ≠ 39 → c ≠ 40 → c ≠ 41 → σ' c = σ c) ∧ (∀ k, k ≠ 6 → k ≠ 7 → k ≠ 8 → σ' 35 k = σ 35 k)) := by
  obtain ⟨hl1, hp, hl⟩ := hq.1 tk htk
  rw [hpl] at hl1 hp hl
  have hp : p < 25 := hp
  have hl : y_ok l := hl
  have hl1 : σ 41 tk = nI (y_code l * 25 + p) := hl1
  have hcb := y_code_b hl
  have h2k := hq.2.2
  have e1 : (y_code l * 25 + p) % 25 = p := by omega
  have e2 : (y_code l * 25 + p) / 25 = y_code l := by omega
  refine z_aload_n (pc := 0) dX2_takeLetter_0 rfl ?_
  refine z_cV0 (pc := 1) mX2_hasLetter l_X2_56 (by decide) dX2_takeLetter_1 (by decide) rfl rfl (by decide) (Nat.le_of_ble_eq_true rfl) (c_X2_hasLetter ht hq.2.1 hq.2.2 (by omega)) rfl (fun r1 σ1 hr1 => ?_)
  obtain ⟨rfl, rfl⟩ := hr1
  rw [if_pos htk]
  refine z_if_ne (pc := 4) (tgt := 9) dX2_takeLetter_4 (by decide) (fun h4 => ?_) (fun h4 => ?_)
  · refine z_aload_n (pc := 9) dX2_takeLetter_9 rfl ?_
    refine z_getA (pc := 10) f_X2_28 dX2_takeLetter_10 (by decide) rfl rfl ?_
    refine z_aload_n (pc := 13) dX2_takeLetter_13 rfl ?_
    refine z_getI (pc := 14) f_X2_35 dX2_takeLetter_14 (by decide) rfl rfl ?_
    rw [ht]
    refine z_ialdN (pc := 17) dX2_takeLetter_17 (by decide) rfl (by decide) (by omega) ?_
    rw [hl1]
    refine z_istore_n (pc := 18) dX2_takeLetter_18 (by decide) rfl rfl ?_
    refine z_aload_n (pc := 19) dX2_takeLetter_19 rfl ?_
    refine z_dup_a (pc := 20) dX2_takeLetter_20 ?_
    refine z_getI (pc := 21) f_X2_35 dX2_takeLetter_21 (by decide) rfl rfl ?_
    rw [ht]
    refine z_iconst (pc := 24) (v := (nI 1)) dX2_takeLetter_24 (by decide) ?_
    refine z_iaddN (pc := 25) dX2_takeLetter_25 ?_
    refine z_putI (pc := 26) f_X2_35 tyX2_ok nmX2 (by decide) rfl rfl rfl dX2_takeLetter_26 (by decide) rfl rfl ?_
    refine z_aload_n (pc := 29) dX2_takeLetter_29 rfl ?_
    refine z_dup_a (pc := 30) dX2_takeLetter_30 ?_
    refine z_getI (pc := 31) f_X2_38 dX2_takeLetter_31 (by decide) rfl rfl ?_
    simp only [z_up_at, reduceIte, Nat.reduceEqDiff]
    refine z_iconst (pc := 34) (v := (nI 1)) dX2_takeLetter_34 (by decide) ?_
    refine z_iadd (pc := 35) dX2_takeLetter_35 ?_
    refine z_putI (pc := 36) f_X2_38 tyX2_ok nmX2 (by decide) rfl rfl rfl dX2_takeLetter_36 (by decide) rfl rfl ?_
    refine z_iload_n (pc := 39) dX2_takeLetter_39 rfl ?_
    refine z_bipush (pc := 40) (v := (nI 25)) dX2_takeLetter_40 (by decide) ?_
    refine z_irem (pc := 42) dX2_takeLetter_42 (by decide) ?_
    rw [pk_rem (by omega) (by decide) (by decide), e1]
    refine z_istore_n (pc := 43) dX2_takeLetter_43 (by decide) rfl rfl ?_
    refine z_iload_n (pc := 44) dX2_takeLetter_44 rfl ?_
    refine z_bipush (pc := 45) (v := (nI 25)) dX2_takeLetter_45 (by decide) ?_
    refine z_idiv (pc := 47) dX2_takeLetter_47 (by decide) ?_
    rw [pk_div (by omega) (by decide) (by decide), e2]
    refine z_istore_n (pc := 48) dX2_takeLetter_48 (by decide) rfl rfl ?_
    refine z_aload_n (pc := 49) dX2_takeLetter_49 rfl ?_
    refine z_getA (pc := 50) f_X2_15 dX2_takeLetter_50 (by decide) rfl rfl ?_
    refine z_iload_n (pc := 53) dX2_takeLetter_53 rfl ?_
    refine z_ialdN (pc := 54) dX2_takeLetter_54 (by decide) rfl (by decide) (hp) ?_
    simp only [z_up_at, reduceIte, Nat.reduceEqDiff]
    rw [hT.2 p hp]
    refine z_iload_n (pc := 55) dX2_takeLetter_55 rfl ?_
    refine z_icmp_ne (pc := 56) (tgt := 61) dX2_takeLetter_56 (by decide) (fun h56 => ?_) (fun h56 => ?_)
    · have q56 : ¬ T p = l := fun g => h56 ((y_code_ne (hT.1 p hp) hl).mpr g)
      refine z_iload_n (pc := 61) dX2_takeLetter_61 rfl ?_
      refine z_iconst (pc := 62) (v := (nI 5)) dX2_takeLetter_62 (by decide) ?_
      refine z_idiv (pc := 63) dX2_takeLetter_63 (by decide) ?_
      rw [pk_div (by omega) (by decide) (by decide)]
      refine z_istore (pc := 64) dX2_takeLetter_64 (by decide) rfl rfl ?_
      refine z_aload_n (pc := 66) dX2_takeLetter_66 rfl ?_
      refine z_getA (pc := 67) f_X2_15 dX2_takeLetter_67 (by decide) rfl rfl ?_
      refine z_iload_n (pc := 70) dX2_takeLetter_70 rfl ?_
      refine z_iload_n (pc := 71) dX2_takeLetter_71 rfl ?_
      refine z_iastN (pc := 72) dX2_takeLetter_72 (by decide) rfl (by decide) (hp) ?_
      refine z_aload_n (pc := 73) dX2_takeLetter_73 rfl ?_
      refine z_getA (pc := 74) f_X2_25 dX2_takeLetter_74 (by decide) rfl rfl ?_
      refine z_iload (pc := 77) dX2_takeLetter_77 rfl ?_
      refine z_dup2 (pc := 79) dX2_takeLetter_79 ?_
      refine z_ialdN (pc := 80) dX2_takeLetter_80 (by decide) rfl (by decide) (by omega) ?_
      simp only [z_up_at, reduceIte, Nat.reduceEqDiff]
      refine z_iconst (pc := 81) (v := (nI 1)) dX2_takeLetter_81 (by decide) ?_
      refine z_iadd (pc := 82) dX2_takeLetter_82 ?_
      refine z_iastN (pc := 83) dX2_takeLetter_83 (by decide) rfl (by decide) (by omega) ?_
      refine z_aload_n (pc := 84) dX2_takeLetter_84 rfl ?_
      refine z_iload (pc := 85) dX2_takeLetter_85 rfl ?_
      have a36 : ∀ τ : z_Sto, (∀ c, c ≠ 35 → c ≠ 37 → c ≠ 40 → τ c = σ1 c) → τ 36 = σ1 36 := fun τ h => h 36 (by decide) (by decide) (by decide)
      refine z_cV1 (pc := 87) mX2_findOwn l_X2_52 (by decide) dX2_takeLetter_87 (by decide) rfl rfl (by decide) (Nat.le_of_ble_eq_true rfl) (c_X2_findOwn (T := va_up T p l) (s := s) (h := p / 5) (fun k hk => by rw [z_up_ne _ _ _ (by decide), z_up_ne _ _ _ (by decide), z_up_ne _ _ _ (by decide), z_up_ne _ _ _ (by decide)]; exact hw k hk) ⟨fun k hk => by by_cases e : k = p; subst e; simp only [va_up, if_true]; exact hl; simp only [va_up, if_neg e]; exact hT.1 k hk, fun k hk => by rw [z_up_ne _ _ _ (by decide), z_up_same]; by_cases e : k = p; subst e; rw [z_upd_s]; simp only [va_up, if_true]; rw [z_upd_n e, z_up_ne _ _ _ (by decide), z_up_ne _ _ _ (by decide)]; simp only [va_up, if_neg e]; exact hT.2 k hk⟩ (fun k hk => by rw [z_up_ne _ _ _ (by decide), z_up_ne _ _ _ (by decide), z_up_ne _ _ _ (by decide), z_up_ne _ _ _ (by decide)]; exact hO k hk) ⟨fun j hj => by rw [z_up_ne _ _ _ (by decide), z_up_ne _ _ _ (by decide), z_up_ne _ _ _ (by decide), z_up_ne _ _ _ (by decide)]; exact hq.1 j hj, by simp [z_up_at, hq.2.1], hq.2.2⟩ (by omega)) rfl (fun r87 σ87 hr87 => ?_)
      obtain ⟨rfl, ⟨g1, g2⟩, g3, g4⟩ := hr87
      rw [show (z_up (z_up (z_up (z_up σ1 35 7 (nI (tk + 1))) 35 8 (σ1 35 8 + nI 1)) 37 p (nI (y_code l))) 40 (p / 5) (σ1 40 (p / 5) + nI 1)) 35 10 = σ1 35 10 by simp [z_up_at]] at g1 g2
      rw [show (z_up (z_up (z_up (z_up σ1 35 7 (nI (tk + 1))) 35 8 (σ1 35 8 + nI 1)) 37 p (nI (y_code l))) 40 (p / 5) (σ1 40 (p / 5) + nI 1)) 36 = σ1 36 by rw [z_up_ne _ _ _ (by decide), z_up_ne _ _ _ (by decide), z_up_ne _ _ _ (by decide), z_up_ne _ _ _ (by decide)]] at g1 g2
      refine z_aload_n (pc := 90) dX2_takeLetter_90 rfl ?_
      refine z_getA (pc := 91) f_X2_19 dX2_takeLetter_91 (by decide) rfl rfl ?_
      refine z_iload_n (pc := 94) dX2_takeLetter_94 rfl ?_
      refine z_ialdN (pc := 95) dX2_takeLetter_95 (by decide) rfl (by decide) (hp) ?_
      exact z_ireturn (pc := 96) dX2_takeLetter_96 rfl rfl (⟨by rw [if_neg q56, g3 38 (by decide) (by decide) (by decide), z_up_ne _ _ _ (by decide), z_up_ne _ _ _ (by decide), z_up_ne _ _ _ (by decide), z_up_ne _ _ _ (by decide)], by rw [y_tk, if_neg q56]; exact ⟨fun k hk => by by_cases e : k = p; subst e; simp only [va_up, if_true]; exact hl; simp only [va_up, if_neg e]; exact hT.1 k hk, fun k hk => by rw [g3 37 (by decide) (by decide) (by decide), z_up_ne _ _ _ (by decide), z_up_same]; by_cases e : k = p; subst e; rw [z_upd_s]; simp only [va_up, if_true]; rw [z_upd_n e, z_up_ne _ _ _ (by decide), z_up_ne _ _ _ (by decide)]; simp only [va_up, if_neg e]; exact hT.2 k hk⟩, by rw [y_tk, if_neg q56]; exact g1, by rw [y_tk, if_neg q56]; exact g2, by rw [g4 7 (by decide)]; simp [z_up_at], by rw [g4 8 (by decide)]; simp [z_up_at], fun k hk => by rw [g3 40 (by decide) (by decide) (by decide), z_up_same]; by_cases e : k = p / 5; rw [e, z_upd_s, if_pos ⟨q56, rfl⟩]; rw [z_upd_n e, if_neg (fun g => e g.2), z_up_ne _ _ _ (by decide), z_up_ne _ _ _ (by decide), z_up_ne _ _ _ (by decide)], fun c a1 a2 a3 a4 a5 => by rw [g3 c a5 a1 a3, z_up_ne _ _ _ a4, z_up_ne _ _ _ a2, z_up_ne _ _ _ a1, z_up_ne _ _ _ a1], fun k a1 a2 a3 => by rw [g4 k a1]; simp [z_up_at, a2, a3]⟩)
    · have q56 : T p = l := (y_code_ne (hT.1 p hp) hl).mp h56
      refine z_iconst (pc := 59) (v := (-1)) dX2_takeLetter_59 (by decide) ?_
      exact z_ireturn (pc := 60) dX2_takeLetter_60 rfl rfl (⟨by rw [if_pos q56], by rw [y_tk, if_pos q56]; exact ⟨hT.1, fun k hk => by rw [z_up_ne _ _ _ (by decide), z_up_ne _ _ _ (by decide)]; exact hT.2 k hk⟩, by rw [y_tk, if_pos q56]; exact fun k hk => by rw [z_up_ne _ _ _ (by decide), z_up_ne _ _ _ (by decide)]; exact hO k hk, by rw [y_tk, if_pos q56]; exact ⟨fun j hj => by rw [z_up_ne _ _ _ (by decide), z_up_ne _ _ _ (by decide)]; exact hq.1 j hj, by simp [z_up_at, hq.2.1], hq.2.2⟩, by simp [z_up_at], by simp [z_up_at], fun k _ => by rw [if_neg (fun g => g.1 q56), z_up_ne _ _ _ (by decide), z_up_ne _ _ _ (by decide)], fun c a1 _ _ _ _ => by rw [z_up_ne _ _ _ a1, z_up_ne _ _ _ a1], fun k a1 a2 a3 => by simp [z_up_at, a2, a3]⟩)
  · exact absurd h4 (by decide)
end
section
/-! what holds of the class's cells between calls -/
def z_01 (x : Int32) : Prop := x = nI 0 ∨ x = nI 1
def x_brd (b : Nat) (σ : z_Sto) : Prop := (∀ i, z_01 (σ (b + 5) i)) ∧ (∀ s, z_01 (σ (b + 4) s))
theorem x_look_brd {b s n : Nat} {σ : z_Sto} (h : x_brd b σ) : x_brd b (x_look b s n σ) := by
  unfold x_brd
  rw [x_look_fr (by omega), x_look_fr (by omega)]
  exact h
theorem x_up_brd {b c k : Nat} {v : Int32} {σ : z_Sto} (h : x_brd b σ) (hv : (c = b + 5 ∨ c = b + 4) → z_01 v) : x_brd b (z_up σ c k v) := by
  refine ⟨fun i => ?_, fun i => ?_⟩
  · rw [z_up_at]
    split
    · split
      · exact hv (by omega)
      · exact h.1 i
    · exact h.1 i
  · rw [z_up_at]
    split
    · split
      · exact hv (by omega)
      · exact h.2 i
    · exact h.2 i
theorem x_lo_brd {b s : Nat} {k : Int32} {f i : Nat} {σ : z_Sto} (h : x_brd b σ) : x_brd b (x_lo b s k f i σ) := by
  unfold x_brd
  rw [x_lo_fr (by omega), x_lo_fr (by omega)]
  exact h
theorem x_set_brd {b v s n : Nat} {to : Int32} {σ : z_Sto} (h : x_brd b σ) : x_brd b (x_set b v s n to σ) := by
  unfold x_set
  split
  · exact x_up_brd h (fun q => by omega)
  · refine x_look_brd (x_lo_brd (x_up_brd (x_up_brd h (fun q => by omega)) (fun _ => ?_)))
    split
    · exact Or.inl rfl
    · exact Or.inr rfl
theorem x_sa_brd {b v n : Nat} {to : Int32} : ∀ (f s : Nat) (σ : z_Sto), x_brd b σ → x_brd b (x_sa b v n to f s σ)
  | 0, _, _, h => h
  | f + 1, s, σ, h => by
    rw [x_sa]
    exact x_sa_brd f (s + 1) _ (x_set_brd h)
theorem x_take_brd {b v s i w n : Nat} {t : Int32} {σ : z_Sto} (h : x_brd b σ) : x_brd b (x_take b v s i w n t σ) := by
  unfold x_take
  refine x_look_brd ?_
  have h1 : x_brd b (x_t2 b i w (x_t1 b v s i w t (x_set b v s n t σ))) := by
    have h2 : x_brd b (x_t1 b v s i w t (x_set b v s n t σ)) := x_up_brd (x_up_brd (x_up_brd (x_set_brd h) (fun q => by omega)) (fun q => by omega)) (fun q => by omega)
    unfold x_t2
    split
    · exact h2
    · refine x_up_brd h2 (fun _ => ?_)
      split
      · exact Or.inr rfl
      · exact Or.inl rfl
  unfold x_t3
  split
  · exact h1
  · exact x_up_brd (x_up_brd h1 (fun _ => Or.inr rfl)) (fun q => by omega)
theorem x_rp_brd {b v : Nat} {t : Int32} {f s : Nat} {σ : z_Sto} (h : x_brd b σ) : x_brd b (x_rp b v t f s σ) := by
  unfold x_brd
  rw [x_rp_fr (by omega), x_rp_fr (by omega)]
  exact h
def x_slots (σ : z_Sto) (n : Nat) : Prop := ∀ i, i < n → ∃ s, s < 16 ∧ σ 5 i = nI s
def x_bnd (σ : z_Sto) (n : Nat) : Prop := ∀ p, p < 25 → σ 38 p = -1 ∨ ∃ k, k < n ∧ σ 38 p = nI k
def x_inv (σ : z_Sto) (n e h : Nat) (T O : Nat → List Nat) : Prop := x_ok σ n e h ∧ x_slots σ n ∧ x_brd 11 σ ∧ x_way_ok σ ∧ x_told_ok σ T ∧ x_own_ok σ O ∧ x_bnd σ n
/-- what most calls leave as it was: now, the rules, the lines, their marks, the ways -/
def x_pub (σ' σ : z_Sto) : Prop := σ' 0 = σ 0 ∧ σ' 2 = σ 2 ∧ σ' 3 = σ 3 ∧ σ' 6 = σ 6 ∧ σ' 36 = σ 36
theorem x_pub_rf {σ : z_Sto} : x_pub σ σ := ⟨rfl, rfl, rfl, rfl, rfl⟩
theorem x_pub.tr {a b c : z_Sto} (h : x_pub a b) (g : x_pub b c) : x_pub a c := ⟨h.1.trans g.1, h.2.1.trans g.2.1, h.2.2.1.trans g.2.2.1, h.2.2.2.1.trans g.2.2.2.1, h.2.2.2.2.trans g.2.2.2.2⟩
/-- only cells of the board or the replay differ -/
theorem x_inv_fr {σ τ : z_Sto} {n e h : Nat} {T O : Nat → List Nat} (H : x_inv σ n e h T O) (hb : x_brd 11 τ) (f : ∀ c, c = 2 ∨ c = 3 ∨ c = 5 ∨ c = 7 ∨ c = 8 ∨ c = 9 ∨ c = 36 ∨ c = 37 ∨ c = 38 ∨ c = 39 → τ c = σ c) : x_inv τ n e h T O := by
  obtain ⟨a1, a2, a3, a4, a5, a6, a7⟩ := H
  refine ⟨x_ok_fr a1 (fun c hc => f c (by omega)), ?_, hb, ?_, ⟨a5.1, ?_⟩, ?_, ?_⟩
  · intro i hi; rw [f 5 (by decide)]; exact a2 i hi
  · intro k hk; rw [f 36 (by decide)]; exact a4 k hk
  · intro k hk; rw [f 37 (by decide)]; exact a5.2 k hk
  · intro k hk; rw [f 39 (by decide)]; exact a6 k hk
  · intro k hk; rw [f 38 (by decide)]; exact a7 k hk
def x_wr (e i w : Nat) (t : Int32) (σ : z_Sto) : z_Sto := z_up (z_up (z_up (z_up σ 8 e (nI i)) 9 e (nI w)) 10 e t) 7 3 (nI (e + 1))
theorem x_wr_fr {e i w c : Nat} {t : Int32} {σ : z_Sto} (h : c ≠ 7 ∧ c ≠ 8 ∧ c ≠ 9 ∧ c ≠ 10) : x_wr e i w t σ c = σ c := by
  rw [x_wr, z_up_ne _ _ _ h.1, z_up_ne _ _ _ h.2.2.2, z_up_ne _ _ _ h.2.2.1, z_up_ne _ _ _ h.2.1]
theorem x_wr_inv {σ : z_Sto} {n e h i w s : Nat} {t : Int32} {T O : Nat → List Nat} (H : x_inv σ n e h T O) (hi : i < n) (hw : w < 3) (he : e < 300) (hs : s < 16) (hsl : σ 5 i = nI s) : x_inv (x_wr e i w t σ) n (e + 1) h T O := by
  obtain ⟨⟨b1, b2, b3, b4, b5, b6, b7⟩, a2, a3, a4, a5, a6, a7⟩ := H
  refine ⟨⟨by rw [x_wr_fr (by decide)]; exact b1, b2, by rw [x_wr, z_up_same, z_upd_s], by omega, ?_, by rw [x_wr_fr (by decide)]; exact b6, b7⟩, ?_, ?_, ?_, ⟨a5.1, ?_⟩, ?_, ?_⟩
  · intro j hj
    by_cases q : j = e
    · subst q
      refine ⟨i, w, s, hi, hw, hs, ?_, ?_, ?_⟩
      · simp [x_wr, z_up_at]
      · simp [x_wr, z_up_at]
      · rw [x_wr_fr (by decide)]; exact hsl
    · obtain ⟨i', w', s', h1, h2, h3, h4, h5, h6⟩ := b5 j (by omega)
      refine ⟨i', w', s', h1, h2, h3, ?_, ?_, ?_⟩
      · simp [x_wr, z_up_at, q, h4]
      · simp [x_wr, z_up_at, q, h5]
      · rw [x_wr_fr (by decide)]; exact h6
  · intro j hj; rw [x_wr_fr (by decide)]; exact a2 j hj
  · exact ⟨fun j => by rw [x_wr_fr (by decide)]; exact a3.1 j, fun j => by rw [x_wr_fr (by decide)]; exact a3.2 j⟩
  · intro k hk; rw [x_wr_fr (by decide)]; exact a4 k hk
  · intro k hk; rw [x_wr_fr (by decide)]; exact a5.2 k hk
  · intro k hk; rw [x_wr_fr (by decide)]; exact a6 k hk
  · intro k hk; rw [x_wr_fr (by decide)]; exact a7 k hk
def x_hap (n e s i w : Nat) (σ : z_Sto) : z_Sto := x_take 11 2 s i w n (σ 0 6) (x_wr e i w (σ 0 6) σ)
theorem x_hap_fr {n e s i w c : Nat} {σ : z_Sto} (h : c < 7 ∨ 20 < c) : x_hap n e s i w σ c = σ c := by
  rw [x_hap, x_take_fr (by unfold x_away; omega), x_wr_fr (by omega)]
theorem x_hap_inv {σ : z_Sto} {n e h i w s : Nat} {T O : Nat → List Nat} (H : x_inv σ n e h T O) (hi : i < n) (hw : w < 3) (he : e < 300) (hs : s < 16) (hsl : σ 5 i = nI s) : x_inv (x_hap n e s i w σ) n (e + 1) h T O ∧ x_pub (x_hap n e s i w σ) σ := by
  have H1 := x_wr_inv (t := σ 0 6) H hi hw he hs hsl
  exact ⟨x_inv_fr H1 (x_take_brd H1.2.2.1) (fun c hc => x_take_fr (by unfold x_away; omega)), x_hap_fr (by decide), x_hap_fr (by decide), x_hap_fr (by decide), x_hap_fr (by decide), x_hap_fr (by decide)⟩
end
section
/-! CalmLines: its methods, first half -/
theorem z_sw (x : Int32) (m : Nat) (hm : m < 2 ^ 31) : (∃ k, k < m ∧ x = nI k) ∨ (x.toInt < 0 ∨ (m : Int) - 1 < x.toInt) := by
  rcases pk_ix x hm with h | h | h
  · right; left
    rw [Int32.lt_iff_toInt_lt] at h
    exact h
  · right; right
    rw [Int32.le_iff_toInt_le, nI_toInt hm] at h
    omega
  · exact Or.inl h
theorem c_has {σ : z_Sto} {x : Int32} {n : Nat} (hn : σ 3 3 = nI n) (h12 : n ≤ 12) : z_R layX iX4_has 0 [some (.ref 3), some (.int x)] [] σ (fun r σ' => ∃ v, r = some (.int v) ∧ (¬ v = 0 → ∃ k, k < n ∧ x = nI k) ∧ (v = 0 → ∀ k, k < n → x ≠ nI k) ∧ σ' = σ) :=
  (c_X4_has hn h12).mono (fun r σ' h => by
    obtain ⟨⟨k, hk, e, rfl⟩ | ⟨g, rfl⟩, e2⟩ := h
    · exact ⟨_, rfl, fun _ => ⟨k, hk, e⟩, fun q => absurd q (by decide), e2⟩
    · exact ⟨_, rfl, fun q => absurd rfl q, fun _ => g, e2⟩)
theorem c_isHouse {σ : z_Sto} {x : Int32} : z_R layX iX2_isHouse 0 [some (.int x)] [] σ (fun r σ' => ∃ v, r = some (.int v) ∧ (¬ v = 0 → ∃ k, k < 5 ∧ x = nI k) ∧ (v = 0 → ∀ k, k < 5 → x ≠ nI k) ∧ σ' = σ) :=
  c_X2_isHouse.mono (fun r σ' h => by
    obtain ⟨⟨k, hk, e, rfl⟩ | ⟨g, rfl⟩, e2⟩ := h
    · exact ⟨_, rfl, fun _ => ⟨k, hk, e⟩, fun q => absurd q (by decide), e2⟩
    · exact ⟨_, rfl, fun q => absurd rfl q, fun _ => g, e2⟩)
theorem c_admits {σ : z_Sto} {w v : Int32} : z_R layX iX5_admits 0 [some (.ref 1), some (.int w), some (.int v)] [] σ (fun r σ' => ∃ u, r = some (.int u) ∧ (¬ u = 0 → x_adm σ w v) ∧ (u = 0 → ¬ x_adm σ w v) ∧ σ' = σ) :=
  c_X5_admits.mono (fun r σ' h => by
    obtain ⟨⟨rfl, g⟩ | ⟨rfl, g⟩, e2⟩ := h
    · exact ⟨_, rfl, fun _ => g, fun q => absurd q (by decide), e2⟩
    · exact ⟨_, rfl, fun q => absurd rfl q, fun _ => g, e2⟩)
theorem c_areMarks {σ : z_Sto} {s o : Int32} : z_R layX iX5_areMarks 0 [some (.int s), some (.int o)] [] σ (fun r σ' => ∃ u, r = some (.int u) ∧ (¬ u = 0 → x_arm s o) ∧ (u = 0 → ¬ x_arm s o) ∧ σ' = σ) :=
  c_X5_areMarks.mono (fun r σ' h => by
    obtain ⟨⟨rfl, g⟩ | ⟨rfl, g⟩, e2⟩ := h
    · exact ⟨_, rfl, fun _ => g, fun q => absurd q (by decide), e2⟩
    · exact ⟨_, rfl, fun q => absurd rfl q, fun _ => g, e2⟩)
set_option maxRecDepth 20000 in
theorem c_X6_happen {σ : z_Sto} {n e h i w s : Nat} {T O : Nat → List Nat} (H : x_inv σ n e h T O) (hi : i < n) (hw : w < 3) (hs : s < 16) (hsl : σ 5 i = nI s) : z_R layX iX6_happen 0 [some (.ref 0), some (.int (nI i)), some (.int (nI w))] [] σ (fun r σ' => (e < 300 ∧ r = some (.int (nI 1)) ∧ σ' = x_hap n e s i w σ) ∨ (e = 300 ∧ r = some (.int (nI 0)) ∧ σ' = σ)) := by
  have h12 := H.1.2.1
  have h3 := H.1.2.2.2.1
  refine z_aload_n (pc := 0) dX6_happen_0 rfl ?_
  refine z_getA (pc := 1) f_X6_26 dX6_happen_1 (by decide) rfl rfl ?_
  refine z_cV0 (pc := 4) mX1_isFull l_X6_106 (by decide) dX6_happen_4 (by decide) rfl rfl (by decide) (Nat.le_of_ble_eq_true rfl) (c_X1_isFull H.1.2.2.1 H.1.2.2.2.1) rfl (fun r4 σ4 hr4 => ?_)
  obtain ⟨rfl, rfl⟩ := hr4
  refine z_if_eq (pc := 7) (tgt := 12) dX6_happen_7 (by decide) (fun h7 => ?_) (fun h7 => ?_)
  · have q7 : e < 300 := by (by_cases g : e < 300; exact g; exact absurd h7 (by rw [if_neg g]; decide))
    refine z_aload_n (pc := 12) dX6_happen_12 rfl ?_
    refine z_getA (pc := 13) f_X6_26 dX6_happen_13 (by decide) rfl rfl ?_
    refine z_iload_n (pc := 16) dX6_happen_16 rfl ?_
    refine z_iload_n (pc := 17) dX6_happen_17 rfl ?_
    refine z_aload_n (pc := 18) dX6_happen_18 rfl ?_
    refine z_getI (pc := 19) f_X6_55 dX6_happen_19 (by decide) rfl rfl ?_
    refine z_cV3 (pc := 22) mX1_write l_X6_107 (by decide) dX6_happen_22 (by decide) rfl rfl (by decide) (Nat.le_of_ble_eq_true rfl) (c_X1_write H.1.2.2.1 q7) rfl (fun r22 σ22 hr22 => ?_)
    obtain ⟨rfl, rfl⟩ := hr22
    refine z_aload_n (pc := 25) dX6_happen_25 rfl ?_
    refine z_getA (pc := 26) f_X6_35 dX6_happen_26 (by decide) rfl rfl ?_
    refine z_iload_n (pc := 29) dX6_happen_29 rfl ?_
    refine z_iload_n (pc := 30) dX6_happen_30 rfl ?_
    refine z_aload_n (pc := 31) dX6_happen_31 rfl ?_
    have H1 := x_wr_inv (t := σ4 0 6) H hi hw q7 hs hsl
    refine z_getI (pc := 32) f_X6_55 dX6_happen_32 (by decide) rfl rfl ?_
    refine z_cV3 (pc := 35) mX0_take l_X6_111 (by decide) dX6_happen_35 (by decide) rfl rfl (by decide) (Nat.le_of_ble_eq_true rfl) (c_X0_take (σ := x_wr e i w (σ4 0 6) σ4) (by omega) (by rw [x_wr_fr (by decide)]; exact hsl) hs H1.1.1 h12 hw H1.1.2.2.2.2.2.1 H1.1.2.2.2.2.2.2.1 H1.1.2.2.2.2.2.2.2) rfl (fun r35 σ35 hr35 => ?_)
    obtain ⟨er35, eσ35⟩ := hr35
    subst er35
    refine z_iconst (pc := 38) (v := (nI 1)) dX6_happen_38 (by decide) ?_
    exact z_ireturn (pc := 39) dX6_happen_39 rfl (by decide) (Or.inl ⟨q7, rfl, eσ35⟩)
  · have q7 : e = 300 := by (by_cases g : e < 300; exact absurd (by rw [if_pos g]; rfl) h7; omega)
    refine z_iconst (pc := 10) (v := (nI 0)) dX6_happen_10 (by decide) ?_
    exact z_ireturn (pc := 11) dX6_happen_11 rfl (by decide) (Or.inr ⟨q7, rfl, rfl⟩)
set_option maxRecDepth 20000 in
theorem c_X6_penaltyAfter {σ : z_Sto} {n e h i w s : Nat} {T O : Nat → List Nat} (H : x_inv σ n e h T O) (hi : i < n) (hw : w < 3) (hs : s < 16) (hsl : σ 5 i = nI s) : z_R layX iX6_penaltyAfter 0 [some (.ref 0), some (.int (nI i)), some (.int (nI w))] [] σ (fun r σ' => (e < 300 ∧ r = some (.int (x_pen 11 2 s (σ 0 6) (x_hap n e s i w σ))) ∧ σ' = x_hap n e s i w σ) ∨ (e = 300 ∧ r = some (.int (-4)) ∧ σ' = σ)) := by
  have h12 := H.1.2.1
  refine z_aload_n (pc := 0) dX6_penaltyAfter_0 rfl ?_
  refine z_iload_n (pc := 1) dX6_penaltyAfter_1 rfl ?_
  refine z_iload_n (pc := 2) dX6_penaltyAfter_2 rfl ?_
  refine z_cV2 (pc := 3) mX6_happen l_X6_100 (by decide) dX6_penaltyAfter_3 (by decide) rfl rfl (by decide) (Nat.le_of_ble_eq_true rfl) ((c_X6_happen H hi hw hs hsl).mono (Ψ := fun r σ' => ∃ v, r = some (.int v) ∧ (¬ v = 0 → e < 300 ∧ σ' = x_hap n e s i w σ) ∧ (v = 0 → e = 300 ∧ σ' = σ)) (fun r σ' g => g.elim (fun g => ⟨_, g.2.1, fun _ => ⟨g.1, g.2.2⟩, fun q => absurd q (by decide)⟩) (fun g => ⟨_, g.2.1, fun q => absurd rfl q, fun _ => ⟨g.1, g.2.2⟩⟩))) rfl (fun r3 σ3 hr3 => ?_)
  obtain ⟨v3, rfl, g3, g4⟩ := hr3
  refine z_if_eq (pc := 6) (tgt := 24) dX6_penaltyAfter_6 (by decide) (fun h6 => ?_) (fun h6 => ?_)
  · obtain ⟨q1, q2⟩ := g4 h6
    refine z_bipush (pc := 24) (v := (-4)) dX6_penaltyAfter_24 (by decide) ?_
    exact z_ireturn (pc := 26) dX6_penaltyAfter_26 rfl rfl (by first | exact Or.inr ⟨q1, rfl, q2⟩ | exact Or.inl ⟨q1, by rw [← q2], q2⟩)
  · obtain ⟨q1, q2⟩ := g3 h6
    have H1 := (x_hap_inv H hi hw q1 hs hsl).1
    rw [← q2] at H1
    have e06 : σ3 0 6 = σ 0 6 := by rw [q2, x_hap_fr (by decide)]
    refine z_aload_n (pc := 9) dX6_penaltyAfter_9 rfl ?_
    refine z_getA (pc := 10) f_X6_35 dX6_penaltyAfter_10 (by decide) rfl rfl ?_
    refine z_iload_n (pc := 13) dX6_penaltyAfter_13 rfl ?_
    refine z_aload_n (pc := 14) dX6_penaltyAfter_14 rfl ?_
    refine z_getI (pc := 15) f_X6_55 dX6_penaltyAfter_15 (by decide) rfl rfl ?_
    rw [e06]
    refine z_cV2 (pc := 18) mX0_penaltyOf l_X6_103 (by decide) dX6_penaltyAfter_18 (by decide) rfl rfl (by decide) (Nat.le_of_ble_eq_true rfl) (c_X0_penaltyOf (by omega) (by rw [q2, x_hap_fr (by decide)]; exact hsl) hs H1.1.2.2.2.2.2.1 H1.1.2.2.2.2.2.2.1 H1.1.2.2.2.2.2.2.2) rfl (fun r18 σ18 hr18 => ?_)
    obtain ⟨rfl, rfl⟩ := hr18
    refine z_goto (pc := 21) (tgt := 26) dX6_penaltyAfter_21 (by decide) ?_
    exact z_ireturn (pc := 26) dX6_penaltyAfter_26 rfl rfl (by first | exact Or.inr ⟨q1, rfl, q2⟩ | exact Or.inl ⟨q1, by rw [← q2], q2⟩)
def x_some (r : Option Value) : Prop := ∃ v : Int32, r = some (.int v)
def x_keepP (σ : z_Sto) (n h : Nat) (r : Option Value) (σ' : z_Sto) : Prop := x_some r ∧ (∃ e T O, x_inv σ' n e h T O) ∧ x_pub σ' σ
theorem x_pen_keep {σ : z_Sto} {n e h i w s : Nat} {T O : Nat → List Nat} (H : x_inv σ n e h T O) (hi : i < n) (hw : w < 3) (hs : s < 16) (hsl : σ 5 i = nI s) : z_R layX iX6_penaltyAfter 0 [some (.ref 0), some (.int (nI i)), some (.int (nI w))] [] σ (x_keepP σ n h) :=
  (c_X6_penaltyAfter H hi hw hs hsl).mono (fun r σ' g => by
    rcases g with ⟨g1, rfl, rfl⟩ | ⟨g1, rfl, rfl⟩
    · have := x_hap_inv H hi hw g1 hs hsl
      exact ⟨⟨_, rfl⟩, ⟨_, _, _, this.1⟩, this.2⟩
    · exact ⟨⟨_, rfl⟩, ⟨_, _, _, H⟩, x_pub_rf⟩)
set_option maxRecDepth 20000 in
theorem k_echo {σ : z_Sto} {n e h : Nat} {x : Int32} {T O : Nat → List Nat} (H : x_inv σ n e h T O) : z_R layX iX6_echo 0 [some (.ref 0), some (.int x)] [] σ (x_keepP σ n h) := by
  refine z_aload_n (pc := 0) dX6_echo_0 rfl ?_
  refine z_getA (pc := 1) f_X6_19 dX6_echo_1 (by decide) rfl rfl ?_
  refine z_iload_n (pc := 4) dX6_echo_4 rfl ?_
  refine z_cV1 (pc := 5) mX4_has l_X6_90 (by decide) dX6_echo_5 (by decide) rfl rfl (by decide) (Nat.le_of_ble_eq_true rfl) (c_has H.1.1 H.1.2.1) rfl (fun r5 σ5 hr5 => ?_)
  obtain ⟨v5, rfl, g5, g6, rfl⟩ := hr5
  refine z_if_ne (pc := 8) (tgt := 14) dX6_echo_8 (by decide) (fun h8 => ?_) (fun h8 => ?_)
  · obtain ⟨i, hi, rfl⟩ := g5 h8
    obtain ⟨s, hs, hsl⟩ := H.2.1 i hi
    refine z_aload_n (pc := 14) dX6_echo_14 rfl ?_
    refine z_iload_n (pc := 15) dX6_echo_15 rfl ?_
    refine z_iconst (pc := 16) (v := (nI 2)) dX6_echo_16 (by decide) ?_
    refine z_cV2 (pc := 17) mX6_penaltyAfter l_X6_97 (by decide) dX6_echo_17 (by decide) rfl rfl (by decide) (Nat.le_of_ble_eq_true rfl) (x_pen_keep H hi (by decide) hs hsl) rfl (fun r17 σ17 hr17 => ?_)
    obtain ⟨⟨v17, rfl⟩, g17⟩ := hr17
    exact z_ireturn (pc := 20) dX6_echo_20 rfl rfl (⟨⟨_, rfl⟩, g17⟩)
  · refine z_bipush (pc := 11) (v := (-2)) dX6_echo_11 (by decide) ?_
    exact z_ireturn (pc := 13) dX6_echo_13 rfl rfl (⟨⟨_, rfl⟩, ⟨_, _, _, H⟩, x_pub_rf⟩)
set_option maxRecDepth 20000 in
theorem k_change {σ : z_Sto} {n e h : Nat} {x y : Int32} {T O : Nat → List Nat} (H : x_inv σ n e h T O) : z_R layX iX6_change 0 [some (.ref 0), some (.int x), some (.int y)] [] σ (x_keepP σ n h) := by
  have h12 := H.1.2.1
  refine z_aload_n (pc := 0) dX6_change_0 rfl ?_
  refine z_getA (pc := 1) f_X6_19 dX6_change_1 (by decide) rfl rfl ?_
  refine z_iload_n (pc := 4) dX6_change_4 rfl ?_
  refine z_cV1 (pc := 5) mX4_has l_X6_90 (by decide) dX6_change_5 (by decide) rfl rfl (by decide) (Nat.le_of_ble_eq_true rfl) (c_has H.1.1 H.1.2.1) rfl (fun r5 σ5 hr5 => ?_)
  obtain ⟨v5, rfl, g5, g6, rfl⟩ := hr5
  refine z_if_ne (pc := 8) (tgt := 14) dX6_change_8 (by decide) (fun h8 => ?_) (fun h8 => ?_)
  · obtain ⟨i, hi, rfl⟩ := g5 h8
    obtain ⟨s, hs, hsl⟩ := H.2.1 i hi
    refine z_aload_n (pc := 14) dX6_change_14 rfl ?_
    refine z_getA (pc := 15) f_X6_35 dX6_change_15 (by decide) rfl rfl ?_
    refine z_iload_n (pc := 18) dX6_change_18 rfl ?_
    refine z_cV1 (pc := 19) mX0_isUp l_X6_94 (by decide) dX6_change_19 (by decide) rfl rfl (by decide) (Nat.le_of_ble_eq_true rfl) (c_X0_isUp (by omega) (H.2.2.1.1 i)) rfl (fun r19 σ19 hr19 => ?_)
    obtain ⟨rfl, rfl⟩ := hr19
    refine z_iload_n (pc := 22) dX6_change_22 rfl ?_
    refine z_icmp_ne (pc := 23) (tgt := 29) dX6_change_23 (by decide) (fun h23 => ?_) (fun h23 => ?_)
    · refine z_aload_n (pc := 29) dX6_change_29 rfl ?_
      refine z_iload_n (pc := 30) dX6_change_30 rfl ?_
      refine z_iload_n (pc := 31) dX6_change_31 rfl ?_
      refine z_if_eq (pc := 32) (tgt := 39) dX6_change_32 (by decide) (fun h32 => ?_) (fun h32 => ?_)
      · refine z_iconst (pc := 39) (v := (nI 0)) dX6_change_39 (by decide) ?_
        refine z_cV2 (pc := 40) mX6_penaltyAfter l_X6_97 (by decide) dX6_change_40 (by decide) rfl rfl (by decide) (Nat.le_of_ble_eq_true rfl) (x_pen_keep H hi (by decide) hs hsl) rfl (fun r40 σ40 hr40 => ?_)
        obtain ⟨⟨v40, rfl⟩, g40⟩ := hr40
        exact z_ireturn (pc := 43) dX6_change_43 rfl rfl (⟨⟨_, rfl⟩, g40⟩)
      · refine z_iconst (pc := 35) (v := (nI 1)) dX6_change_35 (by decide) ?_
        refine z_goto (pc := 36) (tgt := 40) dX6_change_36 (by decide) ?_
        refine z_cV2 (pc := 40) mX6_penaltyAfter l_X6_97 (by decide) dX6_change_40 (by decide) rfl rfl (by decide) (Nat.le_of_ble_eq_true rfl) (x_pen_keep H hi (by decide) hs hsl) rfl (fun r40 σ40 hr40 => ?_)
        obtain ⟨⟨v40, rfl⟩, g40⟩ := hr40
        exact z_ireturn (pc := 43) dX6_change_43 rfl rfl (⟨⟨_, rfl⟩, g40⟩)
    · refine z_bipush (pc := 26) (v := (-3)) dX6_change_26 (by decide) ?_
      exact z_ireturn (pc := 28) dX6_change_28 rfl rfl (⟨⟨_, rfl⟩, ⟨_, _, _, H⟩, x_pub_rf⟩)
  · refine z_bipush (pc := 11) (v := (-2)) dX6_change_11 (by decide) ?_
    exact z_ireturn (pc := 13) dX6_change_13 rfl rfl (⟨⟨_, rfl⟩, ⟨_, _, _, H⟩, x_pub_rf⟩)
set_option maxRecDepth 20000 in
theorem k_faded {σ : z_Sto} {n e h : Nat} {x y : Int32} {T O : Nat → List Nat} (H : x_inv σ n e h T O) : z_R layX iX6_faded 0 [some (.ref 0), some (.int x), some (.int y)] [] σ (fun r σ' => x_some r ∧ σ' = σ) := by
  refine z_iload_n (pc := 0) dX6_faded_0 rfl ?_
  refine z_if_lt (pc := 1) (tgt := 20) dX6_faded_1 (by decide) (fun h1 => ?_) (fun h1 => ?_)
  · refine z_bipush (pc := 20) (v := (-2)) dX6_faded_20 (by decide) ?_
    exact z_ireturn (pc := 22) dX6_faded_22 rfl rfl (⟨⟨_, rfl⟩, rfl⟩)
  · refine z_iload_n (pc := 4) dX6_faded_4 rfl ?_
    refine z_ldc (pc := 5) k_X6_86 dX6_faded_5 ?_
    refine z_icmp_gt (pc := 7) (tgt := 20) dX6_faded_7 (by decide) (fun h7 => ?_) (fun h7 => ?_)
    · refine z_bipush (pc := 20) (v := (-2)) dX6_faded_20 (by decide) ?_
      exact z_ireturn (pc := 22) dX6_faded_22 rfl rfl (⟨⟨_, rfl⟩, rfl⟩)
    · refine z_iload_n (pc := 10) dX6_faded_10 rfl ?_
      refine z_if_lt (pc := 11) (tgt := 20) dX6_faded_11 (by decide) (fun h11 => ?_) (fun h11 => ?_)
      · refine z_bipush (pc := 20) (v := (-2)) dX6_faded_20 (by decide) ?_
        exact z_ireturn (pc := 22) dX6_faded_22 rfl rfl (⟨⟨_, rfl⟩, rfl⟩)
      · refine z_iload_n (pc := 14) dX6_faded_14 rfl ?_
        refine z_ldc (pc := 15) k_X6_86 dX6_faded_15 ?_
        refine z_icmp_le (pc := 17) (tgt := 23) dX6_faded_17 (by decide) (fun h17 => ?_) (fun h17 => ?_)
        · refine z_aload_n (pc := 23) dX6_faded_23 rfl ?_
          refine z_getA (pc := 24) f_X6_10 dX6_faded_24 (by decide) rfl rfl ?_
          refine z_iload_n (pc := 27) dX6_faded_27 rfl ?_
          refine z_iload_n (pc := 28) dX6_faded_28 rfl ?_
          refine z_cV2 (pc := 29) mX5_fade l_X6_87 (by decide) dX6_faded_29 (by decide) rfl rfl (by decide) (Nat.le_of_ble_eq_true rfl) (c_X5_fade H.1.2.2.2.2.2.1 H.1.2.2.2.2.2.2.1 H.1.2.2.2.2.2.2.2) rfl (fun r29 σ29 hr29 => ?_)
          obtain ⟨rfl, rfl⟩ := hr29
          exact z_ireturn (pc := 32) dX6_faded_32 rfl rfl (⟨⟨_, rfl⟩, rfl⟩)
        · refine z_bipush (pc := 20) (v := (-2)) dX6_faded_20 (by decide) ?_
          exact z_ireturn (pc := 22) dX6_faded_22 rfl rfl (⟨⟨_, rfl⟩, rfl⟩)
set_option maxRecDepth 20000 in
theorem c_X6_asNumber {σ : z_Sto} {x : Int32} : z_R layX iX6_asNumber 0 [some (.int x)] [] σ (fun r σ' => r = some (.int (if x = 0 then nI 0 else nI 1)) ∧ σ' = σ) := by
  refine z_iload_n (pc := 0) dX6_asNumber_0 rfl ?_
  refine z_if_eq (pc := 1) (tgt := 8) dX6_asNumber_1 (by decide) (fun h1 => ?_) (fun h1 => ?_)
  · refine z_iconst (pc := 8) (v := (nI 0)) dX6_asNumber_8 (by decide) ?_
    exact z_ireturn (pc := 9) dX6_asNumber_9 rfl rfl (⟨by first | rw [if_pos h1] | rw [if_neg h1], rfl⟩)
  · refine z_iconst (pc := 4) (v := (nI 1)) dX6_asNumber_4 (by decide) ?_
    refine z_goto (pc := 5) (tgt := 9) dX6_asNumber_5 (by decide) ?_
    exact z_ireturn (pc := 9) dX6_asNumber_9 rfl rfl (⟨by first | rw [if_pos h1] | rw [if_neg h1], rfl⟩)
set_option maxRecDepth 20000 in
theorem c_X6_longest {σ : z_Sto} : z_R layX iX6_longest 0 [some (.ref 0)] [] σ (fun r σ' => r = some (.int (x_ttb (σ 2 6) (σ 2 5) (σ 2 3))) ∧ σ' = σ) := by
  refine z_aload_n (pc := 0) dX6_longest_0 rfl ?_
  refine z_getA (pc := 1) f_X6_10 dX6_longest_1 (by decide) rfl rfl ?_
  refine z_aload_n (pc := 4) dX6_longest_4 rfl ?_
  refine z_getA (pc := 5) f_X6_10 dX6_longest_5 (by decide) rfl rfl ?_
  refine z_bipush (pc := 8) (v := (nI 6)) dX6_longest_8 (by decide) ?_
  refine z_cV1 (pc := 10) mX5_get l_X6_75 (by decide) dX6_longest_10 (by decide) rfl rfl (by decide) (Nat.le_of_ble_eq_true rfl) (c_X5_get (by decide)) rfl (fun r10 σ10 hr10 => ?_)
  obtain ⟨rfl, rfl⟩ := hr10
  refine z_aload_n (pc := 13) dX6_longest_13 rfl ?_
  refine z_getA (pc := 14) f_X6_10 dX6_longest_14 (by decide) rfl rfl ?_
  refine z_iconst (pc := 17) (v := (nI 5)) dX6_longest_17 (by decide) ?_
  refine z_cV1 (pc := 18) mX5_get l_X6_75 (by decide) dX6_longest_18 (by decide) rfl rfl (by decide) (Nat.le_of_ble_eq_true rfl) (c_X5_get (by decide)) rfl (fun r18 σ18 hr18 => ?_)
  obtain ⟨rfl, rfl⟩ := hr18
  refine z_cV2 (pc := 21) mX5_ticksTillBelow l_X6_142 (by decide) dX6_longest_21 (by decide) rfl rfl (by decide) (Nat.le_of_ble_eq_true rfl) (c_X5_ttb) rfl (fun r21 σ21 hr21 => ?_)
  obtain ⟨rfl, rfl⟩ := hr21
  exact z_ireturn (pc := 24) dX6_longest_24 rfl rfl (⟨rfl, rfl⟩)
set_option maxRecDepth 20000 in
theorem k_about {σ : z_Sto} {n e h : Nat} {x y : Int32} {T O : Nat → List Nat} (H : x_inv σ n e h T O) : z_R layX iX6_about 0 [some (.ref 0), some (.int x), some (.int y)] [] σ (fun r σ' => x_some r ∧ σ' = σ) := by
  have h12 := H.1.2.1
  refine z_aload_n (pc := 0) dX6_about_0 rfl ?_
  refine z_getA (pc := 1) f_X6_19 dX6_about_1 (by decide) rfl rfl ?_
  refine z_iload_n (pc := 4) dX6_about_4 rfl ?_
  refine z_cV1 (pc := 5) mX4_has l_X6_90 (by decide) dX6_about_5 (by decide) rfl rfl (by decide) (Nat.le_of_ble_eq_true rfl) (c_has H.1.1 H.1.2.1) rfl (fun r5 σ5 hr5 => ?_)
  obtain ⟨v5, rfl, g5, g6, rfl⟩ := hr5
  refine z_if_ne (pc := 8) (tgt := 14) dX6_about_8 (by decide) (fun h8 => ?_) (fun h8 => ?_)
  · obtain ⟨i, hi, rfl⟩ := g5 h8
    obtain ⟨s, hs, hsl⟩ := H.2.1 i hi
    have h12' : i < 12 := by omega
    refine z_iload_n (pc := 14) dX6_about_14 rfl ?_
    rcases z_sw y 9 (by decide) with ⟨kk15, hkk15, rfl⟩ | hout15
    · rcases (show kk15 = 0 ∨ kk15 = 1 ∨ kk15 = 2 ∨ kk15 = 3 ∨ kk15 = 4 ∨ kk15 = 5 ∨ kk15 = 6 ∨ kk15 = 7 ∨ kk15 = 8 by omega) with rfl | rfl | rfl | rfl | rfl | rfl | rfl | rfl | rfl
      · refine z_tabIn (pc := 15) (tgt := 64) (off := 49) dX6_about_15 (by decide) (by decide) (by decide) (by decide) ?_
        refine z_aload_n (pc := 64) dX6_about_64 rfl ?_
        refine z_getA (pc := 65) f_X6_35 dX6_about_65 (by decide) rfl rfl ?_
        refine z_iload_n (pc := 68) dX6_about_68 rfl ?_
        refine z_aload_n (pc := 69) dX6_about_69 rfl ?_
        refine z_getI (pc := 70) f_X6_55 dX6_about_70 (by decide) rfl rfl ?_
        refine z_cV2 (pc := 73) mX0_penaltyOf l_X6_103 (by decide) dX6_about_73 (by decide) rfl rfl (by decide) (Nat.le_of_ble_eq_true rfl) (c_X0_penaltyOf h12' hsl hs H.1.2.2.2.2.2.1 H.1.2.2.2.2.2.2.1 H.1.2.2.2.2.2.2.2) rfl (fun r73 σ73 hr73 => ?_)
        obtain ⟨rfl, rfl⟩ := hr73
        exact z_ireturn (pc := 76) dX6_about_76 rfl rfl (⟨⟨_, rfl⟩, rfl⟩)
      · refine z_tabIn (pc := 15) (tgt := 77) (off := 62) dX6_about_15 (by decide) (by decide) (by decide) (by decide) ?_
        refine z_aload_n (pc := 77) dX6_about_77 rfl ?_
        refine z_getA (pc := 78) f_X6_35 dX6_about_78 (by decide) rfl rfl ?_
        refine z_iload_n (pc := 81) dX6_about_81 rfl ?_
        refine z_cV1 (pc := 82) mX0_isUp l_X6_94 (by decide) dX6_about_82 (by decide) rfl rfl (by decide) (Nat.le_of_ble_eq_true rfl) (c_X0_isUp h12' (H.2.2.1.1 i)) rfl (fun r82 σ82 hr82 => ?_)
        obtain ⟨rfl, rfl⟩ := hr82
        refine z_cS1 (pc := 85) mX6_asNumber l_X6_117 (by decide) dX6_about_85 (by decide) (Nat.le_of_ble_eq_true rfl) (c_X6_asNumber) rfl (fun r85 σ85 hr85 => ?_)
        obtain ⟨rfl, rfl⟩ := hr85
        exact z_ireturn (pc := 88) dX6_about_88 rfl rfl (⟨⟨_, rfl⟩, rfl⟩)
      · refine z_tabIn (pc := 15) (tgt := 89) (off := 74) dX6_about_15 (by decide) (by decide) (by decide) (by decide) ?_
        refine z_aload_n (pc := 89) dX6_about_89 rfl ?_
        refine z_getA (pc := 90) f_X6_35 dX6_about_90 (by decide) rfl rfl ?_
        refine z_iload_n (pc := 93) dX6_about_93 rfl ?_
        refine z_cV1 (pc := 94) mX0_isShut l_X6_121 (by decide) dX6_about_94 (by decide) rfl rfl (by decide) (Nat.le_of_ble_eq_true rfl) (c_X0_isShut h12' hsl hs (H.2.2.1.2 s)) rfl (fun r94 σ94 hr94 => ?_)
        obtain ⟨rfl, rfl⟩ := hr94
        refine z_cS1 (pc := 97) mX6_asNumber l_X6_117 (by decide) dX6_about_97 (by decide) (Nat.le_of_ble_eq_true rfl) (c_X6_asNumber) rfl (fun r97 σ97 hr97 => ?_)
        obtain ⟨rfl, rfl⟩ := hr97
        exact z_ireturn (pc := 100) dX6_about_100 rfl rfl (⟨⟨_, rfl⟩, rfl⟩)
      · refine z_tabIn (pc := 15) (tgt := 101) (off := 86) dX6_about_15 (by decide) (by decide) (by decide) (by decide) ?_
        refine z_aload_n (pc := 101) dX6_about_101 rfl ?_
        refine z_getA (pc := 102) f_X6_35 dX6_about_102 (by decide) rfl rfl ?_
        refine z_iload_n (pc := 105) dX6_about_105 rfl ?_
        refine z_cV1 (pc := 106) mX0_isSeen l_X6_124 (by decide) dX6_about_106 (by decide) rfl rfl (by decide) (Nat.le_of_ble_eq_true rfl) (c_X0_isSeen h12' hsl hs (H.2.2.1.2 s)) rfl (fun r106 σ106 hr106 => ?_)
        obtain ⟨rfl, rfl⟩ := hr106
        refine z_cS1 (pc := 109) mX6_asNumber l_X6_117 (by decide) dX6_about_109 (by decide) (Nat.le_of_ble_eq_true rfl) (c_X6_asNumber) rfl (fun r109 σ109 hr109 => ?_)
        obtain ⟨rfl, rfl⟩ := hr109
        exact z_ireturn (pc := 112) dX6_about_112 rfl rfl (⟨⟨_, rfl⟩, rfl⟩)
      · refine z_tabIn (pc := 15) (tgt := 113) (off := 98) dX6_about_15 (by decide) (by decide) (by decide) (by decide) ?_
        refine z_aload_n (pc := 113) dX6_about_113 rfl ?_
        refine z_getA (pc := 114) f_X6_35 dX6_about_114 (by decide) rfl rfl ?_
        refine z_iload_n (pc := 117) dX6_about_117 rfl ?_
        refine z_cV1 (pc := 118) mX0_flipsOf l_X6_127 (by decide) dX6_about_118 (by decide) rfl rfl (by decide) (Nat.le_of_ble_eq_true rfl) (c_X0_flipsOf h12') rfl (fun r118 σ118 hr118 => ?_)
        obtain ⟨rfl, rfl⟩ := hr118
        exact z_ireturn (pc := 121) dX6_about_121 rfl rfl (⟨⟨_, rfl⟩, rfl⟩)
      · refine z_tabIn (pc := 15) (tgt := 122) (off := 107) dX6_about_15 (by decide) (by decide) (by decide) (by decide) ?_
        refine z_aload_n (pc := 122) dX6_about_122 rfl ?_
        refine z_getA (pc := 123) f_X6_35 dX6_about_123 (by decide) rfl rfl ?_
        refine z_iload_n (pc := 126) dX6_about_126 rfl ?_
        refine z_cV1 (pc := 127) mX0_lostOf l_X6_130 (by decide) dX6_about_127 (by decide) rfl rfl (by decide) (Nat.le_of_ble_eq_true rfl) (c_X0_lostOf h12') rfl (fun r127 σ127 hr127 => ?_)
        obtain ⟨rfl, rfl⟩ := hr127
        exact z_ireturn (pc := 130) dX6_about_130 rfl rfl (⟨⟨_, rfl⟩, rfl⟩)
      · refine z_tabIn (pc := 15) (tgt := 131) (off := 116) dX6_about_15 (by decide) (by decide) (by decide) (by decide) ?_
        refine z_aload_n (pc := 131) dX6_about_131 rfl ?_
        refine z_getA (pc := 132) f_X6_19 dX6_about_132 (by decide) rfl rfl ?_
        refine z_iload_n (pc := 135) dX6_about_135 rfl ?_
        refine z_cV1 (pc := 136) mX4_kindOf l_X6_133 (by decide) dX6_about_136 (by decide) rfl rfl (by decide) (Nat.le_of_ble_eq_true rfl) (c_X4_kindOf h12') rfl (fun r136 σ136 hr136 => ?_)
        obtain ⟨rfl, rfl⟩ := hr136
        exact z_ireturn (pc := 139) dX6_about_139 rfl rfl (⟨⟨_, rfl⟩, rfl⟩)
      · refine z_tabIn (pc := 15) (tgt := 140) (off := 125) dX6_about_15 (by decide) (by decide) (by decide) (by decide) ?_
        refine z_aload_n (pc := 140) dX6_about_140 rfl ?_
        refine z_getA (pc := 141) f_X6_35 dX6_about_141 (by decide) rfl rfl ?_
        refine z_iload_n (pc := 144) dX6_about_144 rfl ?_
        refine z_aload_n (pc := 145) dX6_about_145 rfl ?_
        refine z_getI (pc := 146) f_X6_55 dX6_about_146 (by decide) rfl rfl ?_
        refine z_cV2 (pc := 149) mX0_ticksTillOpen l_X6_136 (by decide) dX6_about_149 (by decide) rfl rfl (by decide) (Nat.le_of_ble_eq_true rfl) (c_X0_ticksTillOpen h12' hsl hs) rfl (fun r149 σ149 hr149 => ?_)
        obtain ⟨rfl, rfl⟩ := hr149
        exact z_ireturn (pc := 152) dX6_about_152 rfl rfl (⟨⟨_, rfl⟩, rfl⟩)
      · refine z_tabIn (pc := 15) (tgt := 153) (off := 138) dX6_about_15 (by decide) (by decide) (by decide) (by decide) ?_
        refine z_aload_n (pc := 153) dX6_about_153 rfl ?_
        refine z_getA (pc := 154) f_X6_19 dX6_about_154 (by decide) rfl rfl ?_
        refine z_iload_n (pc := 157) dX6_about_157 rfl ?_
        refine z_cV1 (pc := 158) mX4_markOf l_X6_139 (by decide) dX6_about_158 (by decide) rfl rfl (by decide) (Nat.le_of_ble_eq_true rfl) (c_X4_markOf h12') rfl (fun r158 σ158 hr158 => ?_)
        obtain ⟨rfl, rfl⟩ := hr158
        exact z_ireturn (pc := 161) dX6_about_161 rfl rfl (⟨⟨_, rfl⟩, rfl⟩)
    · refine z_tabOut (pc := 15) (tgt := 162) dX6_about_15 (by omega) (by decide) ?_
      refine z_bipush (pc := 162) (v := (-2)) dX6_about_162 (by decide) ?_
      exact z_ireturn (pc := 164) dX6_about_164 rfl rfl (⟨⟨_, rfl⟩, rfl⟩)
  · refine z_bipush (pc := 11) (v := (-2)) dX6_about_11 (by decide) ?_
    exact z_ireturn (pc := 13) dX6_about_13 rfl rfl (⟨⟨_, rfl⟩, rfl⟩)
set_option maxRecDepth 20000 in
theorem k_event {σ : z_Sto} {n e h : Nat} {x y : Int32} {T O : Nat → List Nat} (H : x_inv σ n e h T O) : z_R layX iX6_event 0 [some (.ref 0), some (.int x), some (.int y)] [] σ (fun r σ' => x_some r ∧ σ' = σ) := by
  have h3 := H.1.2.2.2.1
  refine z_iload_n (pc := 0) dX6_event_0 rfl ?_
  refine z_if_lt (pc := 1) (tgt := 13) dX6_event_1 (by decide) (fun h1 => ?_) (fun h1 => ?_)
  · refine z_bipush (pc := 13) (v := (-2)) dX6_event_13 (by decide) ?_
    exact z_ireturn (pc := 15) dX6_event_15 rfl rfl (⟨⟨_, rfl⟩, rfl⟩)
  · refine z_iload_n (pc := 4) dX6_event_4 rfl ?_
    refine z_if_lt (pc := 5) (tgt := 13) dX6_event_5 (by decide) (fun h5 => ?_) (fun h5 => ?_)
    · refine z_bipush (pc := 13) (v := (-2)) dX6_event_13 (by decide) ?_
      exact z_ireturn (pc := 15) dX6_event_15 rfl rfl (⟨⟨_, rfl⟩, rfl⟩)
    · refine z_iload_n (pc := 8) dX6_event_8 rfl ?_
      refine z_iconst (pc := 9) (v := (nI 2)) dX6_event_9 (by decide) ?_
      refine z_icmp_le (pc := 10) (tgt := 16) dX6_event_10 (by decide) (fun h10 => ?_) (fun h10 => ?_)
      · obtain ⟨k2, hk2, rfl⟩ : ∃ k, k < 3 ∧ y = nI k := z_ix (n := 3) (by decide) h5 (fun g => by have := Int32.le_trans g h10; exact absurd this (by decide))
        refine z_iload_n (pc := 16) dX6_event_16 rfl ?_
        refine z_aload_n (pc := 17) dX6_event_17 rfl ?_
        refine z_getA (pc := 18) f_X6_26 dX6_event_18 (by decide) rfl rfl ?_
        refine z_cV0 (pc := 21) mX1_size l_X6_145 (by decide) dX6_event_21 (by decide) rfl rfl (by decide) (Nat.le_of_ble_eq_true rfl) (c_X1_size) rfl (fun r21 σ21 hr21 => ?_)
        obtain ⟨rfl, rfl⟩ := hr21
        rw [H.1.2.2.1]
        refine z_icmp_lt (pc := 24) (tgt := 29) dX6_event_24 (by decide) (fun h24 => ?_) (fun h24 => ?_)
        · obtain ⟨j, hj, rfl⟩ : ∃ k, k < e ∧ x = nI k := z_ix (n := e) (by omega) h1 (z_nle h24)
          refine z_iload_n (pc := 29) dX6_event_29 rfl ?_
          rcases (show k2 = 0 ∨ k2 = 1 ∨ k2 = 2 by omega) with rfl | rfl | rfl
          · refine z_look (pc := 30) (tgt := 56) (off := 26) dX6_event_30 (by decide) (by decide) (by decide) ?_
            refine z_aload_n (pc := 56) dX6_event_56 rfl ?_
            refine z_getA (pc := 57) f_X6_26 dX6_event_57 (by decide) rfl rfl ?_
            refine z_iload_n (pc := 60) dX6_event_60 rfl ?_
            refine z_cV1 (pc := 61) mX1_lineAt l_X6_149 (by decide) dX6_event_61 (by decide) rfl rfl (by decide) (Nat.le_of_ble_eq_true rfl) (c_X1_lineAt (by omega)) rfl (fun r61 σ61 hr61 => ?_)
            obtain ⟨rfl, rfl⟩ := hr61
            exact z_ireturn (pc := 64) dX6_event_64 rfl rfl (⟨⟨_, rfl⟩, rfl⟩)
          · refine z_look (pc := 30) (tgt := 65) (off := 35) dX6_event_30 (by decide) (by decide) (by decide) ?_
            refine z_aload_n (pc := 65) dX6_event_65 rfl ?_
            refine z_getA (pc := 66) f_X6_26 dX6_event_66 (by decide) rfl rfl ?_
            refine z_iload_n (pc := 69) dX6_event_69 rfl ?_
            refine z_cV1 (pc := 70) mX1_whatAt l_X6_152 (by decide) dX6_event_70 (by decide) rfl rfl (by decide) (Nat.le_of_ble_eq_true rfl) (c_X1_whatAt (by omega)) rfl (fun r70 σ70 hr70 => ?_)
            obtain ⟨rfl, rfl⟩ := hr70
            exact z_ireturn (pc := 73) dX6_event_73 rfl rfl (⟨⟨_, rfl⟩, rfl⟩)
          · refine z_look (pc := 30) (tgt := 74) (off := 44) dX6_event_30 (by decide) (by decide) (by decide) ?_
            refine z_aload_n (pc := 74) dX6_event_74 rfl ?_
            refine z_getA (pc := 75) f_X6_26 dX6_event_75 (by decide) rfl rfl ?_
            refine z_iload_n (pc := 78) dX6_event_78 rfl ?_
            refine z_cV1 (pc := 79) mX1_tickAt l_X6_155 (by decide) dX6_event_79 (by decide) rfl rfl (by decide) (Nat.le_of_ble_eq_true rfl) (c_X1_tickAt (by omega)) rfl (fun r79 σ79 hr79 => ?_)
            obtain ⟨rfl, rfl⟩ := hr79
            exact z_ireturn (pc := 82) dX6_event_82 rfl rfl (⟨⟨_, rfl⟩, rfl⟩)
        · refine z_iconst (pc := 27) (v := (-1)) dX6_event_27 (by decide) ?_
          exact z_ireturn (pc := 28) dX6_event_28 rfl rfl (⟨⟨_, rfl⟩, rfl⟩)
      · refine z_bipush (pc := 13) (v := (-2)) dX6_event_13 (by decide) ?_
        exact z_ireturn (pc := 15) dX6_event_15 rfl rfl (⟨⟨_, rfl⟩, rfl⟩)
end
section
/-! CalmLines: line, rule, tick, mark, way, bind -/
def x_lok (k g : Int32) : Prop := (∃ j, j < 3 ∧ k = nI j) ∧ (k = nI 1 → ∃ j, j < 4 ∧ g = nI j)
theorem x_slot_of {k g : Int32} {n : Nat} (h : x_lok k g) (hn : n < 12) : ∃ s, s < 16 ∧ (if k = nI 1 then nI 12 + g else nI n) = nI s := by
  by_cases e : k = nI 1
  · obtain ⟨j, hj, rfl⟩ := h.2 e
    exact ⟨12 + j, by omega, by rw [if_pos e, nI_add]⟩
  · exact ⟨n, by omega, by rw [if_neg e]⟩
def x_ent (n : Nat) (k g : Int32) (σ : z_Sto) : z_Sto := z_up (z_up (z_up σ 4 n k) 5 n (if k = nI 1 then nI 12 + g else nI n)) 3 3 (nI (n + 1))
theorem x_ent_fr {n c : Nat} {k g : Int32} {σ : z_Sto} (h : c ≠ 3 ∧ c ≠ 4 ∧ c ≠ 5) : x_ent n k g σ c = σ c := by
  rw [x_ent, z_up_ne _ _ _ h.1, z_up_ne _ _ _ h.2.2, z_up_ne _ _ _ h.2.1]
theorem x_ent_5 {n i : Nat} {k g : Int32} {σ : z_Sto} (h : i ≠ n) : x_ent n k g σ 5 i = σ 5 i := by
  simp [x_ent, z_up_at, h]
theorem x_ent_5n {n : Nat} {k g : Int32} {σ : z_Sto} : x_ent n k g σ 5 n = (if k = nI 1 then nI 12 + g else nI n) := by
  simp [x_ent, z_up_at]
theorem x_ent_inv {σ : z_Sto} {n e h : Nat} {k g : Int32} {T O : Nat → List Nat} (H : x_inv σ n e h T O) (hn : n < 12) (hk : x_lok k g) : x_inv (x_ent n k g σ) (n + 1) e h T O := by
  obtain ⟨⟨b1, b2, b3, b4, b5, b6, b7⟩, a2, a3, a4, a5, a6, a7⟩ := H
  refine ⟨⟨by rw [x_ent, z_up_same, z_upd_s], by omega, by rw [x_ent_fr (by decide)]; exact b3, b4, ?_, by rw [x_ent_fr (by decide)]; exact b6, b7⟩, ?_, ?_, ?_, ⟨a5.1, ?_⟩, ?_, ?_⟩
  · intro j hj
    obtain ⟨i', w', s', h1, h2, h3, h4, h5, h6⟩ := b5 j hj
    exact ⟨i', w', s', by omega, h2, h3, by rw [x_ent_fr (by decide)]; exact h4, by rw [x_ent_fr (by decide)]; exact h5, by rw [x_ent_5 (by omega)]; exact h6⟩
  · intro i hi
    by_cases q : i = n
    · subst q
      rw [x_ent_5n]
      exact x_slot_of hk hn
    · rw [x_ent_5 q]
      exact a2 i (by omega)
  · exact ⟨fun j => by rw [x_ent_fr (by decide)]; exact a3.1 j, fun j => by rw [x_ent_fr (by decide)]; exact a3.2 j⟩
  · intro k hk; rw [x_ent_fr (by decide)]; exact a4 k hk
  · intro k hk; rw [x_ent_fr (by decide)]; exact a5.2 k hk
  · intro k hk; rw [x_ent_fr (by decide)]; exact a6 k hk
  · intro k hk
    rw [x_ent_fr (by decide)]
    rcases a7 k hk with q | ⟨m, h1, h2⟩
    · exact Or.inl q
    · exact Or.inr ⟨m, by omega, h2⟩
def x_pubL (σ' σ : z_Sto) : Prop := σ' 0 = σ 0 ∧ σ' 2 = σ 2 ∧ σ' 6 = σ 6 ∧ σ' 36 = σ 36
set_option maxRecDepth 20000 in
theorem k_line29 {σ : z_Sto} {n e h : Nat} {k g : Int32} {T O : Nat → List Nat} (H : x_inv σ n e h T O) (hk : x_lok k g) : z_R layX iX6_line 29 [some (.ref 0), some (.int k), some (.int g), none] [] σ (fun r σ' => (¬ x_lok k g ∧ r = some (.int (-2)) ∧ σ' = σ) ∨ (x_lok k g ∧ n = 12 ∧ r = some (.int (-4)) ∧ σ' = σ) ∨ (x_lok k g ∧ n < 12 ∧ r = some (.int (nI n)) ∧ x_inv σ' (n + 1) e h T O ∧ x_pubL σ' σ)) := by
  have h12 := H.1.2.1
  refine z_aload_n (pc := 29) dX6_line_29 rfl ?_
  refine z_getA (pc := 30) f_X6_19 dX6_line_30 (by decide) rfl rfl ?_
  refine z_cV0 (pc := 33) mX4_isFull l_X6_59 (by decide) dX6_line_33 (by decide) rfl rfl (by decide) (Nat.le_of_ble_eq_true rfl) (c_X4_isFull H.1.1 H.1.2.1) rfl (fun r33 σ33 hr33 => ?_)
  obtain ⟨rfl, rfl⟩ := hr33
  refine z_if_eq (pc := 36) (tgt := 42) dX6_line_36 (by decide) (fun h36 => ?_) (fun h36 => ?_)
  · have q36 : n < 12 := by (by_cases g : n < 12; exact g; exact absurd h36 (by rw [if_neg g]; decide))
    refine z_aload_n (pc := 42) dX6_line_42 rfl ?_
    refine z_getA (pc := 43) f_X6_19 dX6_line_43 (by decide) rfl rfl ?_
    refine z_iload_n (pc := 46) dX6_line_46 rfl ?_
    refine z_iload_n (pc := 47) dX6_line_47 rfl ?_
    refine z_cV2 (pc := 48) mX4_enter l_X6_63 (by decide) dX6_line_48 (by decide) rfl rfl (by decide) (Nat.le_of_ble_eq_true rfl) (c_X4_enter H.1.1 q36) rfl (fun r48 σ48 hr48 => ?_)
    obtain ⟨rfl, eσ48⟩ := hr48
    have H1 : x_inv σ48 (n + 1) e h T O := by rw [eσ48]; exact x_ent_inv H q36 hk
    obtain ⟨s, hs, hsl⟩ := H1.2.1 n (by omega)
    refine z_istore_n (pc := 51) dX6_line_51 (by decide) rfl rfl ?_
    refine z_aload_n (pc := 52) dX6_line_52 rfl ?_
    refine z_getA (pc := 53) f_X6_35 dX6_line_53 (by decide) rfl rfl ?_
    refine z_iload_n (pc := 56) dX6_line_56 rfl ?_
    refine z_cV1 (pc := 57) mX0_join l_X6_67 (by decide) dX6_line_57 (by decide) rfl rfl (by decide) (Nat.le_of_ble_eq_true rfl) (c_X0_join q36 hsl hs (H1.2.2.1.2 s)) rfl (fun r57 σ57 hr57 => ?_)
    obtain ⟨rfl, rfl⟩ := hr57
    refine z_iload_n (pc := 60) dX6_line_60 rfl ?_
    exact z_ireturn (pc := 61) dX6_line_61 rfl rfl (Or.inr (Or.inr ⟨hk, q36, rfl, x_inv_fr H1 (x_up_brd H1.2.2.1 (fun q => by omega)) (fun c hc => z_up_ne _ _ _ (by omega)), by rw [z_up_ne _ _ _ (by decide), eσ48]; exact x_ent_fr (by decide), by rw [z_up_ne _ _ _ (by decide), eσ48]; exact x_ent_fr (by decide), by rw [z_up_ne _ _ _ (by decide), eσ48]; exact x_ent_fr (by decide), by rw [z_up_ne _ _ _ (by decide), eσ48]; exact x_ent_fr (by decide)⟩))
  · have q36 : n = 12 := by (by_cases g : n < 12; exact absurd (by rw [if_pos g]; rfl) h36; omega)
    refine z_bipush (pc := 39) (v := (-4)) dX6_line_39 (by decide) ?_
    exact z_ireturn (pc := 41) dX6_line_41 rfl rfl (Or.inr (Or.inl ⟨hk, q36, rfl, rfl⟩))
theorem x_in3 {k : Int32} (h1 : ¬ k < 0) (h6 : k ≤ nI 2) : ∃ j, j < 3 ∧ k = nI j := z_ix (n := 3) (by decide) h1 (fun g => absurd (Int32.le_trans g h6) (by decide))
theorem x_no3 {k : Int32} (h6 : ¬ k ≤ nI 2) : ¬ ∃ j, j < 3 ∧ k = nI j := by
  rintro ⟨j, hj, rfl⟩
  exact h6 (nI_le (by omega) (by decide))
theorem x_no0 {k : Int32} {m : Nat} (hm : m < 2 ^ 31) (h : k < 0) : ¬ ∃ j, j < m ∧ k = nI j := by
  rintro ⟨j, hj, rfl⟩
  exact nI_pos (by omega) h
set_option maxRecDepth 20000 in
theorem k_line {σ : z_Sto} {n e h : Nat} {k g : Int32} {T O : Nat → List Nat} (H : x_inv σ n e h T O) : z_R layX iX6_line 0 [some (.ref 0), some (.int k), some (.int g), none] [] σ (fun r σ' => (¬ x_lok k g ∧ r = some (.int (-2)) ∧ σ' = σ) ∨ (x_lok k g ∧ n = 12 ∧ r = some (.int (-4)) ∧ σ' = σ) ∨ (x_lok k g ∧ n < 12 ∧ r = some (.int (nI n)) ∧ x_inv σ' (n + 1) e h T O ∧ x_pubL σ' σ)) := by
  refine z_iload_n (pc := 0) dX6_line_0 rfl ?_
  refine z_if_lt (pc := 1) (tgt := 9) dX6_line_1 (by decide) (fun h1 => ?_) (fun h1 => ?_)
  · refine z_bipush (pc := 9) (v := (-2)) dX6_line_9 (by decide) ?_
    exact z_ireturn (pc := 11) dX6_line_11 rfl rfl (Or.inl ⟨fun q => by first | exact x_no0 (by decide) h1 q.1 | exact x_no3 h6 q.1, rfl, rfl⟩)
  · refine z_iload_n (pc := 4) dX6_line_4 rfl ?_
    refine z_iconst (pc := 5) (v := (nI 2)) dX6_line_5 (by decide) ?_
    refine z_icmp_le (pc := 6) (tgt := 12) dX6_line_6 (by decide) (fun h6 => ?_) (fun h6 => ?_)
    · refine z_iload_n (pc := 12) dX6_line_12 rfl ?_
      refine z_iconst (pc := 13) (v := (nI 1)) dX6_line_13 (by decide) ?_
      refine z_icmp_ne (pc := 14) (tgt := 29) dX6_line_14 (by decide) (fun h14 => ?_) (fun h14 => ?_)
      · exact k_line29 H ⟨x_in3 h1 h6, fun e => by first | exact absurd e h14 | exact z_ix (n := 4) (by decide) h18 (z_nle h23)⟩
      · refine z_iload_n (pc := 17) dX6_line_17 rfl ?_
        refine z_if_lt (pc := 18) (tgt := 26) dX6_line_18 (by decide) (fun h18 => ?_) (fun h18 => ?_)
        · refine z_bipush (pc := 26) (v := (-2)) dX6_line_26 (by decide) ?_
          exact z_ireturn (pc := 28) dX6_line_28 rfl rfl (Or.inl ⟨fun q => by first | exact x_no0 (by decide) h18 (q.2 h14) | (obtain ⟨j, hj, e⟩ := q.2 h14; rw [e] at h23; exact h23 (nI_lt (by omega) (by decide))), rfl, rfl⟩)
        · refine z_iload_n (pc := 21) dX6_line_21 rfl ?_
          refine z_iconst (pc := 22) (v := (nI 4)) dX6_line_22 (by decide) ?_
          refine z_icmp_lt (pc := 23) (tgt := 29) dX6_line_23 (by decide) (fun h23 => ?_) (fun h23 => ?_)
          · exact k_line29 H ⟨x_in3 h1 h6, fun e => by first | exact absurd e h14 | exact z_ix (n := 4) (by decide) h18 (z_nle h23)⟩
          · refine z_bipush (pc := 26) (v := (-2)) dX6_line_26 (by decide) ?_
            exact z_ireturn (pc := 28) dX6_line_28 rfl rfl (Or.inl ⟨fun q => by first | exact x_no0 (by decide) h18 (q.2 h14) | (obtain ⟨j, hj, e⟩ := q.2 h14; rw [e] at h23; exact h23 (nI_lt (by omega) (by decide))), rfl, rfl⟩)
    · refine z_bipush (pc := 9) (v := (-2)) dX6_line_9 (by decide) ?_
      exact z_ireturn (pc := 11) dX6_line_11 rfl rfl (Or.inl ⟨fun q => by first | exact x_no0 (by decide) h1 q.1 | exact x_no3 h6 q.1, rfl, rfl⟩)
theorem x_half_v {v : Int32} (h1 : z_least 3 ≤ v) (h2 : v ≤ z_most 3) : ∃ h, v = nI h ∧ 1 ≤ h ∧ h ≤ 500 := by
  have e1 : z_least 3 = nI 1 := by decide
  have e2 : z_most 3 = nI 500 := by decide
  rw [e1] at h1
  rw [e2] at h2
  obtain ⟨j, hj, rfl⟩ := z_ix (n := 501) (by decide) (fun g => by have := Int32.lt_of_le_of_lt h1 g; exact absurd this (by decide)) (fun g => by have := Int32.le_trans g h2; exact absurd this (by decide))
  exact ⟨j, rfl, (nI_leI (by decide) (by omega)).mp h1, by omega⟩
def x_rul (k : Nat) (v : Int32) (σ : z_Sto) : z_Sto := z_up (x_rp 11 2 (σ 0 6) 16 0 σ) 2 k v
theorem x_rul_fr {k c : Nat} {v : Int32} {σ : z_Sto} (h : c ≠ 2 ∧ c ≠ 12 ∧ c ≠ 13) : x_rul k v σ c = σ c := by
  rw [x_rul, z_up_ne _ _ _ h.1, x_rp_fr (by omega)]
theorem x_rul_2 {k : Nat} {v : Int32} {σ : z_Sto} : x_rul k v σ 2 = upd (σ 2) k v := by
  rw [x_rul, z_up_same, x_rp_fr (by decide)]
theorem x_rul_inv {σ : z_Sto} {n e h k : Nat} {v : Int32} {T O : Nat → List Nat} (H : x_inv σ n e h T O) (hk : k < 8) (ha : x_adm σ (nI k) v) : ∃ h', x_inv (x_rul k v σ) n e h' T O := by
  have hh : ∃ h', x_rul k v σ 2 3 = nI h' ∧ 1 ≤ h' ∧ h' ≤ 500 := by
    rw [x_rul_2]
    by_cases q : k = 3
    · subst q
      rw [z_upd_s]
      have := (x_adm_iff hk).mp ha
      exact x_half_v this.1 this.2.1
    · rw [z_upd_n (Ne.symm q)]
      exact ⟨h, H.1.2.2.2.2.2.1, H.1.2.2.2.2.2.2⟩
  obtain ⟨h', g1, g2, g3⟩ := hh
  obtain ⟨⟨b1, b2, b3, b4, b5, b6, b7⟩, a2, a3, a4, a5, a6, a7⟩ := H
  refine ⟨h', ⟨by rw [x_rul_fr (by decide)]; exact b1, b2, by rw [x_rul_fr (by decide)]; exact b3, b4, x_log_fr b5 (x_rul_fr (by decide)) (x_rul_fr (by decide)) (x_rul_fr (by decide)), g1, g2, g3⟩, ?_, ?_, ?_, ⟨a5.1, ?_⟩, ?_, ?_⟩
  · intro i hi; rw [x_rul_fr (by decide)]; exact a2 i hi
  · exact ⟨fun j => by rw [x_rul_fr (by decide)]; exact a3.1 j, fun j => by rw [x_rul_fr (by decide)]; exact a3.2 j⟩
  · intro k hk; rw [x_rul_fr (by decide)]; exact a4 k hk
  · intro k hk; rw [x_rul_fr (by decide)]; exact a5.2 k hk
  · intro k hk; rw [x_rul_fr (by decide)]; exact a6 k hk
  · intro k hk; rw [x_rul_fr (by decide)]; exact a7 k hk
set_option maxRecDepth 20000 in
theorem k_rule {σ : z_Sto} {n e h : Nat} {w v : Int32} {T O : Nat → List Nat} (H : x_inv σ n e h T O) : z_R layX iX6_rule 0 [some (.ref 0), some (.int w), some (.int v), none] [] σ (fun r σ' => (¬ x_adm σ w v ∧ r = some (.int (-2)) ∧ σ' = σ) ∨ (∃ k, k < 8 ∧ w = nI k ∧ x_adm σ w v ∧ r = some (.int (σ 2 k)) ∧ σ' = x_rul k v σ)) := by
  refine z_aload_n (pc := 0) dX6_rule_0 rfl ?_
  refine z_getA (pc := 1) f_X6_10 dX6_rule_1 (by decide) rfl rfl ?_
  refine z_iload_n (pc := 4) dX6_rule_4 rfl ?_
  refine z_iload_n (pc := 5) dX6_rule_5 rfl ?_
  refine z_cV2 (pc := 6) mX5_admits l_X6_71 (by decide) dX6_rule_6 (by decide) rfl rfl (by decide) (Nat.le_of_ble_eq_true rfl) (c_admits) rfl (fun r6 σ6 hr6 => ?_)
  obtain ⟨v6, rfl, g6, g7, rfl⟩ := hr6
  refine z_if_ne (pc := 9) (tgt := 15) dX6_rule_9 (by decide) (fun h9 => ?_) (fun h9 => ?_)
  · have ha := g6 h9
    obtain ⟨k, hk, rfl, hk2⟩ := id ha
    refine z_aload_n (pc := 15) dX6_rule_15 rfl ?_
    refine z_getA (pc := 16) f_X6_10 dX6_rule_16 (by decide) rfl rfl ?_
    refine z_iload_n (pc := 19) dX6_rule_19 rfl ?_
    refine z_cV1 (pc := 20) mX5_get l_X6_75 (by decide) dX6_rule_20 (by decide) rfl rfl (by decide) (Nat.le_of_ble_eq_true rfl) (c_X5_get hk) rfl (fun r20 σ20 hr20 => ?_)
    obtain ⟨rfl, rfl⟩ := hr20
    refine z_istore_n (pc := 23) dX6_rule_23 (by decide) rfl rfl ?_
    refine z_aload_n (pc := 24) dX6_rule_24 rfl ?_
    refine z_getA (pc := 25) f_X6_35 dX6_rule_25 (by decide) rfl rfl ?_
    refine z_aload_n (pc := 28) dX6_rule_28 rfl ?_
    refine z_getI (pc := 29) f_X6_55 dX6_rule_29 (by decide) rfl rfl ?_
    refine z_cV1 (pc := 32) mX0_restPenalties l_X6_79 (by decide) dX6_rule_32 (by decide) rfl rfl (by decide) (Nat.le_of_ble_eq_true rfl) (c_X0_restPenalties H.1.2.2.2.2.2.1 H.1.2.2.2.2.2.2.1 H.1.2.2.2.2.2.2.2) rfl (fun r32 σ32 hr32 => ?_)
    obtain ⟨er32, eσ32⟩ := hr32
    subst er32
    refine z_aload_n (pc := 35) dX6_rule_35 rfl ?_
    refine z_getA (pc := 36) f_X6_10 dX6_rule_36 (by decide) rfl rfl ?_
    refine z_iload_n (pc := 39) dX6_rule_39 rfl ?_
    refine z_iload_n (pc := 40) dX6_rule_40 rfl ?_
    refine z_cV2 (pc := 41) mX5_put l_X6_82 (by decide) dX6_rule_41 (by decide) rfl rfl (by decide) (Nat.le_of_ble_eq_true rfl) (c_X5_put hk) rfl (fun r41 σ41 hr41 => ?_)
    obtain ⟨er41, eσ41⟩ := hr41
    subst er41
    refine z_iload_n (pc := 44) dX6_rule_44 rfl ?_
    exact z_ireturn (pc := 45) dX6_rule_45 rfl rfl (Or.inr ⟨k, hk, rfl, ha, rfl, by rw [eσ41, eσ32]; rfl⟩)
  · refine z_bipush (pc := 12) (v := (-2)) dX6_rule_12 (by decide) ?_
    exact z_ireturn (pc := 14) dX6_rule_14 rfl rfl (Or.inl ⟨g7 h9, rfl, rfl⟩)
def x_tik (n : Nat) (m : Int32) (σ : z_Sto) : z_Sto := x_sa 11 2 n (σ 0 6 + m) 16 0 (z_up σ 0 6 (σ 0 6 + m))
theorem x_tik_fr {n c : Nat} {m : Int32} {σ : z_Sto} (h : (c < 11 ∨ 20 < c) ∧ c ≠ 0) : x_tik n m σ c = σ c := by
  rw [x_tik, x_sa_fr (by omega), z_up_ne _ _ _ h.2]
theorem x_tik_0 {n : Nat} {m : Int32} {σ : z_Sto} : x_tik n m σ 0 6 = σ 0 6 + m := by
  rw [x_tik, x_sa_fr (by decide), z_up_same, z_upd_s]
theorem x_tik_inv {σ : z_Sto} {n e h : Nat} {m : Int32} {T O : Nat → List Nat} (H : x_inv σ n e h T O) : x_inv (x_tik n m σ) n e h T O :=
  x_inv_fr H (x_sa_brd _ _ _ (x_up_brd H.2.2.1 (fun q => by omega))) (fun c hc => x_tik_fr (by omega))
set_option maxRecDepth 20000 in
theorem k_tick {σ : z_Sto} {n e h : Nat} {m : Int32} {T O : Nat → List Nat} (H : x_inv σ n e h T O) : z_R layX iX6_tick 0 [some (.ref 0), some (.int m)] [] σ (fun r σ' => ((m < nI 1 ∨ nI 200 < m) ∧ r = some (.int (-2)) ∧ σ' = σ) ∨ (¬ (m < nI 1 ∨ nI 200 < m) ∧ nI 2000 < σ 0 6 + m ∧ r = some (.int (-4)) ∧ σ' = σ) ∨ (¬ (m < nI 1 ∨ nI 200 < m) ∧ ¬ nI 2000 < σ 0 6 + m ∧ r = some (.int (σ 0 6 + m)) ∧ σ' = x_tik n m σ)) := by
  refine z_iload_n (pc := 0) dX6_tick_0 rfl ?_
  refine z_iconst (pc := 1) (v := (nI 1)) dX6_tick_1 (by decide) ?_
  refine z_icmp_lt (pc := 2) (tgt := 12) dX6_tick_2 (by decide) (fun h2 => ?_) (fun h2 => ?_)
  · refine z_bipush (pc := 12) (v := (-2)) dX6_tick_12 (by decide) ?_
    exact z_ireturn (pc := 14) dX6_tick_14 rfl rfl (Or.inl ⟨by first | exact Or.inl h2 | exact Or.inr (by rw [← Int32.not_le]; exact h9), rfl, rfl⟩)
  · refine z_iload_n (pc := 5) dX6_tick_5 rfl ?_
    refine z_sipush (pc := 6) (v := (nI 200)) dX6_tick_6 (by decide) ?_
    refine z_icmp_le (pc := 9) (tgt := 15) dX6_tick_9 (by decide) (fun h9 => ?_) (fun h9 => ?_)
    · have q9 : ¬ (m < nI 1 ∨ nI 200 < m) := fun g => g.elim h2 (fun g => z_nle g h9)
      refine z_aload_n (pc := 15) dX6_tick_15 rfl ?_
      refine z_getI (pc := 16) f_X6_55 dX6_tick_16 (by decide) rfl rfl ?_
      refine z_iload_n (pc := 19) dX6_tick_19 rfl ?_
      refine z_iadd (pc := 20) dX6_tick_20 ?_
      refine z_sipush (pc := 21) (v := (nI 2000)) dX6_tick_21 (by decide) ?_
      refine z_icmp_le (pc := 24) (tgt := 30) dX6_tick_24 (by decide) (fun h24 => ?_) (fun h24 => ?_)
      · refine z_aload_n (pc := 30) dX6_tick_30 rfl ?_
        refine z_dup_a (pc := 31) dX6_tick_31 ?_
        refine z_getI (pc := 32) f_X6_55 dX6_tick_32 (by decide) rfl rfl ?_
        refine z_iload_n (pc := 35) dX6_tick_35 rfl ?_
        refine z_iadd (pc := 36) dX6_tick_36 ?_
        refine z_putI (pc := 37) f_X6_55 tyX6_ok nmX6 (by decide) rfl rfl rfl dX6_tick_37 (by decide) rfl rfl ?_
        refine z_aload_n (pc := 40) dX6_tick_40 rfl ?_
        refine z_getA (pc := 41) f_X6_35 dX6_tick_41 (by decide) rfl rfl ?_
        refine z_aload_n (pc := 44) dX6_tick_44 rfl ?_
        refine z_getI (pc := 45) f_X6_55 dX6_tick_45 (by decide) rfl rfl ?_
        rw [show z_up σ 0 6 (σ 0 6 + m) 0 6 = σ 0 6 + m by rw [z_up_same, z_upd_s]]
        refine z_cV1 (pc := 48) mX0_settleAll l_X6_114 (by decide) dX6_tick_48 (by decide) rfl rfl (by decide) (Nat.le_of_ble_eq_true rfl) (c_X0_settleAll (n := n) (by rw [z_up_ne _ _ _ (by decide)]; exact H.1.1) H.1.2.1) rfl (fun r48 σ48 hr48 => ?_)
        obtain ⟨er48, eσ48⟩ := hr48
        subst er48
        refine z_aload_n (pc := 51) dX6_tick_51 rfl ?_
        refine z_getI (pc := 52) f_X6_55 dX6_tick_52 (by decide) rfl rfl ?_
        rw [show σ48 0 6 = σ 0 6 + m by rw [eσ48]; exact x_tik_0]
        exact z_ireturn (pc := 55) dX6_tick_55 rfl rfl (Or.inr (Or.inr ⟨q9, fun g => z_nle g h24, rfl, eσ48⟩))
      · refine z_bipush (pc := 27) (v := (-4)) dX6_tick_27 (by decide) ?_
        exact z_ireturn (pc := 29) dX6_tick_29 rfl rfl (Or.inr (Or.inl ⟨q9, by rw [← Int32.not_le]; exact h24, rfl, rfl⟩))
    · refine z_bipush (pc := 12) (v := (-2)) dX6_tick_12 (by decide) ?_
      exact z_ireturn (pc := 14) dX6_tick_14 rfl rfl (Or.inl ⟨by first | exact Or.inl h2 | exact Or.inr (by rw [← Int32.not_le]; exact h9), rfl, rfl⟩)
set_option maxRecDepth 20000 in
theorem k_mark {σ : z_Sto} {n e h : Nat} {x m : Int32} {T O : Nat → List Nat} (H : x_inv σ n e h T O) : z_R layX iX6_mark 0 [some (.ref 0), some (.int x), some (.int m)] [] σ (fun r σ' => (¬ ((∃ i, i < n ∧ x = nI i) ∧ (∃ j, j < 3 ∧ m = nI j)) ∧ r = some (.int (-2)) ∧ σ' = σ) ∨ (∃ i j, i < n ∧ j < 3 ∧ x = nI i ∧ m = nI j ∧ r = some (.int (σ 6 i)) ∧ σ' = z_up σ 6 i (nI j))) := by
  have h12 := H.1.2.1
  refine z_aload_n (pc := 0) dX6_mark_0 rfl ?_
  refine z_getA (pc := 1) f_X6_19 dX6_mark_1 (by decide) rfl rfl ?_
  refine z_iload_n (pc := 4) dX6_mark_4 rfl ?_
  refine z_cV1 (pc := 5) mX4_has l_X6_90 (by decide) dX6_mark_5 (by decide) rfl rfl (by decide) (Nat.le_of_ble_eq_true rfl) (c_has H.1.1 H.1.2.1) rfl (fun r5 σ5 hr5 => ?_)
  obtain ⟨v5, rfl, g5, g6, rfl⟩ := hr5
  refine z_if_eq (pc := 8) (tgt := 20) dX6_mark_8 (by decide) (fun h8 => ?_) (fun h8 => ?_)
  · refine z_bipush (pc := 20) (v := (-2)) dX6_mark_20 (by decide) ?_
    exact z_ireturn (pc := 22) dX6_mark_22 rfl rfl (Or.inl ⟨fun q => by first | (obtain ⟨⟨i, hi, e⟩, -⟩ := q; exact g6 h8 i hi e) | exact x_no0 (by decide) h12 q.2 | exact x_no3 h17 q.2, rfl, rfl⟩)
  · obtain ⟨i, hi, rfl⟩ := g5 h8
    refine z_iload_n (pc := 11) dX6_mark_11 rfl ?_
    refine z_if_lt (pc := 12) (tgt := 20) dX6_mark_12 (by decide) (fun h12 => ?_) (fun h12 => ?_)
    · refine z_bipush (pc := 20) (v := (-2)) dX6_mark_20 (by decide) ?_
      exact z_ireturn (pc := 22) dX6_mark_22 rfl rfl (Or.inl ⟨fun q => by first | (obtain ⟨⟨i, hi, e⟩, -⟩ := q; exact g6 h8 i hi e) | exact x_no0 (by decide) h12 q.2 | exact x_no3 h17 q.2, rfl, rfl⟩)
    · refine z_iload_n (pc := 15) dX6_mark_15 rfl ?_
      refine z_iconst (pc := 16) (v := (nI 2)) dX6_mark_16 (by decide) ?_
      refine z_icmp_le (pc := 17) (tgt := 23) dX6_mark_17 (by decide) (fun h17 => ?_) (fun h17 => ?_)
      · obtain ⟨j, hj, rfl⟩ := x_in3 h12 h17
        refine z_aload_n (pc := 23) dX6_mark_23 rfl ?_
        refine z_getA (pc := 24) f_X6_19 dX6_mark_24 (by decide) rfl rfl ?_
        refine z_iload_n (pc := 27) dX6_mark_27 rfl ?_
        refine z_iload_n (pc := 28) dX6_mark_28 rfl ?_
        refine z_cV2 (pc := 29) mX4_putMark l_X6_166 (by decide) dX6_mark_29 (by decide) rfl rfl (by decide) (Nat.le_of_ble_eq_true rfl) (c_X4_putMark (by omega)) rfl (fun r29 σ29 hr29 => ?_)
        obtain ⟨rfl, rfl⟩ := hr29
        exact z_ireturn (pc := 32) dX6_mark_32 rfl rfl (Or.inr ⟨i, j, hi, hj, rfl, rfl, rfl, rfl⟩)
      · refine z_bipush (pc := 20) (v := (-2)) dX6_mark_20 (by decide) ?_
        exact z_ireturn (pc := 22) dX6_mark_22 rfl rfl (Or.inl ⟨fun q => by first | (obtain ⟨⟨i, hi, e⟩, -⟩ := q; exact g6 h8 i hi e) | exact x_no0 (by decide) h12 q.2 | exact x_no3 h17 q.2, rfl, rfl⟩)
theorem x_mark_inv {σ : z_Sto} {n e h i : Nat} {v : Int32} {T O : Nat → List Nat} (H : x_inv σ n e h T O) : x_inv (z_up σ 6 i v) n e h T O :=
  x_inv_fr H (x_up_brd H.2.2.1 (fun q => by omega)) (fun c hc => z_up_ne _ _ _ (by omega))
end
