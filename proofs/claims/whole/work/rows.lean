section
-- ===== PART A: goes FIRST, ahead of the names: the tables' words, and 'selects' of the private methods out of them =====
/-- a private method of a class that the tables say can be made, by its rows of tables_1 -/
def lw_okq (q : MethodName × Nat) : Prop := (q.1.cls ≠ "java/lang/invoke/MethodHandle" ∧ q.1.cls ≠ "java/lang/invoke/VarHandle") ∧ Cond.instantiable q.1.cls q.2 ∈ tables_1 ∧ Cond.privateMethod q.1 ∈ tables_1 ∧ Cond.instanceMethod q.1 ∈ tables_1
theorem lw_p0 : lw_okq (⟨"SleepyHelm", "refuseBad", "(I)I"⟩, 13) := ⟨⟨by decide +kernel, by decide +kernel⟩, List.mem_of_getElem? (i := 22) (by decide +kernel), List.mem_of_getElem? (i := 309) (by decide +kernel), List.mem_of_getElem? (i := 310) (by decide +kernel)⟩
theorem lw_p1 : lw_okq (⟨"SleepyHelm", "refuseNo", "()I"⟩, 13) := ⟨⟨by decide +kernel, by decide +kernel⟩, List.mem_of_getElem? (i := 22) (by decide +kernel), List.mem_of_getElem? (i := 317) (by decide +kernel), List.mem_of_getElem? (i := 318) (by decide +kernel)⟩
theorem lw_p2 : lw_okq (⟨"SleepyHelm", "refuseFull", "()I"⟩, 13) := ⟨⟨by decide +kernel, by decide +kernel⟩, List.mem_of_getElem? (i := 22) (by decide +kernel), List.mem_of_getElem? (i := 321) (by decide +kernel), List.mem_of_getElem? (i := 322) (by decide +kernel)⟩
theorem lw_p3 : lw_okq (⟨"SleepyHelm$Text", "advance", "()V"⟩, 7) := ⟨⟨by decide +kernel, by decide +kernel⟩, List.mem_of_getElem? (i := 217) (by decide +kernel), List.mem_of_getElem? (i := 361) (by decide +kernel), List.mem_of_getElem? (i := 362) (by decide +kernel)⟩
theorem lw_p4 : lw_okq (⟨"SleepyHelm$Text", "advanceOverWord", "()V"⟩, 7) := ⟨⟨by decide +kernel, by decide +kernel⟩, List.mem_of_getElem? (i := 217) (by decide +kernel), List.mem_of_getElem? (i := 368) (by decide +kernel), List.mem_of_getElem? (i := 369) (by decide +kernel)⟩
theorem lw_p5 : lw_okq (⟨"SleepyHelm$Text", "advanceOverNumber", "()V"⟩, 7) := ⟨⟨by decide +kernel, by decide +kernel⟩, List.mem_of_getElem? (i := 217) (by decide +kernel), List.mem_of_getElem? (i := 375) (by decide +kernel), List.mem_of_getElem? (i := 376) (by decide +kernel)⟩
theorem lw_p6 : lw_okq (⟨"SleepyHelm$Text", "isWord", "(Ljava/lang/String;)Z"⟩, 7) := ⟨⟨by decide +kernel, by decide +kernel⟩, List.mem_of_getElem? (i := 217) (by decide +kernel), List.mem_of_getElem? (i := 380) (by decide +kernel), List.mem_of_getElem? (i := 381) (by decide +kernel)⟩
theorem lw_p7 : lw_okq (⟨"SleepyHelm$Text", "expectStop", "()V"⟩, 7) := ⟨⟨by decide +kernel, by decide +kernel⟩, List.mem_of_getElem? (i := 217) (by decide +kernel), List.mem_of_getElem? (i := 432) (by decide +kernel), List.mem_of_getElem? (i := 433) (by decide +kernel)⟩
theorem lw_p8 : lw_okq (⟨"SleepyHelm$Text", "fail", "()V"⟩, 7) := ⟨⟨by decide +kernel, by decide +kernel⟩, List.mem_of_getElem? (i := 217) (by decide +kernel), List.mem_of_getElem? (i := 436) (by decide +kernel), List.mem_of_getElem? (i := 437) (by decide +kernel)⟩
theorem lw_p9 : lw_okq (⟨"SleepyHelm$Text", "parseItem", "(LSleepyHelm$Voyage;)V"⟩, 7) := ⟨⟨by decide +kernel, by decide +kernel⟩, List.mem_of_getElem? (i := 217) (by decide +kernel), List.mem_of_getElem? (i := 440) (by decide +kernel), List.mem_of_getElem? (i := 441) (by decide +kernel)⟩
theorem lw_p10 : lw_okq (⟨"SleepyHelm$Text", "parseRock", "(LSleepyHelm$Voyage;I)V"⟩, 7) := ⟨⟨by decide +kernel, by decide +kernel⟩, List.mem_of_getElem? (i := 217) (by decide +kernel), List.mem_of_getElem? (i := 445) (by decide +kernel), List.mem_of_getElem? (i := 446) (by decide +kernel)⟩
theorem lw_p11 : lw_okq (⟨"SleepyHelm$Text", "isNumberUpTo", "(I)Z"⟩, 7) := ⟨⟨by decide +kernel, by decide +kernel⟩, List.mem_of_getElem? (i := 217) (by decide +kernel), List.mem_of_getElem? (i := 449) (by decide +kernel), List.mem_of_getElem? (i := 450) (by decide +kernel)⟩
theorem lw_p12 : lw_okq (⟨"SleepyHelm$Text", "parseHand", "(LSleepyHelm$Voyage;I)V"⟩, 7) := ⟨⟨by decide +kernel, by decide +kernel⟩, List.mem_of_getElem? (i := 217) (by decide +kernel), List.mem_of_getElem? (i := 457) (by decide +kernel), List.mem_of_getElem? (i := 458) (by decide +kernel)⟩
theorem lw_p13 : lw_okq (⟨"SleepyHelm$Text", "takeNumberUpTo", "(I)I"⟩, 7) := ⟨⟨by decide +kernel, by decide +kernel⟩, List.mem_of_getElem? (i := 217) (by decide +kernel), List.mem_of_getElem? (i := 461) (by decide +kernel), List.mem_of_getElem? (i := 462) (by decide +kernel)⟩
theorem lw_p14 : lw_okq (⟨"SleepyHelm", "isHand", "(I)Z"⟩, 13) := ⟨⟨by decide +kernel, by decide +kernel⟩, List.mem_of_getElem? (i := 22) (by decide +kernel), List.mem_of_getElem? (i := 484) (by decide +kernel), List.mem_of_getElem? (i := 485) (by decide +kernel)⟩
theorem lw_p15 : lw_okq (⟨"SleepyHelm$PeaSearch", "serve", "(II)V"⟩, 6) := ⟨⟨by decide +kernel, by decide +kernel⟩, List.mem_of_getElem? (i := 188) (by decide +kernel), List.mem_of_getElem? (i := 601) (by decide +kernel), List.mem_of_getElem? (i := 602) (by decide +kernel)⟩
def lw_privs_1 : List (MethodName × Nat) := [(⟨"SleepyHelm", "refuseBad", "(I)I"⟩, 13), (⟨"SleepyHelm", "refuseNo", "()I"⟩, 13), (⟨"SleepyHelm", "refuseFull", "()I"⟩, 13), (⟨"SleepyHelm$Text", "advance", "()V"⟩, 7), (⟨"SleepyHelm$Text", "advanceOverWord", "()V"⟩, 7), (⟨"SleepyHelm$Text", "advanceOverNumber", "()V"⟩, 7), (⟨"SleepyHelm$Text", "isWord", "(Ljava/lang/String;)Z"⟩, 7), (⟨"SleepyHelm$Text", "expectStop", "()V"⟩, 7), (⟨"SleepyHelm$Text", "fail", "()V"⟩, 7), (⟨"SleepyHelm$Text", "parseItem", "(LSleepyHelm$Voyage;)V"⟩, 7), (⟨"SleepyHelm$Text", "parseRock", "(LSleepyHelm$Voyage;I)V"⟩, 7), (⟨"SleepyHelm$Text", "isNumberUpTo", "(I)Z"⟩, 7), (⟨"SleepyHelm$Text", "parseHand", "(LSleepyHelm$Voyage;I)V"⟩, 7), (⟨"SleepyHelm$Text", "takeNumberUpTo", "(I)I"⟩, 7), (⟨"SleepyHelm", "isHand", "(I)Z"⟩, 13), (⟨"SleepyHelm$PeaSearch", "serve", "(II)V"⟩, 6)]
theorem lw_r1 : ∀ q ∈ lw_privs_1, lw_okq q := List.forall_mem_cons.mpr ⟨lw_p0, List.forall_mem_cons.mpr ⟨lw_p1, List.forall_mem_cons.mpr ⟨lw_p2, List.forall_mem_cons.mpr ⟨lw_p3, List.forall_mem_cons.mpr ⟨lw_p4, List.forall_mem_cons.mpr ⟨lw_p5, List.forall_mem_cons.mpr ⟨lw_p6, List.forall_mem_cons.mpr ⟨lw_p7, List.forall_mem_cons.mpr ⟨lw_p8, List.forall_mem_cons.mpr ⟨lw_p9, List.forall_mem_cons.mpr ⟨lw_p10, List.forall_mem_cons.mpr ⟨lw_p11, List.forall_mem_cons.mpr ⟨lw_p12, List.forall_mem_cons.mpr ⟨lw_p13, List.forall_mem_cons.mpr ⟨lw_p14, List.forall_mem_cons.mpr ⟨lw_p15, fun _ h => absurd h List.not_mem_nil⟩⟩⟩⟩⟩⟩⟩⟩⟩⟩⟩⟩⟩⟩⟩⟩
theorem lw_p16 : lw_okq (⟨"SleepyHelm$PeaSearch", "goOn", "(III)V"⟩, 6) := ⟨⟨by decide +kernel, by decide +kernel⟩, List.mem_of_getElem? (i := 188) (by decide +kernel), List.mem_of_getElem? (i := 610) (by decide +kernel), List.mem_of_getElem? (i := 611) (by decide +kernel)⟩
theorem lw_p17 : lw_okq (⟨"SleepyHelm$Helm", "steererByPair", "(III)I"⟩, 8) := ⟨⟨by decide +kernel, by decide +kernel⟩, List.mem_of_getElem? (i := 80) (by decide +kernel), List.mem_of_getElem? (i := 635) (by decide +kernel), List.mem_of_getElem? (i := 636) (by decide +kernel)⟩
theorem lw_p18 : lw_okq (⟨"SleepyHelm", "fittingNods", "(I)I"⟩, 13) := ⟨⟨by decide +kernel, by decide +kernel⟩, List.mem_of_getElem? (i := 22) (by decide +kernel), List.mem_of_getElem? (i := 656) (by decide +kernel), List.mem_of_getElem? (i := 657) (by decide +kernel)⟩
theorem lw_p19 : lw_okq (⟨"SleepyHelm", "fitsNods", "(II)Z"⟩, 13) := ⟨⟨by decide +kernel, by decide +kernel⟩, List.mem_of_getElem? (i := 22) (by decide +kernel), List.mem_of_getElem? (i := 660) (by decide +kernel), List.mem_of_getElem? (i := 661) (by decide +kernel)⟩
theorem lw_p20 : lw_okq (⟨"SleepyHelm", "fitsPulled", "(II)Z"⟩, 13) := ⟨⟨by decide +kernel, by decide +kernel⟩, List.mem_of_getElem? (i := 22) (by decide +kernel), List.mem_of_getElem? (i := 672) (by decide +kernel), List.mem_of_getElem? (i := 673) (by decide +kernel)⟩
theorem lw_p21 : lw_okq (⟨"SleepyHelm$Helm", "chancesOfOthers", "(III)I"⟩, 8) := ⟨⟨by decide +kernel, by decide +kernel⟩, List.mem_of_getElem? (i := 80) (by decide +kernel), List.mem_of_getElem? (i := 705) (by decide +kernel), List.mem_of_getElem? (i := 706) (by decide +kernel)⟩
theorem lw_p22 : lw_okq (⟨"SleepyHelm", "setFraction", "(II)V"⟩, 13) := ⟨⟨by decide +kernel, by decide +kernel⟩, List.mem_of_getElem? (i := 22) (by decide +kernel), List.mem_of_getElem? (i := 709) (by decide +kernel), List.mem_of_getElem? (i := 710) (by decide +kernel)⟩
theorem lw_p23 : lw_okq (⟨"SleepyHelm", "amount", "(I)I"⟩, 13) := ⟨⟨by decide +kernel, by decide +kernel⟩, List.mem_of_getElem? (i := 22) (by decide +kernel), List.mem_of_getElem? (i := 746) (by decide +kernel), List.mem_of_getElem? (i := 747) (by decide +kernel)⟩
theorem lw_p24 : lw_okq (⟨"SleepyHelmModel", "begin", "()V"⟩, 33) := ⟨⟨by decide +kernel, by decide +kernel⟩, List.mem_of_getElem? (i := 762) (by decide +kernel), List.mem_of_getElem? (i := 768) (by decide +kernel), List.mem_of_getElem? (i := 769) (by decide +kernel)⟩
theorem lw_p25 : lw_okq (⟨"SleepyHelmModel", "bad", "()I"⟩, 33) := ⟨⟨by decide +kernel, by decide +kernel⟩, List.mem_of_getElem? (i := 762) (by decide +kernel), List.mem_of_getElem? (i := 883) (by decide +kernel), List.mem_of_getElem? (i := 884) (by decide +kernel)⟩
theorem lw_p26 : lw_okq (⟨"SleepyHelmModel", "isRock", "(I)Z"⟩, 33) := ⟨⟨by decide +kernel, by decide +kernel⟩, List.mem_of_getElem? (i := 762) (by decide +kernel), List.mem_of_getElem? (i := 887) (by decide +kernel), List.mem_of_getElem? (i := 888) (by decide +kernel)⟩
theorem lw_p27 : lw_okq (⟨"SleepyHelmModel", "no", "()I"⟩, 33) := ⟨⟨by decide +kernel, by decide +kernel⟩, List.mem_of_getElem? (i := 762) (by decide +kernel), List.mem_of_getElem? (i := 891) (by decide +kernel), List.mem_of_getElem? (i := 892) (by decide +kernel)⟩
theorem lw_p28 : lw_okq (⟨"SleepyHelmModel", "full", "()I"⟩, 33) := ⟨⟨by decide +kernel, by decide +kernel⟩, List.mem_of_getElem? (i := 762) (by decide +kernel), List.mem_of_getElem? (i := 895) (by decide +kernel), List.mem_of_getElem? (i := 896) (by decide +kernel)⟩
theorem lw_p29 : lw_okq (⟨"SleepyHelmModel", "addRock", "(I)I"⟩, 33) := ⟨⟨by decide +kernel, by decide +kernel⟩, List.mem_of_getElem? (i := 762) (by decide +kernel), List.mem_of_getElem? (i := 899) (by decide +kernel), List.mem_of_getElem? (i := 900) (by decide +kernel)⟩
theorem lw_p30 : lw_okq (⟨"SleepyHelmModel", "addHand", "(III)I"⟩, 33) := ⟨⟨by decide +kernel, by decide +kernel⟩, List.mem_of_getElem? (i := 762) (by decide +kernel), List.mem_of_getElem? (i := 907) (by decide +kernel), List.mem_of_getElem? (i := 908) (by decide +kernel)⟩
theorem lw_p31 : lw_okq (⟨"SleepyHelmModel", "readsShip", "()I"⟩, 33) := ⟨⟨by decide +kernel, by decide +kernel⟩, List.mem_of_getElem? (i := 762) (by decide +kernel), List.mem_of_getElem? (i := 923) (by decide +kernel), List.mem_of_getElem? (i := 924) (by decide +kernel)⟩
def lw_privs_2 : List (MethodName × Nat) := [(⟨"SleepyHelm$PeaSearch", "goOn", "(III)V"⟩, 6), (⟨"SleepyHelm$Helm", "steererByPair", "(III)I"⟩, 8), (⟨"SleepyHelm", "fittingNods", "(I)I"⟩, 13), (⟨"SleepyHelm", "fitsNods", "(II)Z"⟩, 13), (⟨"SleepyHelm", "fitsPulled", "(II)Z"⟩, 13), (⟨"SleepyHelm$Helm", "chancesOfOthers", "(III)I"⟩, 8), (⟨"SleepyHelm", "setFraction", "(II)V"⟩, 13), (⟨"SleepyHelm", "amount", "(I)I"⟩, 13), (⟨"SleepyHelmModel", "begin", "()V"⟩, 33), (⟨"SleepyHelmModel", "bad", "()I"⟩, 33), (⟨"SleepyHelmModel", "isRock", "(I)Z"⟩, 33), (⟨"SleepyHelmModel", "no", "()I"⟩, 33), (⟨"SleepyHelmModel", "full", "()I"⟩, 33), (⟨"SleepyHelmModel", "addRock", "(I)I"⟩, 33), (⟨"SleepyHelmModel", "addHand", "(III)I"⟩, 33), (⟨"SleepyHelmModel", "readsShip", "()I"⟩, 33)]
theorem lw_r2 : ∀ q ∈ lw_privs_2, lw_okq q := List.forall_mem_cons.mpr ⟨lw_p16, List.forall_mem_cons.mpr ⟨lw_p17, List.forall_mem_cons.mpr ⟨lw_p18, List.forall_mem_cons.mpr ⟨lw_p19, List.forall_mem_cons.mpr ⟨lw_p20, List.forall_mem_cons.mpr ⟨lw_p21, List.forall_mem_cons.mpr ⟨lw_p22, List.forall_mem_cons.mpr ⟨lw_p23, List.forall_mem_cons.mpr ⟨lw_p24, List.forall_mem_cons.mpr ⟨lw_p25, List.forall_mem_cons.mpr ⟨lw_p26, List.forall_mem_cons.mpr ⟨lw_p27, List.forall_mem_cons.mpr ⟨lw_p28, List.forall_mem_cons.mpr ⟨lw_p29, List.forall_mem_cons.mpr ⟨lw_p30, List.forall_mem_cons.mpr ⟨lw_p31, fun _ h => absurd h List.not_mem_nil⟩⟩⟩⟩⟩⟩⟩⟩⟩⟩⟩⟩⟩⟩⟩⟩
theorem lw_p32 : lw_okq (⟨"SleepyHelmModel", "skip", "()V"⟩, 33) := ⟨⟨by decide +kernel, by decide +kernel⟩, List.mem_of_getElem? (i := 762) (by decide +kernel), List.mem_of_getElem? (i := 927) (by decide +kernel), List.mem_of_getElem? (i := 928) (by decide +kernel)⟩
theorem lw_p33 : lw_okq (⟨"SleepyHelmModel", "here", "()I"⟩, 33) := ⟨⟨by decide +kernel, by decide +kernel⟩, List.mem_of_getElem? (i := 762) (by decide +kernel), List.mem_of_getElem? (i := 931) (by decide +kernel), List.mem_of_getElem? (i := 932) (by decide +kernel)⟩
theorem lw_p34 : lw_okq (⟨"SleepyHelmModel", "wordHere", "()I"⟩, 33) := ⟨⟨by decide +kernel, by decide +kernel⟩, List.mem_of_getElem? (i := 762) (by decide +kernel), List.mem_of_getElem? (i := 935) (by decide +kernel), List.mem_of_getElem? (i := 936) (by decide +kernel)⟩
theorem lw_p35 : lw_okq (⟨"SleepyHelmModel", "spells", "(IIII)Z"⟩, 33) := ⟨⟨by decide +kernel, by decide +kernel⟩, List.mem_of_getElem? (i := 762) (by decide +kernel), List.mem_of_getElem? (i := 939) (by decide +kernel), List.mem_of_getElem? (i := 940) (by decide +kernel)⟩
theorem lw_p36 : lw_okq (⟨"SleepyHelmModel", "wordSize", "()I"⟩, 33) := ⟨⟨by decide +kernel, by decide +kernel⟩, List.mem_of_getElem? (i := 762) (by decide +kernel), List.mem_of_getElem? (i := 943) (by decide +kernel), List.mem_of_getElem? (i := 944) (by decide +kernel)⟩
theorem lw_p37 : lw_okq (⟨"SleepyHelmModel", "letter", "(I)I"⟩, 33) := ⟨⟨by decide +kernel, by decide +kernel⟩, List.mem_of_getElem? (i := 762) (by decide +kernel), List.mem_of_getElem? (i := 950) (by decide +kernel), List.mem_of_getElem? (i := 951) (by decide +kernel)⟩
theorem lw_p38 : lw_okq (⟨"SleepyHelmModel", "ends", "()Z"⟩, 33) := ⟨⟨by decide +kernel, by decide +kernel⟩, List.mem_of_getElem? (i := 762) (by decide +kernel), List.mem_of_getElem? (i := 954) (by decide +kernel), List.mem_of_getElem? (i := 955) (by decide +kernel)⟩
theorem lw_p39 : lw_okq (⟨"SleepyHelmModel", "readsItem", "()Z"⟩, 33) := ⟨⟨by decide +kernel, by decide +kernel⟩, List.mem_of_getElem? (i := 762) (by decide +kernel), List.mem_of_getElem? (i := 958) (by decide +kernel), List.mem_of_getElem? (i := 959) (by decide +kernel)⟩
theorem lw_p40 : lw_okq (⟨"SleepyHelmModel", "readsRock", "(I)Z"⟩, 33) := ⟨⟨by decide +kernel, by decide +kernel⟩, List.mem_of_getElem? (i := 762) (by decide +kernel), List.mem_of_getElem? (i := 962) (by decide +kernel), List.mem_of_getElem? (i := 963) (by decide +kernel)⟩
theorem lw_p41 : lw_okq (⟨"SleepyHelmModel", "number", "(II)Z"⟩, 33) := ⟨⟨by decide +kernel, by decide +kernel⟩, List.mem_of_getElem? (i := 762) (by decide +kernel), List.mem_of_getElem? (i := 966) (by decide +kernel), List.mem_of_getElem? (i := 967) (by decide +kernel)⟩
theorem lw_p42 : lw_okq (⟨"SleepyHelmModel", "readsHand", "(I)Z"⟩, 33) := ⟨⟨by decide +kernel, by decide +kernel⟩, List.mem_of_getElem? (i := 762) (by decide +kernel), List.mem_of_getElem? (i := 973) (by decide +kernel), List.mem_of_getElem? (i := 974) (by decide +kernel)⟩
theorem lw_p43 : lw_okq (⟨"SleepyHelmModel", "isHand", "(I)Z"⟩, 33) := ⟨⟨by decide +kernel, by decide +kernel⟩, List.mem_of_getElem? (i := 762) (by decide +kernel), List.mem_of_getElem? (i := 981) (by decide +kernel), List.mem_of_getElem? (i := 982) (by decide +kernel)⟩
theorem lw_p44 : lw_okq (⟨"SleepyHelmModel", "notes", "()V"⟩, 33) := ⟨⟨by decide +kernel, by decide +kernel⟩, List.mem_of_getElem? (i := 762) (by decide +kernel), List.mem_of_getElem? (i := 985) (by decide +kernel), List.mem_of_getElem? (i := 986) (by decide +kernel)⟩
theorem lw_p45 : lw_okq (⟨"SleepyHelmModel", "lays", "([II)V"⟩, 33) := ⟨⟨by decide +kernel, by decide +kernel⟩, List.mem_of_getElem? (i := 762) (by decide +kernel), List.mem_of_getElem? (i := 989) (by decide +kernel), List.mem_of_getElem? (i := 990) (by decide +kernel)⟩
theorem lw_p46 : lw_okq (⟨"SleepyHelmModel", "pass", "()I"⟩, 33) := ⟨⟨by decide +kernel, by decide +kernel⟩, List.mem_of_getElem? (i := 762) (by decide +kernel), List.mem_of_getElem? (i := 997) (by decide +kernel), List.mem_of_getElem? (i := 998) (by decide +kernel)⟩
theorem lw_p47 : lw_okq (⟨"SleepyHelmModel", "steers", "()I"⟩, 33) := ⟨⟨by decide +kernel, by decide +kernel⟩, List.mem_of_getElem? (i := 762) (by decide +kernel), List.mem_of_getElem? (i := 1001) (by decide +kernel), List.mem_of_getElem? (i := 1002) (by decide +kernel)⟩
def lw_privs_3 : List (MethodName × Nat) := [(⟨"SleepyHelmModel", "skip", "()V"⟩, 33), (⟨"SleepyHelmModel", "here", "()I"⟩, 33), (⟨"SleepyHelmModel", "wordHere", "()I"⟩, 33), (⟨"SleepyHelmModel", "spells", "(IIII)Z"⟩, 33), (⟨"SleepyHelmModel", "wordSize", "()I"⟩, 33), (⟨"SleepyHelmModel", "letter", "(I)I"⟩, 33), (⟨"SleepyHelmModel", "ends", "()Z"⟩, 33), (⟨"SleepyHelmModel", "readsItem", "()Z"⟩, 33), (⟨"SleepyHelmModel", "readsRock", "(I)Z"⟩, 33), (⟨"SleepyHelmModel", "number", "(II)Z"⟩, 33), (⟨"SleepyHelmModel", "readsHand", "(I)Z"⟩, 33), (⟨"SleepyHelmModel", "isHand", "(I)Z"⟩, 33), (⟨"SleepyHelmModel", "notes", "()V"⟩, 33), (⟨"SleepyHelmModel", "lays", "([II)V"⟩, 33), (⟨"SleepyHelmModel", "pass", "()I"⟩, 33), (⟨"SleepyHelmModel", "steers", "()I"⟩, 33)]
theorem lw_r3 : ∀ q ∈ lw_privs_3, lw_okq q := List.forall_mem_cons.mpr ⟨lw_p32, List.forall_mem_cons.mpr ⟨lw_p33, List.forall_mem_cons.mpr ⟨lw_p34, List.forall_mem_cons.mpr ⟨lw_p35, List.forall_mem_cons.mpr ⟨lw_p36, List.forall_mem_cons.mpr ⟨lw_p37, List.forall_mem_cons.mpr ⟨lw_p38, List.forall_mem_cons.mpr ⟨lw_p39, List.forall_mem_cons.mpr ⟨lw_p40, List.forall_mem_cons.mpr ⟨lw_p41, List.forall_mem_cons.mpr ⟨lw_p42, List.forall_mem_cons.mpr ⟨lw_p43, List.forall_mem_cons.mpr ⟨lw_p44, List.forall_mem_cons.mpr ⟨lw_p45, List.forall_mem_cons.mpr ⟨lw_p46, List.forall_mem_cons.mpr ⟨lw_p47, fun _ h => absurd h List.not_mem_nil⟩⟩⟩⟩⟩⟩⟩⟩⟩⟩⟩⟩⟩⟩⟩⟩
theorem lw_p48 : lw_okq (⟨"SleepyHelmModel", "sleepy", "(I)I"⟩, 33) := ⟨⟨by decide +kernel, by decide +kernel⟩, List.mem_of_getElem? (i := 762) (by decide +kernel), List.mem_of_getElem? (i := 1005) (by decide +kernel), List.mem_of_getElem? (i := 1006) (by decide +kernel)⟩
theorem lw_p49 : lw_okq (⟨"SleepyHelmModel", "takes", "([II)V"⟩, 33) := ⟨⟨by decide +kernel, by decide +kernel⟩, List.mem_of_getElem? (i := 762) (by decide +kernel), List.mem_of_getElem? (i := 1019) (by decide +kernel), List.mem_of_getElem? (i := 1020) (by decide +kernel)⟩
theorem lw_p50 : lw_okq (⟨"SleepyHelmModel", "ten", "()I"⟩, 33) := ⟨⟨by decide +kernel, by decide +kernel⟩, List.mem_of_getElem? (i := 762) (by decide +kernel), List.mem_of_getElem? (i := 1027) (by decide +kernel), List.mem_of_getElem? (i := 1028) (by decide +kernel)⟩
theorem lw_p51 : lw_okq (⟨"SleepyHelmModel", "manyBad", "()I"⟩, 33) := ⟨⟨by decide +kernel, by decide +kernel⟩, List.mem_of_getElem? (i := 762) (by decide +kernel), List.mem_of_getElem? (i := 1035) (by decide +kernel), List.mem_of_getElem? (i := 1036) (by decide +kernel)⟩
theorem lw_p52 : lw_okq (⟨"SleepyHelmModel", "puts", "()V"⟩, 33) := ⟨⟨by decide +kernel, by decide +kernel⟩, List.mem_of_getElem? (i := 762) (by decide +kernel), List.mem_of_getElem? (i := 1043) (by decide +kernel), List.mem_of_getElem? (i := 1044) (by decide +kernel)⟩
theorem lw_p53 : lw_okq (⟨"SleepyHelmModel", "passes", "(I)V"⟩, 33) := ⟨⟨by decide +kernel, by decide +kernel⟩, List.mem_of_getElem? (i := 762) (by decide +kernel), List.mem_of_getElem? (i := 1047) (by decide +kernel), List.mem_of_getElem? (i := 1048) (by decide +kernel)⟩
theorem lw_p54 : lw_okq (⟨"SleepyHelmModel", "back", "()V"⟩, 33) := ⟨⟨by decide +kernel, by decide +kernel⟩, List.mem_of_getElem? (i := 762) (by decide +kernel), List.mem_of_getElem? (i := 1051) (by decide +kernel), List.mem_of_getElem? (i := 1052) (by decide +kernel)⟩
theorem lw_p55 : lw_okq (⟨"SleepyHelmModel", "fedBy", "(II)I"⟩, 33) := ⟨⟨by decide +kernel, by decide +kernel⟩, List.mem_of_getElem? (i := 762) (by decide +kernel), List.mem_of_getElem? (i := 1063) (by decide +kernel), List.mem_of_getElem? (i := 1064) (by decide +kernel)⟩
theorem lw_p56 : lw_okq (⟨"SleepyHelmModel", "placeBy", "(I)I"⟩, 33) := ⟨⟨by decide +kernel, by decide +kernel⟩, List.mem_of_getElem? (i := 762) (by decide +kernel), List.mem_of_getElem? (i := 1067) (by decide +kernel), List.mem_of_getElem? (i := 1068) (by decide +kernel)⟩
theorem lw_p57 : lw_okq (⟨"SleepyHelmModel", "steersBy", "(I)I"⟩, 33) := ⟨⟨by decide +kernel, by decide +kernel⟩, List.mem_of_getElem? (i := 762) (by decide +kernel), List.mem_of_getElem? (i := 1075) (by decide +kernel), List.mem_of_getElem? (i := 1076) (by decide +kernel)⟩
theorem lw_p58 : lw_okq (⟨"SleepyHelmModel", "nodSet", "(I)I"⟩, 33) := ⟨⟨by decide +kernel, by decide +kernel⟩, List.mem_of_getElem? (i := 762) (by decide +kernel), List.mem_of_getElem? (i := 1095) (by decide +kernel), List.mem_of_getElem? (i := 1096) (by decide +kernel)⟩
theorem lw_p59 : lw_okq (⟨"SleepyHelmModel", "setWay", "()V"⟩, 33) := ⟨⟨by decide +kernel, by decide +kernel⟩, List.mem_of_getElem? (i := 762) (by decide +kernel), List.mem_of_getElem? (i := 1099) (by decide +kernel), List.mem_of_getElem? (i := 1100) (by decide +kernel)⟩
theorem lw_p60 : lw_okq (⟨"SleepyHelmModel", "isSeen", "(II)Z"⟩, 33) := ⟨⟨by decide +kernel, by decide +kernel⟩, List.mem_of_getElem? (i := 762) (by decide +kernel), List.mem_of_getElem? (i := 1103) (by decide +kernel), List.mem_of_getElem? (i := 1104) (by decide +kernel)⟩
theorem lw_p61 : lw_okq (⟨"SleepyHelmModel", "alike", "(II)I"⟩, 33) := ⟨⟨by decide +kernel, by decide +kernel⟩, List.mem_of_getElem? (i := 762) (by decide +kernel), List.mem_of_getElem? (i := 1115) (by decide +kernel), List.mem_of_getElem? (i := 1116) (by decide +kernel)⟩
theorem lw_p62 : lw_okq (⟨"SleepyHelmModel", "lay", "(JJ)V"⟩, 33) := ⟨⟨by decide +kernel, by decide +kernel⟩, List.mem_of_getElem? (i := 762) (by decide +kernel), List.mem_of_getElem? (i := 1135) (by decide +kernel), List.mem_of_getElem? (i := 1136) (by decide +kernel)⟩
theorem lw_p63 : lw_okq (⟨"SleepyHelmModel", "countOf", "(I)I"⟩, 33) := ⟨⟨by decide +kernel, by decide +kernel⟩, List.mem_of_getElem? (i := 762) (by decide +kernel), List.mem_of_getElem? (i := 1169) (by decide +kernel), List.mem_of_getElem? (i := 1170) (by decide +kernel)⟩
def lw_privs_4 : List (MethodName × Nat) := [(⟨"SleepyHelmModel", "sleepy", "(I)I"⟩, 33), (⟨"SleepyHelmModel", "takes", "([II)V"⟩, 33), (⟨"SleepyHelmModel", "ten", "()I"⟩, 33), (⟨"SleepyHelmModel", "manyBad", "()I"⟩, 33), (⟨"SleepyHelmModel", "puts", "()V"⟩, 33), (⟨"SleepyHelmModel", "passes", "(I)V"⟩, 33), (⟨"SleepyHelmModel", "back", "()V"⟩, 33), (⟨"SleepyHelmModel", "fedBy", "(II)I"⟩, 33), (⟨"SleepyHelmModel", "placeBy", "(I)I"⟩, 33), (⟨"SleepyHelmModel", "steersBy", "(I)I"⟩, 33), (⟨"SleepyHelmModel", "nodSet", "(I)I"⟩, 33), (⟨"SleepyHelmModel", "setWay", "()V"⟩, 33), (⟨"SleepyHelmModel", "isSeen", "(II)Z"⟩, 33), (⟨"SleepyHelmModel", "alike", "(II)I"⟩, 33), (⟨"SleepyHelmModel", "lay", "(JJ)V"⟩, 33), (⟨"SleepyHelmModel", "countOf", "(I)I"⟩, 33)]
theorem lw_r4 : ∀ q ∈ lw_privs_4, lw_okq q := List.forall_mem_cons.mpr ⟨lw_p48, List.forall_mem_cons.mpr ⟨lw_p49, List.forall_mem_cons.mpr ⟨lw_p50, List.forall_mem_cons.mpr ⟨lw_p51, List.forall_mem_cons.mpr ⟨lw_p52, List.forall_mem_cons.mpr ⟨lw_p53, List.forall_mem_cons.mpr ⟨lw_p54, List.forall_mem_cons.mpr ⟨lw_p55, List.forall_mem_cons.mpr ⟨lw_p56, List.forall_mem_cons.mpr ⟨lw_p57, List.forall_mem_cons.mpr ⟨lw_p58, List.forall_mem_cons.mpr ⟨lw_p59, List.forall_mem_cons.mpr ⟨lw_p60, List.forall_mem_cons.mpr ⟨lw_p61, List.forall_mem_cons.mpr ⟨lw_p62, List.forall_mem_cons.mpr ⟨lw_p63, fun _ h => absurd h List.not_mem_nil⟩⟩⟩⟩⟩⟩⟩⟩⟩⟩⟩⟩⟩⟩⟩⟩
theorem lw_p64 : lw_okq (⟨"SleepyHelmModel", "mix", "(J)V"⟩, 33) := ⟨⟨by decide +kernel, by decide +kernel⟩, List.mem_of_getElem? (i := 762) (by decide +kernel), List.mem_of_getElem? (i := 1178) (by decide +kernel), List.mem_of_getElem? (i := 1179) (by decide +kernel)⟩
def lw_privs_5 : List (MethodName × Nat) := [(⟨"SleepyHelmModel", "mix", "(J)V"⟩, 33)]
theorem lw_r5 : ∀ q ∈ lw_privs_5, lw_okq q := List.forall_mem_cons.mpr ⟨lw_p64, fun _ h => absurd h List.not_mem_nil⟩
def lw_privs : List (MethodName × Nat) := lw_privs_1 ++ (lw_privs_2 ++ (lw_privs_3 ++ (lw_privs_4 ++ (lw_privs_5))))
def lw_tbl : List Cond := k2_sels lw_privs ++ tables_1
theorem lw_privs_ok : ∀ q ∈ lw_privs, lw_okq q := by
  show ∀ q ∈ lw_privs_1 ++ (lw_privs_2 ++ (lw_privs_3 ++ (lw_privs_4 ++ (lw_privs_5)))), lw_okq q
  exact List.forall_mem_append.mpr ⟨lw_r1, List.forall_mem_append.mpr ⟨lw_r2, List.forall_mem_append.mpr ⟨lw_r3, List.forall_mem_append.mpr ⟨lw_r4, lw_r5⟩⟩⟩⟩
end
section
def RX0 : String := "SleepyHelm$Boy"
def TX0 : u_T := fun k => match k with
  | _ => ("", "", "", false)
def tyX0 : Nat → FieldType := fun k => match k with
  | _ => .int
theorem nmX0 : ∀ a, a < 0 → ∀ b, b < 0 → a ≠ b → (TX0 a).2.1 ≠ (TX0 b).2.1 := by decide +kernel
theorem tyX0_ok : ∀ k, k < 0 → parseFieldDescriptor (TX0 k).2.2.1 = some (tyX0 k) := by decide +kernel
abbrev cX0_init : ByteArray := prog_2_method_1_code
def yX0_init : MethodName := ⟨RX0, "<init>", "()V"⟩
abbrev cX0_sleepy : ByteArray := prog_2_method_2_code
def yX0_sleepy : MethodName := ⟨RX0, "sleepy", "(IZI)I"⟩
abbrev cX0_tires : ByteArray := prog_2_method_3_code
def yX0_tires : MethodName := ⟨RX0, "tires", "()I"⟩
def RX1 : String := "SleepyHelm$Cold"
def TX1 : u_T := fun k => match k with
  | _ => ("", "", "", false)
def tyX1 : Nat → FieldType := fun k => match k with
  | _ => .int
theorem nmX1 : ∀ a, a < 0 → ∀ b, b < 0 → a ≠ b → (TX1 a).2.1 ≠ (TX1 b).2.1 := by decide +kernel
theorem tyX1_ok : ∀ k, k < 0 → parseFieldDescriptor (TX1 k).2.2.1 = some (tyX1 k) := by decide +kernel
abbrev cX1_init : ByteArray := prog_3_method_1_code
def yX1_init : MethodName := ⟨RX1, "<init>", "()V"⟩
abbrev cX1_sleepy : ByteArray := prog_3_method_2_code
def yX1_sleepy : MethodName := ⟨RX1, "sleepy", "(IZI)I"⟩
def RX2 : String := "SleepyHelm$Cook"
def TX2 : u_T := fun k => match k with
  | _ => ("", "", "", false)
def tyX2 : Nat → FieldType := fun k => match k with
  | _ => .int
theorem nmX2 : ∀ a, a < 0 → ∀ b, b < 0 → a ≠ b → (TX2 a).2.1 ≠ (TX2 b).2.1 := by decide +kernel
theorem tyX2_ok : ∀ k, k < 0 → parseFieldDescriptor (TX2 k).2.2.1 = some (tyX2 k) := by decide +kernel
abbrev cX2_init : ByteArray := prog_4_method_1_code
def yX2_init : MethodName := ⟨RX2, "<init>", "()V"⟩
abbrev cX2_sleepy : ByteArray := prog_4_method_2_code
def yX2_sleepy : MethodName := ⟨RX2, "sleepy", "(IZI)I"⟩
def RX3 : String := "SleepyHelm$Course"
def TX3 : u_T := fun k => match k with
  | 0 => ("SleepyHelm$Course", "going", "LSleepyHelm$Helm;", true)
  | 1 => ("SleepyHelm$Course", "places", "[I", true)
  | _ => ("SleepyHelm$Course", "steerers", "[I", true)
def tyX3 : Nat → FieldType := fun k => match k with
  | 0 => .object "SleepyHelm$Helm"
  | 1 => .array .int
  | _ => .array .int
theorem nmX3 : ∀ a, a < 3 → ∀ b, b < 3 → a ≠ b → (TX3 a).2.1 ≠ (TX3 b).2.1 := by decide +kernel
theorem tyX3_ok : ∀ k, k < 3 → parseFieldDescriptor (TX3 k).2.2.1 = some (tyX3 k) := by decide +kernel
abbrev cX3_init : ByteArray := prog_5_method_1_code
def yX3_init : MethodName := ⟨RX3, "<init>", "([LSleepyHelm$Plain;)V"⟩
abbrev cX3_run : ByteArray := prog_5_method_2_code
def yX3_run : MethodName := ⟨RX3, "run", "(LSleepyHelm$Helm;I)V"⟩
abbrev cX3_timesSteered : ByteArray := prog_5_method_3_code
def yX3_timesSteered : MethodName := ⟨RX3, "timesSteered", "(II)I"⟩
def RX4 : String := "SleepyHelm$Helm"
def TX4 : u_T := fun k => match k with
  | 0 => ("SleepyHelm$Helm", "kinds", "[LSleepyHelm$Plain;", true)
  | 1 => ("SleepyHelm$Helm", "kind", "[I", true)
  | 2 => ("SleepyHelm$Helm", "tired", "[I", true)
  | 3 => ("SleepyHelm$Helm", "nods", "[I", true)
  | 4 => ("SleepyHelm$Helm", "crew", "I", false)
  | 5 => ("SleepyHelm$Helm", "place", "I", false)
  | 6 => ("SleepyHelm$Helm", "watch", "I", false)
  | _ => ("SleepyHelm$Helm", "fed", "I", false)
def tyX4 : Nat → FieldType := fun k => match k with
  | 0 => .array (.object "SleepyHelm$Plain")
  | 1 => .array .int
  | 2 => .array .int
  | 3 => .array .int
  | 4 => .int
  | 5 => .int
  | 6 => .int
  | _ => .int
theorem nmX4 : ∀ a, a < 8 → ∀ b, b < 8 → a ≠ b → (TX4 a).2.1 ≠ (TX4 b).2.1 := by decide +kernel
theorem tyX4_ok : ∀ k, k < 8 → parseFieldDescriptor (TX4 k).2.2.1 = some (tyX4 k) := by decide +kernel
abbrev cX4_init : ByteArray := prog_6_method_1_code
def yX4_init : MethodName := ⟨RX4, "<init>", "([LSleepyHelm$Plain;)V"⟩
abbrev cX4_begin : ByteArray := prog_6_method_2_code
def yX4_begin : MethodName := ⟨RX4, "begin", "()V"⟩
abbrev cX4_take : ByteArray := prog_6_method_3_code
def yX4_take : MethodName := ⟨RX4, "take", "(LSleepyHelm$Helm;)V"⟩
abbrev cX4_sleepiness : ByteArray := prog_6_method_4_code
def yX4_sleepiness : MethodName := ⟨RX4, "sleepiness", "(IZ)I"⟩
abbrev cX4_steerer : ByteArray := prog_6_method_5_code
def yX4_steerer : MethodName := ⟨RX4, "steerer", "(I)I"⟩
abbrev cX4_go : ByteArray := prog_6_method_6_code
def yX4_go : MethodName := ⟨RX4, "go", "(I)V"⟩
abbrev cX4_canSteer : ByteArray := prog_6_method_7_code
def yX4_canSteer : MethodName := ⟨RX4, "canSteer", "(I)Z"⟩
abbrev cX4_chances : ByteArray := prog_6_method_8_code
def yX4_chances : MethodName := ⟨RX4, "chances", "(II)I"⟩
abbrev cX4_chancesOfOthers : ByteArray := prog_6_method_9_code
def yX4_chancesOfOthers : MethodName := ⟨RX4, "chancesOfOthers", "(III)I"⟩
abbrev cX4_staysBehind : ByteArray := prog_6_method_10_code
def yX4_staysBehind : MethodName := ⟨RX4, "staysBehind", "(IIII)Z"⟩
abbrev cX4_pairRests : ByteArray := prog_6_method_11_code
def yX4_pairRests : MethodName := ⟨RX4, "pairRests", "(III)Z"⟩
abbrev cX4_steererByPair : ByteArray := prog_6_method_12_code
def yX4_steererByPair : MethodName := ⟨RX4, "steererByPair", "(III)I"⟩
def RX5 : String := "SleepyHelm$Moonstruck"
def TX5 : u_T := fun k => match k with
  | _ => ("", "", "", false)
def tyX5 : Nat → FieldType := fun k => match k with
  | _ => .int
theorem nmX5 : ∀ a, a < 0 → ∀ b, b < 0 → a ≠ b → (TX5 a).2.1 ≠ (TX5 b).2.1 := by decide +kernel
theorem tyX5_ok : ∀ k, k < 0 → parseFieldDescriptor (TX5 k).2.2.1 = some (tyX5 k) := by decide +kernel
abbrev cX5_init : ByteArray := prog_7_method_1_code
def yX5_init : MethodName := ⟨RX5, "<init>", "()V"⟩
abbrev cX5_sleepy : ByteArray := prog_7_method_2_code
def yX5_sleepy : MethodName := ⟨RX5, "sleepy", "(IZI)I"⟩
def RX6 : String := "SleepyHelm$PeaSearch"
def TX6 : u_T := fun k => match k with
  | 0 => ("SleepyHelm$PeaSearch", "behind", "[LSleepyHelm$Helm;", true)
  | 1 => ("SleepyHelm$PeaSearch", "tried", "[I", true)
  | 2 => ("SleepyHelm$PeaSearch", "found", "[I", true)
  | 3 => ("SleepyHelm$PeaSearch", "goal", "I", false)
  | 4 => ("SleepyHelm$PeaSearch", "watches", "I", false)
  | _ => ("SleepyHelm$PeaSearch", "fewest", "I", false)
def tyX6 : Nat → FieldType := fun k => match k with
  | 0 => .array (.object "SleepyHelm$Helm")
  | 1 => .array .int
  | 2 => .array .int
  | 3 => .int
  | 4 => .int
  | _ => .int
theorem nmX6 : ∀ a, a < 6 → ∀ b, b < 6 → a ≠ b → (TX6 a).2.1 ≠ (TX6 b).2.1 := by decide +kernel
theorem tyX6_ok : ∀ k, k < 6 → parseFieldDescriptor (TX6 k).2.2.1 = some (tyX6 k) := by decide +kernel
abbrev cX6_init : ByteArray := prog_8_method_1_code
def yX6_init : MethodName := ⟨RX6, "<init>", "([LSleepyHelm$Plain;)V"⟩
abbrev cX6_seek : ByteArray := prog_8_method_2_code
def yX6_seek : MethodName := ⟨RX6, "seek", "(LSleepyHelm$Helm;II)Z"⟩
abbrev cX6_serve : ByteArray := prog_8_method_3_code
def yX6_serve : MethodName := ⟨RX6, "serve", "(II)V"⟩
abbrev cX6_goOn : ByteArray := prog_8_method_4_code
def yX6_goOn : MethodName := ⟨RX6, "goOn", "(III)V"⟩
def RX7 : String := "SleepyHelm$Plain"
def TX7 : u_T := fun k => match k with
  | _ => ("", "", "", false)
def tyX7 : Nat → FieldType := fun k => match k with
  | _ => .int
theorem nmX7 : ∀ a, a < 0 → ∀ b, b < 0 → a ≠ b → (TX7 a).2.1 ≠ (TX7 b).2.1 := by decide +kernel
theorem tyX7_ok : ∀ k, k < 0 → parseFieldDescriptor (TX7 k).2.2.1 = some (tyX7 k) := by decide +kernel
abbrev cX7_init : ByteArray := prog_9_method_1_code
def yX7_init : MethodName := ⟨RX7, "<init>", "()V"⟩
abbrev cX7_sleepy : ByteArray := prog_9_method_2_code
def yX7_sleepy : MethodName := ⟨RX7, "sleepy", "(IZI)I"⟩
abbrev cX7_tires : ByteArray := prog_9_method_3_code
def yX7_tires : MethodName := ⟨RX7, "tires", "()I"⟩
def RX8 : String := "SleepyHelm$Talker"
def TX8 : u_T := fun k => match k with
  | _ => ("", "", "", false)
def tyX8 : Nat → FieldType := fun k => match k with
  | _ => .int
theorem nmX8 : ∀ a, a < 0 → ∀ b, b < 0 → a ≠ b → (TX8 a).2.1 ≠ (TX8 b).2.1 := by decide +kernel
theorem tyX8_ok : ∀ k, k < 0 → parseFieldDescriptor (TX8 k).2.2.1 = some (tyX8 k) := by decide +kernel
abbrev cX8_init : ByteArray := prog_10_method_1_code
def yX8_init : MethodName := ⟨RX8, "<init>", "()V"⟩
abbrev cX8_sleepy : ByteArray := prog_10_method_2_code
def yX8_sleepy : MethodName := ⟨RX8, "sleepy", "(IZI)I"⟩
abbrev cX8_tires : ByteArray := prog_10_method_3_code
def yX8_tires : MethodName := ⟨RX8, "tires", "()I"⟩
def RX9 : String := "SleepyHelm$Text"
def TX9 : u_T := fun k => match k with
  | 0 => ("SleepyHelm$Text", "bytes", "[I", true)
  | 1 => ("SleepyHelm$Text", "length", "I", false)
  | 2 => ("SleepyHelm$Text", "fault", "I", false)
  | 3 => ("SleepyHelm$Text", "token", "I", false)
  | 4 => ("SleepyHelm$Text", "tokenStart", "I", false)
  | 5 => ("SleepyHelm$Text", "tokenEnd", "I", false)
  | _ => ("SleepyHelm$Text", "number", "I", false)
def tyX9 : Nat → FieldType := fun k => match k with
  | 0 => .array .int
  | 1 => .int
  | 2 => .int
  | 3 => .int
  | 4 => .int
  | 5 => .int
  | _ => .int
theorem nmX9 : ∀ a, a < 7 → ∀ b, b < 7 → a ≠ b → (TX9 a).2.1 ≠ (TX9 b).2.1 := by decide +kernel
theorem tyX9_ok : ∀ k, k < 7 → parseFieldDescriptor (TX9 k).2.2.1 = some (tyX9 k) := by decide +kernel
abbrev cX9_init : ByteArray := prog_11_method_1_code
def yX9_init : MethodName := ⟨RX9, "<init>", "()V"⟩
abbrev cX9_append : ByteArray := prog_11_method_2_code
def yX9_append : MethodName := ⟨RX9, "append", "(I)V"⟩
abbrev cX9_parse : ByteArray := prog_11_method_3_code
def yX9_parse : MethodName := ⟨RX9, "parse", "(LSleepyHelm$Voyage;)I"⟩
abbrev cX9_parseItem : ByteArray := prog_11_method_4_code
def yX9_parseItem : MethodName := ⟨RX9, "parseItem", "(LSleepyHelm$Voyage;)V"⟩
abbrev cX9_parseRock : ByteArray := prog_11_method_5_code
def yX9_parseRock : MethodName := ⟨RX9, "parseRock", "(LSleepyHelm$Voyage;I)V"⟩
abbrev cX9_parseHand : ByteArray := prog_11_method_6_code
def yX9_parseHand : MethodName := ⟨RX9, "parseHand", "(LSleepyHelm$Voyage;I)V"⟩
abbrev cX9_takeNumberUpTo : ByteArray := prog_11_method_7_code
def yX9_takeNumberUpTo : MethodName := ⟨RX9, "takeNumberUpTo", "(I)I"⟩
abbrev cX9_expectStop : ByteArray := prog_11_method_8_code
def yX9_expectStop : MethodName := ⟨RX9, "expectStop", "()V"⟩
abbrev cX9_fail : ByteArray := prog_11_method_9_code
def yX9_fail : MethodName := ⟨RX9, "fail", "()V"⟩
abbrev cX9_isNumberUpTo : ByteArray := prog_11_method_10_code
def yX9_isNumberUpTo : MethodName := ⟨RX9, "isNumberUpTo", "(I)Z"⟩
abbrev cX9_isWord : ByteArray := prog_11_method_11_code
def yX9_isWord : MethodName := ⟨RX9, "isWord", "(Ljava/lang/String;)Z"⟩
abbrev cX9_advance : ByteArray := prog_11_method_12_code
def yX9_advance : MethodName := ⟨RX9, "advance", "()V"⟩
abbrev cX9_advanceOverWord : ByteArray := prog_11_method_13_code
def yX9_advanceOverWord : MethodName := ⟨RX9, "advanceOverWord", "()V"⟩
abbrev cX9_advanceOverNumber : ByteArray := prog_11_method_14_code
def yX9_advanceOverNumber : MethodName := ⟨RX9, "advanceOverNumber", "()V"⟩
abbrev cX9_isLetter : ByteArray := prog_11_method_15_code
def yX9_isLetter : MethodName := ⟨RX9, "isLetter", "(I)Z"⟩
abbrev cX9_isFigure : ByteArray := prog_11_method_16_code
def yX9_isFigure : MethodName := ⟨RX9, "isFigure", "(I)Z"⟩
def RX10 : String := "SleepyHelm$Voyage"
def TX10 : u_T := fun k => match k with
  | 0 => ("SleepyHelm$Voyage", "helm", "LSleepyHelm$Helm;", true)
  | 1 => ("SleepyHelm$Voyage", "rock", "[I", true)
  | 2 => ("SleepyHelm$Voyage", "sightWatch", "[I", true)
  | 3 => ("SleepyHelm$Voyage", "sightPlace", "[I", true)
  | 4 => ("SleepyHelm$Voyage", "past", "[LSleepyHelm$Helm;", true)
  | 5 => ("SleepyHelm$Voyage", "rocks", "I", false)
  | 6 => ("SleepyHelm$Voyage", "sights", "I", false)
  | _ => ("SleepyHelm$Voyage", "undoable", "I", false)
def tyX10 : Nat → FieldType := fun k => match k with
  | 0 => .object "SleepyHelm$Helm"
  | 1 => .array .int
  | 2 => .array .int
  | 3 => .array .int
  | 4 => .array (.object "SleepyHelm$Helm")
  | 5 => .int
  | 6 => .int
  | _ => .int
theorem nmX10 : ∀ a, a < 8 → ∀ b, b < 8 → a ≠ b → (TX10 a).2.1 ≠ (TX10 b).2.1 := by decide +kernel
theorem tyX10_ok : ∀ k, k < 8 → parseFieldDescriptor (TX10 k).2.2.1 = some (tyX10 k) := by decide +kernel
abbrev cX10_init : ByteArray := prog_12_method_1_code
def yX10_init : MethodName := ⟨RX10, "<init>", "([LSleepyHelm$Plain;)V"⟩
abbrev cX10_begin : ByteArray := prog_12_method_2_code
def yX10_begin : MethodName := ⟨RX10, "begin", "()V"⟩
abbrev cX10_take : ByteArray := prog_12_method_3_code
def yX10_take : MethodName := ⟨RX10, "take", "(LSleepyHelm$Voyage;)V"⟩
abbrev cX10_isRock : ByteArray := prog_12_method_4_code
def yX10_isRock : MethodName := ⟨RX10, "isRock", "(I)Z"⟩
abbrev cX10_addRock : ByteArray := prog_12_method_5_code
def yX10_addRock : MethodName := ⟨RX10, "addRock", "(I)V"⟩
abbrev cX10_addHand : ByteArray := prog_12_method_6_code
def yX10_addHand : MethodName := ⟨RX10, "addHand", "(III)V"⟩
abbrev cX10_addSight : ByteArray := prog_12_method_7_code
def yX10_addSight : MethodName := ⟨RX10, "addSight", "(II)V"⟩
abbrev cX10_remember : ByteArray := prog_12_method_8_code
def yX10_remember : MethodName := ⟨RX10, "remember", "()V"⟩
abbrev cX10_goBack : ByteArray := prog_12_method_9_code
def yX10_goBack : MethodName := ⟨RX10, "goBack", "()Z"⟩
abbrev cX10_digestOnto : ByteArray := prog_12_method_10_code
def yX10_digestOnto : MethodName := ⟨RX10, "digestOnto", "(J)J"⟩
def RX11 : String := "SleepyHelm"
def TX11 : u_T := fun k => match k with
  | 0 => ("SleepyHelm", "voyage", "LSleepyHelm$Voyage;", true)
  | 1 => ("SleepyHelm", "draft", "LSleepyHelm$Voyage;", true)
  | 2 => ("SleepyHelm", "images", "[LSleepyHelm$Voyage;", true)
  | 3 => ("SleepyHelm", "imageKept", "[Z", true)
  | 4 => ("SleepyHelm", "trial", "LSleepyHelm$Helm;", true)
  | 5 => ("SleepyHelm", "course", "LSleepyHelm$Course;", true)
  | 6 => ("SleepyHelm", "peaSearch", "LSleepyHelm$PeaSearch;", true)
  | 7 => ("SleepyHelm", "text", "LSleepyHelm$Text;", true)
  | 8 => ("SleepyHelm", "above", "I", false)
  | 9 => ("SleepyHelm", "below", "I", false)
  | 10 => ("SleepyHelm", "badCalls", "I", false)
  | 11 => ("SleepyHelm", "noCalls", "I", false)
  | _ => ("SleepyHelm", "fullCalls", "I", false)
def tyX11 : Nat → FieldType := fun k => match k with
  | 0 => .object "SleepyHelm$Voyage"
  | 1 => .object "SleepyHelm$Voyage"
  | 2 => .array (.object "SleepyHelm$Voyage")
  | 3 => .array .boolean
  | 4 => .object "SleepyHelm$Helm"
  | 5 => .object "SleepyHelm$Course"
  | 6 => .object "SleepyHelm$PeaSearch"
  | 7 => .object "SleepyHelm$Text"
  | 8 => .int
  | 9 => .int
  | 10 => .int
  | 11 => .int
  | _ => .int
theorem nmX11 : ∀ a, a < 13 → ∀ b, b < 13 → a ≠ b → (TX11 a).2.1 ≠ (TX11 b).2.1 := by decide +kernel
theorem tyX11_ok : ∀ k, k < 13 → parseFieldDescriptor (TX11 k).2.2.1 = some (tyX11 k) := by decide +kernel
abbrev cX11_init : ByteArray := prog_1_method_1_code
def yX11_init : MethodName := ⟨RX11, "<init>", "()V"⟩
abbrev cX11_ship : ByteArray := prog_1_method_2_code
def yX11_ship : MethodName := ⟨RX11, "ship", "()I"⟩
abbrev cX11_rock : ByteArray := prog_1_method_3_code
def yX11_rock : MethodName := ⟨RX11, "rock", "(I)I"⟩
abbrev cX11_hand : ByteArray := prog_1_method_4_code
def yX11_hand : MethodName := ⟨RX11, "hand", "(III)I"⟩
abbrev cX11_type : ByteArray := prog_1_method_5_code
def yX11_type : MethodName := ⟨RX11, "type", "(I)I"⟩
abbrev cX11_clear : ByteArray := prog_1_method_6_code
def yX11_clear : MethodName := ⟨RX11, "clear", "()I"⟩
abbrev cX11_read : ByteArray := prog_1_method_7_code
def yX11_read : MethodName := ⟨RX11, "read", "()I"⟩
abbrev cX11_feed : ByteArray := prog_1_method_8_code
def yX11_feed : MethodName := ⟨RX11, "feed", "(I)I"⟩
abbrev cX11_watch : ByteArray := prog_1_method_9_code
def yX11_watch : MethodName := ⟨RX11, "watch", "()I"⟩
abbrev cX11_undo : ByteArray := prog_1_method_10_code
def yX11_undo : MethodName := ⟨RX11, "undo", "()I"⟩
abbrev cX11_of : ByteArray := prog_1_method_11_code
def yX11_of : MethodName := ⟨RX11, "of", "(II)I"⟩
abbrev cX11_now : ByteArray := prog_1_method_12_code
def yX11_now : MethodName := ⟨RX11, "now", "(I)I"⟩
abbrev cX11_then : ByteArray := prog_1_method_13_code
def yX11_then : MethodName := ⟨RX11, "then", "(II)I"⟩
abbrev cX11_strikes : ByteArray := prog_1_method_14_code
def yX11_strikes : MethodName := ⟨RX11, "strikes", "()I"⟩
abbrev cX11_peas : ByteArray := prog_1_method_15_code
def yX11_peas : MethodName := ⟨RX11, "peas", "(III)I"⟩
abbrev cX11_canNot : ByteArray := prog_1_method_16_code
def yX11_canNot : MethodName := ⟨RX11, "canNot", "(I)I"⟩
abbrev cX11_eat : ByteArray := prog_1_method_17_code
def yX11_eat : MethodName := ⟨RX11, "eat", "(II)I"⟩
abbrev cX11_seen : ByteArray := prog_1_method_18_code
def yX11_seen : MethodName := ⟨RX11, "seen", "(II)I"⟩
abbrev cX11_forget : ByteArray := prog_1_method_19_code
def yX11_forget : MethodName := ⟨RX11, "forget", "()I"⟩
abbrev cX11_nod : ByteArray := prog_1_method_20_code
def yX11_nod : MethodName := ⟨RX11, "nod", "(I)I"⟩
abbrev cX11_is : ByteArray := prog_1_method_21_code
def yX11_is : MethodName := ⟨RX11, "is", "(I)I"⟩
abbrev cX11_look : ByteArray := prog_1_method_22_code
def yX11_look : MethodName := ⟨RX11, "look", "(I)I"⟩
abbrev cX11_pulled : ByteArray := prog_1_method_23_code
def yX11_pulled : MethodName := ⟨RX11, "pulled", "(I)I"⟩
abbrev cX11_meet : ByteArray := prog_1_method_24_code
def yX11_meet : MethodName := ⟨RX11, "meet", "(III)I"⟩
abbrev cX11_odds : ByteArray := prog_1_method_25_code
def yX11_odds : MethodName := ⟨RX11, "odds", "(II)I"⟩
abbrev cX11_voyages : ByteArray := prog_1_method_26_code
def yX11_voyages : MethodName := ⟨RX11, "voyages", "(II)I"⟩
abbrev cX11_part : ByteArray := prog_1_method_27_code
def yX11_part : MethodName := ⟨RX11, "part", "(I)J"⟩
abbrev cX11_image : ByteArray := prog_1_method_28_code
def yX11_image : MethodName := ⟨RX11, "image", "(I)I"⟩
abbrev cX11_from : ByteArray := prog_1_method_29_code
def yX11_from : MethodName := ⟨RX11, "from", "(I)I"⟩
abbrev cX11_status : ByteArray := prog_1_method_30_code
def yX11_status : MethodName := ⟨RX11, "status", "(I)I"⟩
abbrev cX11_count : ByteArray := prog_1_method_31_code
def yX11_count : MethodName := ⟨RX11, "count", "(I)I"⟩
abbrev cX11_digest : ByteArray := prog_1_method_32_code
def yX11_digest : MethodName := ⟨RX11, "digest", "()J"⟩
abbrev cX11_amount : ByteArray := prog_1_method_33_code
def yX11_amount : MethodName := ⟨RX11, "amount", "(I)I"⟩
abbrev cX11_refuseBad : ByteArray := prog_1_method_34_code
def yX11_refuseBad : MethodName := ⟨RX11, "refuseBad", "(I)I"⟩
abbrev cX11_refuseNo : ByteArray := prog_1_method_35_code
def yX11_refuseNo : MethodName := ⟨RX11, "refuseNo", "()I"⟩
abbrev cX11_refuseFull : ByteArray := prog_1_method_36_code
def yX11_refuseFull : MethodName := ⟨RX11, "refuseFull", "()I"⟩
abbrev cX11_isHand : ByteArray := prog_1_method_37_code
def yX11_isHand : MethodName := ⟨RX11, "isHand", "(I)Z"⟩
abbrev cX11_fittingNods : ByteArray := prog_1_method_38_code
def yX11_fittingNods : MethodName := ⟨RX11, "fittingNods", "(I)I"⟩
abbrev cX11_fitsNods : ByteArray := prog_1_method_39_code
def yX11_fitsNods : MethodName := ⟨RX11, "fitsNods", "(II)Z"⟩
abbrev cX11_fitsPulled : ByteArray := prog_1_method_40_code
def yX11_fitsPulled : MethodName := ⟨RX11, "fitsPulled", "(II)Z"⟩
abbrev cX11_setFraction : ByteArray := prog_1_method_41_code
def yX11_setFraction : MethodName := ⟨RX11, "setFraction", "(II)V"⟩
abbrev cX11_greatestDivisor : ByteArray := prog_1_method_42_code
def yX11_greatestDivisor : MethodName := ⟨RX11, "greatestDivisor", "(II)I"⟩
abbrev cX11_isWithin : ByteArray := prog_1_method_43_code
def yX11_isWithin : MethodName := ⟨RX11, "isWithin", "(III)Z"⟩
abbrev cX11_isPlace : ByteArray := prog_1_method_44_code
def yX11_isPlace : MethodName := ⟨RX11, "isPlace", "(I)Z"⟩
abbrev cX11_isNods : ByteArray := prog_1_method_45_code
def yX11_isNods : MethodName := ⟨RX11, "isNods", "(I)Z"⟩
abbrev cX11_holds : ByteArray := prog_1_method_46_code
def yX11_holds : MethodName := ⟨RX11, "holds", "(II)Z"⟩
def RX12 : String := "SleepyHelmModel"
def TX12 : u_T := fun k => match k with
  | 0 => ("SleepyHelmModel", "refused", "[I", true)
  | 1 => ("SleepyHelmModel", "many", "I", false)
  | 2 => ("SleepyHelmModel", "place", "I", false)
  | 3 => ("SleepyHelmModel", "watches", "I", false)
  | 4 => ("SleepyHelmModel", "rockMany", "I", false)
  | 5 => ("SleepyHelmModel", "seenMany", "I", false)
  | 6 => ("SleepyHelmModel", "kinds", "[I", true)
  | 7 => ("SleepyHelmModel", "tired", "[I", true)
  | 8 => ("SleepyHelmModel", "nods", "[I", true)
  | 9 => ("SleepyHelmModel", "fed", "[I", true)
  | 10 => ("SleepyHelmModel", "rocks", "[I", true)
  | 11 => ("SleepyHelmModel", "seenAt", "[I", true)
  | 12 => ("SleepyHelmModel", "seenPlace", "[I", true)
  | 13 => ("SleepyHelmModel", "text", "[I", true)
  | 14 => ("SleepyHelmModel", "typed", "I", false)
  | 15 => ("SleepyHelmModel", "readAt", "I", false)
  | 16 => ("SleepyHelmModel", "readRocks", "I", false)
  | 17 => ("SleepyHelmModel", "readMany", "I", false)
  | 18 => ("SleepyHelmModel", "readRock", "[I", true)
  | 19 => ("SleepyHelmModel", "readHands", "[I", true)
  | 20 => ("SleepyHelmModel", "readNumber", "I", false)
  | 21 => ("SleepyHelmModel", "ahead", "[I", true)
  | 22 => ("SleepyHelmModel", "undoMany", "I", false)
  | 23 => ("SleepyHelmModel", "aside", "[I", true)
  | 24 => ("SleepyHelmModel", "line", "[I", true)
  | 25 => ("SleepyHelmModel", "bestLine", "[I", true)
  | 26 => ("SleepyHelmModel", "way", "[I", true)
  | 27 => ("SleepyHelmModel", "ways", "[I", true)
  | 28 => ("SleepyHelmModel", "above", "J", false)
  | 29 => ("SleepyHelmModel", "below", "J", false)
  | 30 => ("SleepyHelmModel", "images", "[I", true)
  | 31 => ("SleepyHelmModel", "isKept", "[I", true)
  | _ => ("SleepyHelmModel", "h0", "J", false)
def tyX12 : Nat → FieldType := fun k => match k with
  | 0 => .array .int
  | 1 => .int
  | 2 => .int
  | 3 => .int
  | 4 => .int
  | 5 => .int
  | 6 => .array .int
  | 7 => .array .int
  | 8 => .array .int
  | 9 => .array .int
  | 10 => .array .int
  | 11 => .array .int
  | 12 => .array .int
  | 13 => .array .int
  | 14 => .int
  | 15 => .int
  | 16 => .int
  | 17 => .int
  | 18 => .array .int
  | 19 => .array .int
  | 20 => .int
  | 21 => .array .int
  | 22 => .int
  | 23 => .array .int
  | 24 => .array .int
  | 25 => .array .int
  | 26 => .array .int
  | 27 => .array .int
  | 28 => .long
  | 29 => .long
  | 30 => .array .int
  | 31 => .array .int
  | _ => .long
theorem nmX12 : ∀ a, a < 33 → ∀ b, b < 33 → a ≠ b → (TX12 a).2.1 ≠ (TX12 b).2.1 := by decide +kernel
theorem tyX12_ok : ∀ k, k < 33 → parseFieldDescriptor (TX12 k).2.2.1 = some (tyX12 k) := by decide +kernel
abbrev cX12_bad : ByteArray := prog_14_method_1_code
def yX12_bad : MethodName := ⟨RX12, "bad", "()I"⟩
abbrev cX12_ten : ByteArray := prog_14_method_2_code
def yX12_ten : MethodName := ⟨RX12, "ten", "()I"⟩
abbrev cX12_no : ByteArray := prog_14_method_3_code
def yX12_no : MethodName := ⟨RX12, "no", "()I"⟩
abbrev cX12_full : ByteArray := prog_14_method_4_code
def yX12_full : MethodName := ⟨RX12, "full", "()I"⟩
abbrev cX12_in : ByteArray := prog_14_method_5_code
def yX12_in : MethodName := ⟨RX12, "in", "(III)Z"⟩
abbrev cX12_manyBad : ByteArray := prog_14_method_6_code
def yX12_manyBad : MethodName := ⟨RX12, "manyBad", "()I"⟩
abbrev cX12_has : ByteArray := prog_14_method_7_code
def yX12_has : MethodName := ⟨RX12, "has", "(II)Z"⟩
abbrev cX12_init : ByteArray := prog_14_method_8_code
def yX12_init : MethodName := ⟨RX12, "<init>", "()V"⟩
abbrev cX12_begin : ByteArray := prog_14_method_9_code
def yX12_begin : MethodName := ⟨RX12, "begin", "()V"⟩
abbrev cX12_isHand : ByteArray := prog_14_method_10_code
def yX12_isHand : MethodName := ⟨RX12, "isHand", "(I)Z"⟩
abbrev cX12_isRock : ByteArray := prog_14_method_11_code
def yX12_isRock : MethodName := ⟨RX12, "isRock", "(I)Z"⟩
abbrev cX12_ship : ByteArray := prog_14_method_12_code
def yX12_ship : MethodName := ⟨RX12, "ship", "()I"⟩
abbrev cX12_addRock : ByteArray := prog_14_method_13_code
def yX12_addRock : MethodName := ⟨RX12, "addRock", "(I)I"⟩
abbrev cX12_rock : ByteArray := prog_14_method_14_code
def yX12_rock : MethodName := ⟨RX12, "rock", "(I)I"⟩
abbrev cX12_addHand : ByteArray := prog_14_method_15_code
def yX12_addHand : MethodName := ⟨RX12, "addHand", "(III)I"⟩
abbrev cX12_hand : ByteArray := prog_14_method_16_code
def yX12_hand : MethodName := ⟨RX12, "hand", "(III)I"⟩
abbrev cX12_type : ByteArray := prog_14_method_17_code
def yX12_type : MethodName := ⟨RX12, "type", "(I)I"⟩
abbrev cX12_clear : ByteArray := prog_14_method_18_code
def yX12_clear : MethodName := ⟨RX12, "clear", "()I"⟩
abbrev cX12_here : ByteArray := prog_14_method_19_code
def yX12_here : MethodName := ⟨RX12, "here", "()I"⟩
abbrev cX12_skip : ByteArray := prog_14_method_20_code
def yX12_skip : MethodName := ⟨RX12, "skip", "()V"⟩
abbrev cX12_isLetter : ByteArray := prog_14_method_21_code
def yX12_isLetter : MethodName := ⟨RX12, "isLetter", "(I)Z"⟩
abbrev cX12_isFigure : ByteArray := prog_14_method_22_code
def yX12_isFigure : MethodName := ⟨RX12, "isFigure", "(I)Z"⟩
abbrev cX12_wordSize : ByteArray := prog_14_method_23_code
def yX12_wordSize : MethodName := ⟨RX12, "wordSize", "()I"⟩
abbrev cX12_letter : ByteArray := prog_14_method_24_code
def yX12_letter : MethodName := ⟨RX12, "letter", "(I)I"⟩
abbrev cX12_spells : ByteArray := prog_14_method_25_code
def yX12_spells : MethodName := ⟨RX12, "spells", "(IIII)Z"⟩
abbrev cX12_wordHere : ByteArray := prog_14_method_26_code
def yX12_wordHere : MethodName := ⟨RX12, "wordHere", "()I"⟩
abbrev cX12_number : ByteArray := prog_14_method_27_code
def yX12_number : MethodName := ⟨RX12, "number", "(II)Z"⟩
abbrev cX12_ends : ByteArray := prog_14_method_28_code
def yX12_ends : MethodName := ⟨RX12, "ends", "()Z"⟩
abbrev cX12_readsRock : ByteArray := prog_14_method_29_code
def yX12_readsRock : MethodName := ⟨RX12, "readsRock", "(I)Z"⟩
abbrev cX12_readsHand : ByteArray := prog_14_method_30_code
def yX12_readsHand : MethodName := ⟨RX12, "readsHand", "(I)Z"⟩
abbrev cX12_readsItem : ByteArray := prog_14_method_31_code
def yX12_readsItem : MethodName := ⟨RX12, "readsItem", "()Z"⟩
abbrev cX12_readsShip : ByteArray := prog_14_method_32_code
def yX12_readsShip : MethodName := ⟨RX12, "readsShip", "()I"⟩
abbrev cX12_read : ByteArray := prog_14_method_33_code
def yX12_read : MethodName := ⟨RX12, "read", "()I"⟩
abbrev cX12_sleepyBy : ByteArray := prog_14_method_34_code
def yX12_sleepyBy : MethodName := ⟨RX12, "sleepyBy", "(IIZI)I"⟩
abbrev cX12_sleepy : ByteArray := prog_14_method_35_code
def yX12_sleepy : MethodName := ⟨RX12, "sleepy", "(I)I"⟩
abbrev cX12_moreBy : ByteArray := prog_14_method_36_code
def yX12_moreBy : MethodName := ⟨RX12, "moreBy", "(I)I"⟩
abbrev cX12_steers : ByteArray := prog_14_method_37_code
def yX12_steers : MethodName := ⟨RX12, "steers", "()I"⟩
abbrev cX12_pass : ByteArray := prog_14_method_38_code
def yX12_pass : MethodName := ⟨RX12, "pass", "()I"⟩
abbrev cX12_lays : ByteArray := prog_14_method_39_code
def yX12_lays : MethodName := ⟨RX12, "lays", "([II)V"⟩
abbrev cX12_takes : ByteArray := prog_14_method_40_code
def yX12_takes : MethodName := ⟨RX12, "takes", "([II)V"⟩
abbrev cX12_notes : ByteArray := prog_14_method_41_code
def yX12_notes : MethodName := ⟨RX12, "notes", "()V"⟩
abbrev cX12_puts : ByteArray := prog_14_method_42_code
def yX12_puts : MethodName := ⟨RX12, "puts", "()V"⟩
abbrev cX12_back : ByteArray := prog_14_method_43_code
def yX12_back : MethodName := ⟨RX12, "back", "()V"⟩
abbrev cX12_feed : ByteArray := prog_14_method_44_code
def yX12_feed : MethodName := ⟨RX12, "feed", "(I)I"⟩
abbrev cX12_watch : ByteArray := prog_14_method_45_code
def yX12_watch : MethodName := ⟨RX12, "watch", "()I"⟩
abbrev cX12_undo : ByteArray := prog_14_method_46_code
def yX12_undo : MethodName := ⟨RX12, "undo", "()I"⟩
abbrev cX12_of : ByteArray := prog_14_method_47_code
def yX12_of : MethodName := ⟨RX12, "of", "(II)I"⟩
abbrev cX12_now : ByteArray := prog_14_method_48_code
def yX12_now : MethodName := ⟨RX12, "now", "(I)I"⟩
abbrev cX12_passes : ByteArray := prog_14_method_49_code
def yX12_passes : MethodName := ⟨RX12, "passes", "(I)V"⟩
abbrev cX12_then : ByteArray := prog_14_method_50_code
def yX12_then : MethodName := ⟨RX12, "then", "(II)I"⟩
abbrev cX12_strikes : ByteArray := prog_14_method_51_code
def yX12_strikes : MethodName := ⟨RX12, "strikes", "()I"⟩
abbrev cX12_fedBy : ByteArray := prog_14_method_52_code
def yX12_fedBy : MethodName := ⟨RX12, "fedBy", "(II)I"⟩
abbrev cX12_placeBy : ByteArray := prog_14_method_53_code
def yX12_placeBy : MethodName := ⟨RX12, "placeBy", "(I)I"⟩
abbrev cX12_peas : ByteArray := prog_14_method_54_code
def yX12_peas : MethodName := ⟨RX12, "peas", "(III)I"⟩
abbrev cX12_steersBy : ByteArray := prog_14_method_55_code
def yX12_steersBy : MethodName := ⟨RX12, "steersBy", "(I)I"⟩
abbrev cX12_canNot : ByteArray := prog_14_method_56_code
def yX12_canNot : MethodName := ⟨RX12, "canNot", "(I)I"⟩
abbrev cX12_eat : ByteArray := prog_14_method_57_code
def yX12_eat : MethodName := ⟨RX12, "eat", "(II)I"⟩
abbrev cX12_seen : ByteArray := prog_14_method_58_code
def yX12_seen : MethodName := ⟨RX12, "seen", "(II)I"⟩
abbrev cX12_forget : ByteArray := prog_14_method_59_code
def yX12_forget : MethodName := ⟨RX12, "forget", "()I"⟩
abbrev cX12_setWay : ByteArray := prog_14_method_60_code
def yX12_setWay : MethodName := ⟨RX12, "setWay", "()V"⟩
abbrev cX12_isSeen : ByteArray := prog_14_method_61_code
def yX12_isSeen : MethodName := ⟨RX12, "isSeen", "(II)Z"⟩
abbrev cX12_nodSet : ByteArray := prog_14_method_62_code
def yX12_nodSet : MethodName := ⟨RX12, "nodSet", "(I)I"⟩
abbrev cX12_nod : ByteArray := prog_14_method_63_code
def yX12_nod : MethodName := ⟨RX12, "nod", "(I)I"⟩
abbrev cX12_is : ByteArray := prog_14_method_64_code
def yX12_is : MethodName := ⟨RX12, "is", "(I)I"⟩
abbrev cX12_alike : ByteArray := prog_14_method_65_code
def yX12_alike : MethodName := ⟨RX12, "alike", "(II)I"⟩
abbrev cX12_look : ByteArray := prog_14_method_66_code
def yX12_look : MethodName := ⟨RX12, "look", "(I)I"⟩
abbrev cX12_pulled : ByteArray := prog_14_method_67_code
def yX12_pulled : MethodName := ⟨RX12, "pulled", "(I)I"⟩
abbrev cX12_meet : ByteArray := prog_14_method_68_code
def yX12_meet : MethodName := ⟨RX12, "meet", "(III)I"⟩
abbrev cX12_lay : ByteArray := prog_14_method_69_code
def yX12_lay : MethodName := ⟨RX12, "lay", "(JJ)V"⟩
abbrev cX12_odds : ByteArray := prog_14_method_70_code
def yX12_odds : MethodName := ⟨RX12, "odds", "(II)I"⟩
abbrev cX12_voyages : ByteArray := prog_14_method_71_code
def yX12_voyages : MethodName := ⟨RX12, "voyages", "(II)I"⟩
abbrev cX12_part : ByteArray := prog_14_method_72_code
def yX12_part : MethodName := ⟨RX12, "part", "(I)J"⟩
abbrev cX12_image : ByteArray := prog_14_method_73_code
def yX12_image : MethodName := ⟨RX12, "image", "(I)I"⟩
abbrev cX12_from : ByteArray := prog_14_method_74_code
def yX12_from : MethodName := ⟨RX12, "from", "(I)I"⟩
abbrev cX12_status : ByteArray := prog_14_method_75_code
def yX12_status : MethodName := ⟨RX12, "status", "(I)I"⟩
abbrev cX12_countOf : ByteArray := prog_14_method_76_code
def yX12_countOf : MethodName := ⟨RX12, "countOf", "(I)I"⟩
abbrev cX12_count : ByteArray := prog_14_method_77_code
def yX12_count : MethodName := ⟨RX12, "count", "(I)I"⟩
abbrev cX12_mix : ByteArray := prog_14_method_78_code
def yX12_mix : MethodName := ⟨RX12, "mix", "(J)V"⟩
abbrev cX12_digest : ByteArray := prog_14_method_79_code
def yX12_digest : MethodName := ⟨RX12, "digest", "()J"⟩
def RJ6 : String := "java/lang/Integer"
def TJ6 : u_T := fun k => match k with
  | _ => ("", "", "", false)
def tyJ6 : Nat → FieldType := fun k => match k with
  | _ => .int
theorem nmJ6 : ∀ a, a < 0 → ∀ b, b < 0 → a ≠ b → (TJ6 a).2.1 ≠ (TJ6 b).2.1 := by decide +kernel
theorem tyJ6_ok : ∀ k, k < 0 → parseFieldDescriptor (TJ6 k).2.2.1 = some (tyJ6 k) := by decide +kernel
abbrev cJ6_compare_7cf53 : ByteArray := prog_15_method_40_code
def yJ6_compare_7cf53 : MethodName := ⟨RJ6, "compare", "(II)I"⟩
abbrev cJ6_bitCount_0f7a4 : ByteArray := prog_15_method_49_code
def yJ6_bitCount_0f7a4 : MethodName := ⟨RJ6, "bitCount", "(I)I"⟩
def RJ9 : String := "java/lang/Math"
def TJ9 : u_T := fun k => match k with
  | _ => ("", "", "", false)
def tyJ9 : Nat → FieldType := fun k => match k with
  | _ => .int
theorem nmJ9 : ∀ a, a < 0 → ∀ b, b < 0 → a ≠ b → (TJ9 a).2.1 ≠ (TJ9 b).2.1 := by decide +kernel
theorem tyJ9_ok : ∀ k, k < 0 → parseFieldDescriptor (TJ9 k).2.2.1 = some (tyJ9 k) := by decide +kernel
abbrev cJ9_abs_0f7a4 : ByteArray := prog_16_method_59_code
def yJ9_abs_0f7a4 : MethodName := ⟨RJ9, "abs", "(I)I"⟩
abbrev cJ9_max_7cf53 : ByteArray := prog_16_method_65_code
def yJ9_max_7cf53 : MethodName := ⟨RJ9, "max", "(II)I"⟩
abbrev cJ9_min_7cf53 : ByteArray := prog_16_method_69_code
def yJ9_min_7cf53 : MethodName := ⟨RJ9, "min", "(II)I"⟩
def RJ0 : String := "java/lang/String"
def TJ0 : u_T := fun k => match k with
  | _ => ("", "", "", false)
def tyJ0 : Nat → FieldType := fun k => match k with
  | _ => .int
theorem nmJ0 : ∀ a, a < 0 → ∀ b, b < 0 → a ≠ b → (TJ0 a).2.1 ≠ (TJ0 b).2.1 := by decide +kernel
theorem tyJ0_ok : ∀ k, k < 0 → parseFieldDescriptor (TJ0 k).2.2.1 = some (tyJ0 k) := by decide +kernel
abbrev cJ0_length_8abf5 : ByteArray := prog_17_method_54_code
def yJ0_length_8abf5 : MethodName := ⟨RJ0, "length", "()I"⟩
abbrev cJ0_charAt_5068e : ByteArray := prog_17_method_56_code
def yJ0_charAt_5068e : MethodName := ⟨RJ0, "charAt", "(I)C"⟩
abbrev cJ0_coder_7d493 : ByteArray := prog_17_method_152_code
def yJ0_coder_7d493 : MethodName := ⟨RJ0, "coder", "()B"⟩
abbrev cJ0_isLatin1_aae02 : ByteArray := prog_17_method_154_code
def yJ0_isLatin1_aae02 : MethodName := ⟨RJ0, "isLatin1", "()Z"⟩
abbrev cJ0_checkIndex_df160 : ByteArray := prog_17_method_155_code
def yJ0_checkIndex_df160 : MethodName := ⟨RJ0, "checkIndex", "(II)V"⟩
def RJ1 : String := "java/lang/StringLatin1"
def TJ1 : u_T := fun k => match k with
  | _ => ("", "", "", false)
def tyJ1 : Nat → FieldType := fun k => match k with
  | _ => .int
theorem nmJ1 : ∀ a, a < 0 → ∀ b, b < 0 → a ≠ b → (TJ1 a).2.1 ≠ (TJ1 b).2.1 := by decide +kernel
theorem tyJ1_ok : ∀ k, k < 0 → parseFieldDescriptor (TJ1 k).2.2.1 = some (tyJ1 k) := by decide +kernel
abbrev cJ1_charAt_3b067 : ByteArray := prog_18_method_2_code
def yJ1_charAt_3b067 : MethodName := ⟨RJ1, "charAt", "([BI)C"⟩
def RJ2 : String := "java/lang/StringUTF16"
def TJ2 : u_T := fun k => match k with
  | _ => ("", "", "", false)
def tyJ2 : Nat → FieldType := fun k => match k with
  | _ => .int
theorem nmJ2 : ∀ a, a < 0 → ∀ b, b < 0 → a ≠ b → (TJ2 a).2.1 ≠ (TJ2 b).2.1 := by decide +kernel
theorem tyJ2_ok : ∀ k, k < 0 → parseFieldDescriptor (TJ2 k).2.2.1 = some (tyJ2 k) := by decide +kernel
abbrev cJ2_getChar_3b067 : ByteArray := prog_19_method_5_code
def yJ2_getChar_3b067 : MethodName := ⟨RJ2, "getChar", "([BI)C"⟩
abbrev cJ2_length_9d52b : ByteArray := prog_19_method_6_code
def yJ2_length_9d52b : MethodName := ⟨RJ2, "length", "([B)I"⟩
abbrev cJ2_charAt_3b067 : ByteArray := prog_19_method_83_code
def yJ2_charAt_3b067 : MethodName := ⟨RJ2, "charAt", "([BI)C"⟩
abbrev cJ2_checkIndex_2214a : ByteArray := prog_19_method_91_code
def yJ2_checkIndex_2214a : MethodName := ⟨RJ2, "checkIndex", "(I[B)V"⟩
def RJ10 : String := "java/lang/System"
def TJ10 : u_T := fun k => match k with
  | _ => ("", "", "", false)
def tyJ10 : Nat → FieldType := fun k => match k with
  | _ => .int
theorem nmJ10 : ∀ a, a < 0 → ∀ b, b < 0 → a ≠ b → (TJ10 a).2.1 ≠ (TJ10 b).2.1 := by decide +kernel
theorem tyJ10_ok : ∀ k, k < 0 → parseFieldDescriptor (TJ10 k).2.2.1 = some (tyJ10 k) := by decide +kernel
def RJ3 : String := "jdk/internal/util/Preconditions"
def TJ3 : u_T := fun k => match k with
  | _ => ("", "", "", false)
def tyJ3 : Nat → FieldType := fun k => match k with
  | _ => .int
theorem nmJ3 : ∀ a, a < 0 → ∀ b, b < 0 → a ≠ b → (TJ3 a).2.1 ≠ (TJ3 b).2.1 := by decide +kernel
theorem tyJ3_ok : ∀ k, k < 0 → parseFieldDescriptor (TJ3 k).2.2.1 = some (tyJ3 k) := by decide +kernel
abbrev cJ3_checkIndex_8e157 : ByteArray := prog_21_method_11_code
def yJ3_checkIndex_8e157 : MethodName := ⟨RJ3, "checkIndex", "(IILjava/util/function/BiFunction;)I"⟩
def RL : String := "SleepyHelmLaw"
abbrev cL_law : ByteArray := code
def yL_law : MethodName := ⟨RL, "law", "([I)Z"⟩
abbrev vwCl : List vw_C := [(RX0, TX0, 0), (RX1, TX1, 0), (RX2, TX2, 0), (RX3, TX3, 3), (RX4, TX4, 8), (RX5, TX5, 0), (RX6, TX6, 6), (RX7, TX7, 0), (RX8, TX8, 0), (RX9, TX9, 7), (RX10, TX10, 8), (RX11, TX11, 13), (RX12, TX12, 33)]
end
section
theorem dX0_init_0 : decode cX0_init 0 = .ok (.aload_n 0, 1) := by decide +kernel
theorem dX0_init_1 : decode cX0_init 1 = .ok (.invokespecial 1, 3) := by decide +kernel
theorem dX0_init_4 : decode cX0_init 4 = .ok (.return_, 1) := by decide +kernel
theorem dX0_sleepy_0 : decode cX0_sleepy 0 = .ok (.iconst 0, 1) := by decide +kernel
theorem dX0_sleepy_1 : decode cX0_sleepy 1 = .ok (.ireturn, 1) := by decide +kernel
theorem dX0_tires_0 : decode cX0_tires 0 = .ok (.aload_n 0, 1) := by decide +kernel
theorem dX0_tires_1 : decode cX0_tires 1 = .ok (.invokespecial 7, 3) := by decide +kernel
theorem dX0_tires_4 : decode cX0_tires 4 = .ok (.iconst 2, 1) := by decide +kernel
theorem dX0_tires_5 : decode cX0_tires 5 = .ok (.isub, 1) := by decide +kernel
theorem dX0_tires_6 : decode cX0_tires 6 = .ok (.ireturn, 1) := by decide +kernel
theorem dX1_init_0 : decode cX1_init 0 = .ok (.aload_n 0, 1) := by decide +kernel
theorem dX1_init_1 : decode cX1_init 1 = .ok (.invokespecial 1, 3) := by decide +kernel
theorem dX1_init_4 : decode cX1_init 4 = .ok (.return_, 1) := by decide +kernel
theorem dX1_sleepy_0 : decode cX1_sleepy 0 = .ok (.aload_n 0, 1) := by decide +kernel
theorem dX1_sleepy_1 : decode cX1_sleepy 1 = .ok (.iload_n 1, 1) := by decide +kernel
theorem dX1_sleepy_2 : decode cX1_sleepy 2 = .ok (.iload_n 2, 1) := by decide +kernel
theorem dX1_sleepy_3 : decode cX1_sleepy 3 = .ok (.iload_n 3, 1) := by decide +kernel
theorem dX1_sleepy_4 : decode cX1_sleepy 4 = .ok (.invokespecial 7, 3) := by decide +kernel
theorem dX1_sleepy_7 : decode cX1_sleepy 7 = .ok (.istore 4, 2) := by decide +kernel
theorem dX1_sleepy_9 : decode cX1_sleepy 9 = .ok (.iload_n 1, 1) := by decide +kernel
theorem dX1_sleepy_10 : decode cX1_sleepy 10 = .ok (.iconst 4, 1) := by decide +kernel
theorem dX1_sleepy_11 : decode cX1_sleepy 11 = .ok (.irem, 1) := by decide +kernel
theorem dX1_sleepy_12 : decode cX1_sleepy 12 = .ok (.ifCond .ne 14, 3) := by decide +kernel
theorem dX1_sleepy_15 : decode cX1_sleepy 15 = .ok (.iconst 0, 1) := by decide +kernel
theorem dX1_sleepy_16 : decode cX1_sleepy 16 = .ok (.iload 4, 2) := by decide +kernel
theorem dX1_sleepy_18 : decode cX1_sleepy 18 = .ok (.iconst 3, 1) := by decide +kernel
theorem dX1_sleepy_19 : decode cX1_sleepy 19 = .ok (.isub, 1) := by decide +kernel
theorem dX1_sleepy_20 : decode cX1_sleepy 20 = .ok (.invokestatic 11, 3) := by decide +kernel
theorem dX1_sleepy_23 : decode cX1_sleepy 23 = .ok (.goto 5, 3) := by decide +kernel
theorem dX1_sleepy_26 : decode cX1_sleepy 26 = .ok (.iload 4, 2) := by decide +kernel
theorem dX1_sleepy_28 : decode cX1_sleepy 28 = .ok (.ireturn, 1) := by decide +kernel
theorem dX2_init_0 : decode cX2_init 0 = .ok (.aload_n 0, 1) := by decide +kernel
theorem dX2_init_1 : decode cX2_init 1 = .ok (.invokespecial 1, 3) := by decide +kernel
theorem dX2_init_4 : decode cX2_init 4 = .ok (.return_, 1) := by decide +kernel
theorem dX2_sleepy_0 : decode cX2_sleepy 0 = .ok (.aload_n 0, 1) := by decide +kernel
theorem dX2_sleepy_1 : decode cX2_sleepy 1 = .ok (.iload_n 1, 1) := by decide +kernel
theorem dX2_sleepy_2 : decode cX2_sleepy 2 = .ok (.iload_n 2, 1) := by decide +kernel
theorem dX2_sleepy_3 : decode cX2_sleepy 3 = .ok (.iload_n 3, 1) := by decide +kernel
theorem dX2_sleepy_4 : decode cX2_sleepy 4 = .ok (.invokespecial 7, 3) := by decide +kernel
theorem dX2_sleepy_7 : decode cX2_sleepy 7 = .ok (.istore 4, 2) := by decide +kernel
theorem dX2_sleepy_9 : decode cX2_sleepy 9 = .ok (.iload_n 2, 1) := by decide +kernel
theorem dX2_sleepy_10 : decode cX2_sleepy 10 = .ok (.ifCond .eq 10, 3) := by decide +kernel
theorem dX2_sleepy_13 : decode cX2_sleepy 13 = .ok (.iconst 2, 1) := by decide +kernel
theorem dX2_sleepy_14 : decode cX2_sleepy 14 = .ok (.iload 4, 2) := by decide +kernel
theorem dX2_sleepy_16 : decode cX2_sleepy 16 = .ok (.imul, 1) := by decide +kernel
theorem dX2_sleepy_17 : decode cX2_sleepy 17 = .ok (.goto 5, 3) := by decide +kernel
theorem dX2_sleepy_20 : decode cX2_sleepy 20 = .ok (.iload 4, 2) := by decide +kernel
theorem dX2_sleepy_22 : decode cX2_sleepy 22 = .ok (.ireturn, 1) := by decide +kernel
theorem dX3_init_0 : decode cX3_init 0 = .ok (.aload_n 0, 1) := by decide +kernel
theorem dX3_init_1 : decode cX3_init 1 = .ok (.invokespecial 3, 3) := by decide +kernel
theorem dX3_init_4 : decode cX3_init 4 = .ok (.aload_n 0, 1) := by decide +kernel
theorem dX3_init_5 : decode cX3_init 5 = .ok (.bipush 61, 2) := by decide +kernel
theorem dX3_init_7 : decode cX3_init 7 = .ok (.newarray .int, 2) := by decide +kernel
theorem dX3_init_9 : decode cX3_init 9 = .ok (.putfield 9, 3) := by decide +kernel
theorem dX3_init_12 : decode cX3_init 12 = .ok (.aload_n 0, 1) := by decide +kernel
theorem dX3_init_13 : decode cX3_init 13 = .ok (.bipush 61, 2) := by decide +kernel
theorem dX3_init_15 : decode cX3_init 15 = .ok (.newarray .int, 2) := by decide +kernel
theorem dX3_init_17 : decode cX3_init 17 = .ok (.putfield 15, 3) := by decide +kernel
theorem dX3_init_20 : decode cX3_init 20 = .ok (.aload_n 0, 1) := by decide +kernel
theorem dX3_init_21 : decode cX3_init 21 = .ok (.new 18, 3) := by decide +kernel
theorem dX3_init_24 : decode cX3_init 24 = .ok (.dup, 1) := by decide +kernel
theorem dX3_init_25 : decode cX3_init 25 = .ok (.aload_n 1, 1) := by decide +kernel
theorem dX3_init_26 : decode cX3_init 26 = .ok (.invokespecial 20, 3) := by decide +kernel
theorem dX3_init_29 : decode cX3_init 29 = .ok (.putfield 23, 3) := by decide +kernel
theorem dX3_init_32 : decode cX3_init 32 = .ok (.return_, 1) := by decide +kernel
theorem dX3_run_0 : decode cX3_run 0 = .ok (.aload_n 0, 1) := by decide +kernel
theorem dX3_run_1 : decode cX3_run 1 = .ok (.getfield 23, 3) := by decide +kernel
theorem dX3_run_4 : decode cX3_run 4 = .ok (.aload_n 1, 1) := by decide +kernel
theorem dX3_run_5 : decode cX3_run 5 = .ok (.invokevirtual 27, 3) := by decide +kernel
theorem dX3_run_8 : decode cX3_run 8 = .ok (.iconst 0, 1) := by decide +kernel
theorem dX3_run_9 : decode cX3_run 9 = .ok (.istore_n 3, 1) := by decide +kernel
theorem dX3_run_10 : decode cX3_run 10 = .ok (.iload_n 3, 1) := by decide +kernel
theorem dX3_run_11 : decode cX3_run 11 = .ok (.iload_n 2, 1) := by decide +kernel
theorem dX3_run_12 : decode cX3_run 12 = .ok (.if_icmp .gt 61, 3) := by decide +kernel
theorem dX3_run_15 : decode cX3_run 15 = .ok (.iload_n 3, 1) := by decide +kernel
theorem dX3_run_16 : decode cX3_run 16 = .ok (.bipush 60, 2) := by decide +kernel
theorem dX3_run_18 : decode cX3_run 18 = .ok (.if_icmp .gt 55, 3) := by decide +kernel
theorem dX3_run_21 : decode cX3_run 21 = .ok (.aload_n 0, 1) := by decide +kernel
theorem dX3_run_22 : decode cX3_run 22 = .ok (.getfield 9, 3) := by decide +kernel
theorem dX3_run_25 : decode cX3_run 25 = .ok (.iload_n 3, 1) := by decide +kernel
theorem dX3_run_26 : decode cX3_run 26 = .ok (.aload_n 0, 1) := by decide +kernel
theorem dX3_run_27 : decode cX3_run 27 = .ok (.getfield 23, 3) := by decide +kernel
theorem dX3_run_30 : decode cX3_run 30 = .ok (.getfield 31, 3) := by decide +kernel
theorem dX3_run_33 : decode cX3_run 33 = .ok (.iastore, 1) := by decide +kernel
theorem dX3_run_34 : decode cX3_run 34 = .ok (.aload_n 0, 1) := by decide +kernel
theorem dX3_run_35 : decode cX3_run 35 = .ok (.getfield 15, 3) := by decide +kernel
theorem dX3_run_38 : decode cX3_run 38 = .ok (.iload_n 3, 1) := by decide +kernel
theorem dX3_run_39 : decode cX3_run 39 = .ok (.aload_n 0, 1) := by decide +kernel
theorem dX3_run_40 : decode cX3_run 40 = .ok (.getfield 23, 3) := by decide +kernel
theorem dX3_run_43 : decode cX3_run 43 = .ok (.aload_n 0, 1) := by decide +kernel
theorem dX3_run_44 : decode cX3_run 44 = .ok (.getfield 23, 3) := by decide +kernel
theorem dX3_run_47 : decode cX3_run 47 = .ok (.getfield 35, 3) := by decide +kernel
theorem dX3_run_50 : decode cX3_run 50 = .ok (.invokevirtual 38, 3) := by decide +kernel
theorem dX3_run_53 : decode cX3_run 53 = .ok (.iastore, 1) := by decide +kernel
theorem dX3_run_54 : decode cX3_run 54 = .ok (.aload_n 0, 1) := by decide +kernel
theorem dX3_run_55 : decode cX3_run 55 = .ok (.getfield 23, 3) := by decide +kernel
theorem dX3_run_58 : decode cX3_run 58 = .ok (.aload_n 0, 1) := by decide +kernel
theorem dX3_run_59 : decode cX3_run 59 = .ok (.getfield 15, 3) := by decide +kernel
theorem dX3_run_62 : decode cX3_run 62 = .ok (.iload_n 3, 1) := by decide +kernel
theorem dX3_run_63 : decode cX3_run 63 = .ok (.iaload, 1) := by decide +kernel
theorem dX3_run_64 : decode cX3_run 64 = .ok (.invokevirtual 42, 3) := by decide +kernel
theorem dX3_run_67 : decode cX3_run 67 = .ok (.iinc 3 1, 3) := by decide +kernel
theorem dX3_run_70 : decode cX3_run 70 = .ok (.goto (-60), 3) := by decide +kernel
theorem dX3_run_73 : decode cX3_run 73 = .ok (.return_, 1) := by decide +kernel
theorem dX3_timesSteered_0 : decode cX3_timesSteered 0 = .ok (.iconst 0, 1) := by decide +kernel
theorem dX3_timesSteered_1 : decode cX3_timesSteered 1 = .ok (.istore_n 3, 1) := by decide +kernel
theorem dX3_timesSteered_2 : decode cX3_timesSteered 2 = .ok (.iconst 0, 1) := by decide +kernel
theorem dX3_timesSteered_3 : decode cX3_timesSteered 3 = .ok (.istore 4, 2) := by decide +kernel
theorem dX3_timesSteered_5 : decode cX3_timesSteered 5 = .ok (.iload 4, 2) := by decide +kernel
theorem dX3_timesSteered_7 : decode cX3_timesSteered 7 = .ok (.iload_n 2, 1) := by decide +kernel
theorem dX3_timesSteered_8 : decode cX3_timesSteered 8 = .ok (.if_icmp .ge 30, 3) := by decide +kernel
theorem dX3_timesSteered_11 : decode cX3_timesSteered 11 = .ok (.iload 4, 2) := by decide +kernel
theorem dX3_timesSteered_13 : decode cX3_timesSteered 13 = .ok (.bipush 60, 2) := by decide +kernel
theorem dX3_timesSteered_15 : decode cX3_timesSteered 15 = .ok (.if_icmp .gt 23, 3) := by decide +kernel
theorem dX3_timesSteered_18 : decode cX3_timesSteered 18 = .ok (.aload_n 0, 1) := by decide +kernel
theorem dX3_timesSteered_19 : decode cX3_timesSteered 19 = .ok (.getfield 15, 3) := by decide +kernel
theorem dX3_timesSteered_22 : decode cX3_timesSteered 22 = .ok (.iload 4, 2) := by decide +kernel
theorem dX3_timesSteered_24 : decode cX3_timesSteered 24 = .ok (.iaload, 1) := by decide +kernel
theorem dX3_timesSteered_25 : decode cX3_timesSteered 25 = .ok (.iload_n 1, 1) := by decide +kernel
theorem dX3_timesSteered_26 : decode cX3_timesSteered 26 = .ok (.if_icmp .ne 6, 3) := by decide +kernel
theorem dX3_timesSteered_29 : decode cX3_timesSteered 29 = .ok (.iinc 3 1, 3) := by decide +kernel
theorem dX3_timesSteered_32 : decode cX3_timesSteered 32 = .ok (.iinc 4 1, 3) := by decide +kernel
theorem dX3_timesSteered_35 : decode cX3_timesSteered 35 = .ok (.goto (-30), 3) := by decide +kernel
theorem dX3_timesSteered_38 : decode cX3_timesSteered 38 = .ok (.iload_n 3, 1) := by decide +kernel
theorem dX3_timesSteered_39 : decode cX3_timesSteered 39 = .ok (.ireturn, 1) := by decide +kernel
theorem dX4_init_0 : decode cX4_init 0 = .ok (.aload_n 0, 1) := by decide +kernel
theorem dX4_init_1 : decode cX4_init 1 = .ok (.invokespecial 3, 3) := by decide +kernel
theorem dX4_init_4 : decode cX4_init 4 = .ok (.aload_n 0, 1) := by decide +kernel
theorem dX4_init_5 : decode cX4_init 5 = .ok (.bipush 6, 2) := by decide +kernel
theorem dX4_init_7 : decode cX4_init 7 = .ok (.newarray .int, 2) := by decide +kernel
theorem dX4_init_9 : decode cX4_init 9 = .ok (.putfield 9, 3) := by decide +kernel
theorem dX4_init_12 : decode cX4_init 12 = .ok (.aload_n 0, 1) := by decide +kernel
theorem dX4_init_13 : decode cX4_init 13 = .ok (.bipush 6, 2) := by decide +kernel
theorem dX4_init_15 : decode cX4_init 15 = .ok (.newarray .int, 2) := by decide +kernel
theorem dX4_init_17 : decode cX4_init 17 = .ok (.putfield 15, 3) := by decide +kernel
theorem dX4_init_20 : decode cX4_init 20 = .ok (.aload_n 0, 1) := by decide +kernel
theorem dX4_init_21 : decode cX4_init 21 = .ok (.bipush 6, 2) := by decide +kernel
theorem dX4_init_23 : decode cX4_init 23 = .ok (.newarray .int, 2) := by decide +kernel
theorem dX4_init_25 : decode cX4_init 25 = .ok (.putfield 18, 3) := by decide +kernel
theorem dX4_init_28 : decode cX4_init 28 = .ok (.aload_n 0, 1) := by decide +kernel
theorem dX4_init_29 : decode cX4_init 29 = .ok (.aload_n 1, 1) := by decide +kernel
theorem dX4_init_30 : decode cX4_init 30 = .ok (.putfield 21, 3) := by decide +kernel
theorem dX4_init_33 : decode cX4_init 33 = .ok (.return_, 1) := by decide +kernel
theorem dX4_begin_0 : decode cX4_begin 0 = .ok (.aload_n 0, 1) := by decide +kernel
theorem dX4_begin_1 : decode cX4_begin 1 = .ok (.iconst 0, 1) := by decide +kernel
theorem dX4_begin_2 : decode cX4_begin 2 = .ok (.putfield 25, 3) := by decide +kernel
theorem dX4_begin_5 : decode cX4_begin 5 = .ok (.aload_n 0, 1) := by decide +kernel
theorem dX4_begin_6 : decode cX4_begin 6 = .ok (.iconst 0, 1) := by decide +kernel
theorem dX4_begin_7 : decode cX4_begin 7 = .ok (.putfield 29, 3) := by decide +kernel
theorem dX4_begin_10 : decode cX4_begin 10 = .ok (.aload_n 0, 1) := by decide +kernel
theorem dX4_begin_11 : decode cX4_begin 11 = .ok (.iconst 0, 1) := by decide +kernel
theorem dX4_begin_12 : decode cX4_begin 12 = .ok (.putfield 32, 3) := by decide +kernel
theorem dX4_begin_15 : decode cX4_begin 15 = .ok (.aload_n 0, 1) := by decide +kernel
theorem dX4_begin_16 : decode cX4_begin 16 = .ok (.iconst 0, 1) := by decide +kernel
theorem dX4_begin_17 : decode cX4_begin 17 = .ok (.putfield 35, 3) := by decide +kernel
theorem dX4_begin_20 : decode cX4_begin 20 = .ok (.return_, 1) := by decide +kernel
theorem dX4_take_0 : decode cX4_take 0 = .ok (.aload_n 1, 1) := by decide +kernel
theorem dX4_take_1 : decode cX4_take 1 = .ok (.getfield 9, 3) := by decide +kernel
theorem dX4_take_4 : decode cX4_take 4 = .ok (.iconst 0, 1) := by decide +kernel
theorem dX4_take_5 : decode cX4_take 5 = .ok (.aload_n 0, 1) := by decide +kernel
theorem dX4_take_6 : decode cX4_take 6 = .ok (.getfield 9, 3) := by decide +kernel
theorem dX4_take_9 : decode cX4_take 9 = .ok (.iconst 0, 1) := by decide +kernel
theorem dX4_take_10 : decode cX4_take 10 = .ok (.bipush 6, 2) := by decide +kernel
theorem dX4_take_12 : decode cX4_take 12 = .ok (.invokestatic 38, 3) := by decide +kernel
theorem dX4_take_15 : decode cX4_take 15 = .ok (.aload_n 1, 1) := by decide +kernel
theorem dX4_take_16 : decode cX4_take 16 = .ok (.getfield 15, 3) := by decide +kernel
theorem dX4_take_19 : decode cX4_take 19 = .ok (.iconst 0, 1) := by decide +kernel
theorem dX4_take_20 : decode cX4_take 20 = .ok (.aload_n 0, 1) := by decide +kernel
theorem dX4_take_21 : decode cX4_take 21 = .ok (.getfield 15, 3) := by decide +kernel
theorem dX4_take_24 : decode cX4_take 24 = .ok (.iconst 0, 1) := by decide +kernel
theorem dX4_take_25 : decode cX4_take 25 = .ok (.bipush 6, 2) := by decide +kernel
theorem dX4_take_27 : decode cX4_take 27 = .ok (.invokestatic 38, 3) := by decide +kernel
theorem dX4_take_30 : decode cX4_take 30 = .ok (.aload_n 1, 1) := by decide +kernel
theorem dX4_take_31 : decode cX4_take 31 = .ok (.getfield 18, 3) := by decide +kernel
theorem dX4_take_34 : decode cX4_take 34 = .ok (.iconst 0, 1) := by decide +kernel
theorem dX4_take_35 : decode cX4_take 35 = .ok (.aload_n 0, 1) := by decide +kernel
theorem dX4_take_36 : decode cX4_take 36 = .ok (.getfield 18, 3) := by decide +kernel
theorem dX4_take_39 : decode cX4_take 39 = .ok (.iconst 0, 1) := by decide +kernel
theorem dX4_take_40 : decode cX4_take 40 = .ok (.bipush 6, 2) := by decide +kernel
theorem dX4_take_42 : decode cX4_take 42 = .ok (.invokestatic 38, 3) := by decide +kernel
theorem dX4_take_45 : decode cX4_take 45 = .ok (.aload_n 0, 1) := by decide +kernel
theorem dX4_take_46 : decode cX4_take 46 = .ok (.aload_n 1, 1) := by decide +kernel
theorem dX4_take_47 : decode cX4_take 47 = .ok (.getfield 25, 3) := by decide +kernel
theorem dX4_take_50 : decode cX4_take 50 = .ok (.putfield 25, 3) := by decide +kernel
theorem dX4_take_53 : decode cX4_take 53 = .ok (.aload_n 0, 1) := by decide +kernel
theorem dX4_take_54 : decode cX4_take 54 = .ok (.aload_n 1, 1) := by decide +kernel
theorem dX4_take_55 : decode cX4_take 55 = .ok (.getfield 29, 3) := by decide +kernel
theorem dX4_take_58 : decode cX4_take 58 = .ok (.putfield 29, 3) := by decide +kernel
theorem dX4_take_61 : decode cX4_take 61 = .ok (.aload_n 0, 1) := by decide +kernel
theorem dX4_take_62 : decode cX4_take 62 = .ok (.aload_n 1, 1) := by decide +kernel
theorem dX4_take_63 : decode cX4_take 63 = .ok (.getfield 32, 3) := by decide +kernel
theorem dX4_take_66 : decode cX4_take 66 = .ok (.putfield 32, 3) := by decide +kernel
theorem dX4_take_69 : decode cX4_take 69 = .ok (.aload_n 0, 1) := by decide +kernel
theorem dX4_take_70 : decode cX4_take 70 = .ok (.aload_n 1, 1) := by decide +kernel
theorem dX4_take_71 : decode cX4_take 71 = .ok (.getfield 35, 3) := by decide +kernel
theorem dX4_take_74 : decode cX4_take 74 = .ok (.putfield 35, 3) := by decide +kernel
theorem dX4_take_77 : decode cX4_take 77 = .ok (.return_, 1) := by decide +kernel
theorem dX4_sleepiness_0 : decode cX4_sleepiness 0 = .ok (.aload_n 0, 1) := by decide +kernel
theorem dX4_sleepiness_1 : decode cX4_sleepiness 1 = .ok (.getfield 21, 3) := by decide +kernel
theorem dX4_sleepiness_4 : decode cX4_sleepiness 4 = .ok (.aload_n 0, 1) := by decide +kernel
theorem dX4_sleepiness_5 : decode cX4_sleepiness 5 = .ok (.getfield 9, 3) := by decide +kernel
theorem dX4_sleepiness_8 : decode cX4_sleepiness 8 = .ok (.iload_n 1, 1) := by decide +kernel
theorem dX4_sleepiness_9 : decode cX4_sleepiness 9 = .ok (.iaload, 1) := by decide +kernel
theorem dX4_sleepiness_10 : decode cX4_sleepiness 10 = .ok (.aaload, 1) := by decide +kernel
theorem dX4_sleepiness_11 : decode cX4_sleepiness 11 = .ok (.aload_n 0, 1) := by decide +kernel
theorem dX4_sleepiness_12 : decode cX4_sleepiness 12 = .ok (.getfield 32, 3) := by decide +kernel
theorem dX4_sleepiness_15 : decode cX4_sleepiness 15 = .ok (.iload_n 2, 1) := by decide +kernel
theorem dX4_sleepiness_16 : decode cX4_sleepiness 16 = .ok (.aload_n 0, 1) := by decide +kernel
theorem dX4_sleepiness_17 : decode cX4_sleepiness 17 = .ok (.getfield 15, 3) := by decide +kernel
theorem dX4_sleepiness_20 : decode cX4_sleepiness 20 = .ok (.iload_n 1, 1) := by decide +kernel
theorem dX4_sleepiness_21 : decode cX4_sleepiness 21 = .ok (.iaload, 1) := by decide +kernel
theorem dX4_sleepiness_22 : decode cX4_sleepiness 22 = .ok (.invokevirtual 44, 3) := by decide +kernel
theorem dX4_sleepiness_25 : decode cX4_sleepiness 25 = .ok (.ireturn, 1) := by decide +kernel
theorem dX4_steerer_0 : decode cX4_steerer 0 = .ok (.iconst (-1), 1) := by decide +kernel
theorem dX4_steerer_1 : decode cX4_steerer 1 = .ok (.istore_n 2, 1) := by decide +kernel
theorem dX4_steerer_2 : decode cX4_steerer 2 = .ok (.iconst 0, 1) := by decide +kernel
theorem dX4_steerer_3 : decode cX4_steerer 3 = .ok (.istore_n 3, 1) := by decide +kernel
theorem dX4_steerer_4 : decode cX4_steerer 4 = .ok (.iconst 0, 1) := by decide +kernel
theorem dX4_steerer_5 : decode cX4_steerer 5 = .ok (.istore 4, 2) := by decide +kernel
theorem dX4_steerer_7 : decode cX4_steerer 7 = .ok (.iload 4, 2) := by decide +kernel
theorem dX4_steerer_9 : decode cX4_steerer 9 = .ok (.aload_n 0, 1) := by decide +kernel
theorem dX4_steerer_10 : decode cX4_steerer 10 = .ok (.getfield 25, 3) := by decide +kernel
theorem dX4_steerer_13 : decode cX4_steerer 13 = .ok (.if_icmp .ge 35, 3) := by decide +kernel
theorem dX4_steerer_16 : decode cX4_steerer 16 = .ok (.aload_n 0, 1) := by decide +kernel
theorem dX4_steerer_17 : decode cX4_steerer 17 = .ok (.iload 4, 2) := by decide +kernel
theorem dX4_steerer_19 : decode cX4_steerer 19 = .ok (.iload_n 1, 1) := by decide +kernel
theorem dX4_steerer_20 : decode cX4_steerer 20 = .ok (.iload 4, 2) := by decide +kernel
theorem dX4_steerer_22 : decode cX4_steerer 22 = .ok (.invokestatic 50, 3) := by decide +kernel
theorem dX4_steerer_25 : decode cX4_steerer 25 = .ok (.invokevirtual 54, 3) := by decide +kernel
theorem dX4_steerer_28 : decode cX4_steerer 28 = .ok (.istore 5, 2) := by decide +kernel
theorem dX4_steerer_30 : decode cX4_steerer 30 = .ok (.iload 5, 2) := by decide +kernel
theorem dX4_steerer_32 : decode cX4_steerer 32 = .ok (.iload_n 3, 1) := by decide +kernel
theorem dX4_steerer_33 : decode cX4_steerer 33 = .ok (.if_icmp .le 9, 3) := by decide +kernel
theorem dX4_steerer_36 : decode cX4_steerer 36 = .ok (.iload 5, 2) := by decide +kernel
theorem dX4_steerer_38 : decode cX4_steerer 38 = .ok (.istore_n 3, 1) := by decide +kernel
theorem dX4_steerer_39 : decode cX4_steerer 39 = .ok (.iload 4, 2) := by decide +kernel
theorem dX4_steerer_41 : decode cX4_steerer 41 = .ok (.istore_n 2, 1) := by decide +kernel
theorem dX4_steerer_42 : decode cX4_steerer 42 = .ok (.iinc 4 1, 3) := by decide +kernel
theorem dX4_steerer_45 : decode cX4_steerer 45 = .ok (.goto (-38), 3) := by decide +kernel
theorem dX4_steerer_48 : decode cX4_steerer 48 = .ok (.iload_n 2, 1) := by decide +kernel
theorem dX4_steerer_49 : decode cX4_steerer 49 = .ok (.ireturn, 1) := by decide +kernel
theorem dX4_go_0 : decode cX4_go 0 = .ok (.iconst 0, 1) := by decide +kernel
theorem dX4_go_1 : decode cX4_go 1 = .ok (.istore_n 2, 1) := by decide +kernel
theorem dX4_go_2 : decode cX4_go 2 = .ok (.iload_n 2, 1) := by decide +kernel
theorem dX4_go_3 : decode cX4_go 3 = .ok (.aload_n 0, 1) := by decide +kernel
theorem dX4_go_4 : decode cX4_go 4 = .ok (.getfield 25, 3) := by decide +kernel
theorem dX4_go_7 : decode cX4_go 7 = .ok (.if_icmp .ge 82, 3) := by decide +kernel
theorem dX4_go_10 : decode cX4_go 10 = .ok (.iload_n 2, 1) := by decide +kernel
theorem dX4_go_11 : decode cX4_go 11 = .ok (.iload_n 1, 1) := by decide +kernel
theorem dX4_go_12 : decode cX4_go 12 = .ok (.if_icmp .ne 39, 3) := by decide +kernel
theorem dX4_go_15 : decode cX4_go 15 = .ok (.aload_n 0, 1) := by decide +kernel
theorem dX4_go_16 : decode cX4_go 16 = .ok (.dup, 1) := by decide +kernel
theorem dX4_go_17 : decode cX4_go 17 = .ok (.getfield 29, 3) := by decide +kernel
theorem dX4_go_20 : decode cX4_go 20 = .ok (.aload_n 0, 1) := by decide +kernel
theorem dX4_go_21 : decode cX4_go 21 = .ok (.getfield 18, 3) := by decide +kernel
theorem dX4_go_24 : decode cX4_go 24 = .ok (.iload_n 2, 1) := by decide +kernel
theorem dX4_go_25 : decode cX4_go 25 = .ok (.iaload, 1) := by decide +kernel
theorem dX4_go_26 : decode cX4_go 26 = .ok (.iadd, 1) := by decide +kernel
theorem dX4_go_27 : decode cX4_go 27 = .ok (.putfield 29, 3) := by decide +kernel
theorem dX4_go_30 : decode cX4_go 30 = .ok (.aload_n 0, 1) := by decide +kernel
theorem dX4_go_31 : decode cX4_go 31 = .ok (.getfield 15, 3) := by decide +kernel
theorem dX4_go_34 : decode cX4_go 34 = .ok (.iload_n 2, 1) := by decide +kernel
theorem dX4_go_35 : decode cX4_go 35 = .ok (.iconst 0, 1) := by decide +kernel
theorem dX4_go_36 : decode cX4_go 36 = .ok (.aload_n 0, 1) := by decide +kernel
theorem dX4_go_37 : decode cX4_go 37 = .ok (.getfield 15, 3) := by decide +kernel
theorem dX4_go_40 : decode cX4_go 40 = .ok (.iload_n 2, 1) := by decide +kernel
theorem dX4_go_41 : decode cX4_go 41 = .ok (.iaload, 1) := by decide +kernel
theorem dX4_go_42 : decode cX4_go 42 = .ok (.iconst 4, 1) := by decide +kernel
theorem dX4_go_43 : decode cX4_go 43 = .ok (.isub, 1) := by decide +kernel
theorem dX4_go_44 : decode cX4_go 44 = .ok (.invokestatic 58, 3) := by decide +kernel
theorem dX4_go_47 : decode cX4_go 47 = .ok (.iastore, 1) := by decide +kernel
theorem dX4_go_48 : decode cX4_go 48 = .ok (.goto 35, 3) := by decide +kernel
theorem dX4_go_51 : decode cX4_go 51 = .ok (.aload_n 0, 1) := by decide +kernel
theorem dX4_go_52 : decode cX4_go 52 = .ok (.getfield 15, 3) := by decide +kernel
theorem dX4_go_55 : decode cX4_go 55 = .ok (.iload_n 2, 1) := by decide +kernel
theorem dX4_go_56 : decode cX4_go 56 = .ok (.bipush 99, 2) := by decide +kernel
theorem dX4_go_58 : decode cX4_go 58 = .ok (.aload_n 0, 1) := by decide +kernel
theorem dX4_go_59 : decode cX4_go 59 = .ok (.getfield 15, 3) := by decide +kernel
theorem dX4_go_62 : decode cX4_go 62 = .ok (.iload_n 2, 1) := by decide +kernel
theorem dX4_go_63 : decode cX4_go 63 = .ok (.iaload, 1) := by decide +kernel
theorem dX4_go_64 : decode cX4_go 64 = .ok (.aload_n 0, 1) := by decide +kernel
theorem dX4_go_65 : decode cX4_go 65 = .ok (.getfield 21, 3) := by decide +kernel
theorem dX4_go_68 : decode cX4_go 68 = .ok (.aload_n 0, 1) := by decide +kernel
theorem dX4_go_69 : decode cX4_go 69 = .ok (.getfield 9, 3) := by decide +kernel
theorem dX4_go_72 : decode cX4_go 72 = .ok (.iload_n 2, 1) := by decide +kernel
theorem dX4_go_73 : decode cX4_go 73 = .ok (.iaload, 1) := by decide +kernel
theorem dX4_go_74 : decode cX4_go 74 = .ok (.aaload, 1) := by decide +kernel
theorem dX4_go_75 : decode cX4_go 75 = .ok (.invokevirtual 64, 3) := by decide +kernel
theorem dX4_go_78 : decode cX4_go 78 = .ok (.iadd, 1) := by decide +kernel
theorem dX4_go_79 : decode cX4_go 79 = .ok (.invokestatic 68, 3) := by decide +kernel
theorem dX4_go_82 : decode cX4_go 82 = .ok (.iastore, 1) := by decide +kernel
theorem dX4_go_83 : decode cX4_go 83 = .ok (.iinc 2 1, 3) := by decide +kernel
theorem dX4_go_86 : decode cX4_go 86 = .ok (.goto (-84), 3) := by decide +kernel
theorem dX4_go_89 : decode cX4_go 89 = .ok (.aload_n 0, 1) := by decide +kernel
theorem dX4_go_90 : decode cX4_go 90 = .ok (.iconst 0, 1) := by decide +kernel
theorem dX4_go_91 : decode cX4_go 91 = .ok (.putfield 35, 3) := by decide +kernel
theorem dX4_go_94 : decode cX4_go 94 = .ok (.aload_n 0, 1) := by decide +kernel
theorem dX4_go_95 : decode cX4_go 95 = .ok (.dup, 1) := by decide +kernel
theorem dX4_go_96 : decode cX4_go 96 = .ok (.getfield 32, 3) := by decide +kernel
theorem dX4_go_99 : decode cX4_go 99 = .ok (.iconst 1, 1) := by decide +kernel
theorem dX4_go_100 : decode cX4_go 100 = .ok (.iadd, 1) := by decide +kernel
theorem dX4_go_101 : decode cX4_go 101 = .ok (.putfield 32, 3) := by decide +kernel
theorem dX4_go_104 : decode cX4_go 104 = .ok (.return_, 1) := by decide +kernel
theorem dX4_canSteer_0 : decode cX4_canSteer 0 = .ok (.aload_n 0, 1) := by decide +kernel
theorem dX4_canSteer_1 : decode cX4_canSteer 1 = .ok (.iload_n 1, 1) := by decide +kernel
theorem dX4_canSteer_2 : decode cX4_canSteer 2 = .ok (.iconst 1, 1) := by decide +kernel
theorem dX4_canSteer_3 : decode cX4_canSteer 3 = .ok (.invokevirtual 54, 3) := by decide +kernel
theorem dX4_canSteer_6 : decode cX4_canSteer 6 = .ok (.aload_n 0, 1) := by decide +kernel
theorem dX4_canSteer_7 : decode cX4_canSteer 7 = .ok (.iload_n 1, 1) := by decide +kernel
theorem dX4_canSteer_8 : decode cX4_canSteer 8 = .ok (.iconst 0, 1) := by decide +kernel
theorem dX4_canSteer_9 : decode cX4_canSteer 9 = .ok (.invokevirtual 54, 3) := by decide +kernel
theorem dX4_canSteer_12 : decode cX4_canSteer 12 = .ok (.invokestatic 58, 3) := by decide +kernel
theorem dX4_canSteer_15 : decode cX4_canSteer 15 = .ok (.istore_n 2, 1) := by decide +kernel
theorem dX4_canSteer_16 : decode cX4_canSteer 16 = .ok (.iload_n 2, 1) := by decide +kernel
theorem dX4_canSteer_17 : decode cX4_canSteer 17 = .ok (.ifCond .le 7, 3) := by decide +kernel
theorem dX4_canSteer_20 : decode cX4_canSteer 20 = .ok (.iconst 1, 1) := by decide +kernel
theorem dX4_canSteer_21 : decode cX4_canSteer 21 = .ok (.goto 4, 3) := by decide +kernel
theorem dX4_canSteer_24 : decode cX4_canSteer 24 = .ok (.iconst 0, 1) := by decide +kernel
theorem dX4_canSteer_25 : decode cX4_canSteer 25 = .ok (.istore_n 3, 1) := by decide +kernel
theorem dX4_canSteer_26 : decode cX4_canSteer 26 = .ok (.iconst 0, 1) := by decide +kernel
theorem dX4_canSteer_27 : decode cX4_canSteer 27 = .ok (.istore 4, 2) := by decide +kernel
theorem dX4_canSteer_29 : decode cX4_canSteer 29 = .ok (.iload 4, 2) := by decide +kernel
theorem dX4_canSteer_31 : decode cX4_canSteer 31 = .ok (.aload_n 0, 1) := by decide +kernel
theorem dX4_canSteer_32 : decode cX4_canSteer 32 = .ok (.getfield 25, 3) := by decide +kernel
theorem dX4_canSteer_35 : decode cX4_canSteer 35 = .ok (.if_icmp .ge 56, 3) := by decide +kernel
theorem dX4_canSteer_38 : decode cX4_canSteer 38 = .ok (.aload_n 0, 1) := by decide +kernel
theorem dX4_canSteer_39 : decode cX4_canSteer 39 = .ok (.iload 4, 2) := by decide +kernel
theorem dX4_canSteer_41 : decode cX4_canSteer 41 = .ok (.iconst 1, 1) := by decide +kernel
theorem dX4_canSteer_42 : decode cX4_canSteer 42 = .ok (.invokevirtual 54, 3) := by decide +kernel
theorem dX4_canSteer_45 : decode cX4_canSteer 45 = .ok (.aload_n 0, 1) := by decide +kernel
theorem dX4_canSteer_46 : decode cX4_canSteer 46 = .ok (.iload 4, 2) := by decide +kernel
theorem dX4_canSteer_48 : decode cX4_canSteer 48 = .ok (.iconst 0, 1) := by decide +kernel
theorem dX4_canSteer_49 : decode cX4_canSteer 49 = .ok (.invokevirtual 54, 3) := by decide +kernel
theorem dX4_canSteer_52 : decode cX4_canSteer 52 = .ok (.invokestatic 68, 3) := by decide +kernel
theorem dX4_canSteer_55 : decode cX4_canSteer 55 = .ok (.istore 5, 2) := by decide +kernel
theorem dX4_canSteer_57 : decode cX4_canSteer 57 = .ok (.iload_n 3, 1) := by decide +kernel
theorem dX4_canSteer_58 : decode cX4_canSteer 58 = .ok (.ifCond .eq 25, 3) := by decide +kernel
theorem dX4_canSteer_61 : decode cX4_canSteer 61 = .ok (.iload 4, 2) := by decide +kernel
theorem dX4_canSteer_63 : decode cX4_canSteer 63 = .ok (.iload_n 1, 1) := by decide +kernel
theorem dX4_canSteer_64 : decode cX4_canSteer 64 = .ok (.if_icmp .eq 15, 3) := by decide +kernel
theorem dX4_canSteer_67 : decode cX4_canSteer 67 = .ok (.iload 4, 2) := by decide +kernel
theorem dX4_canSteer_69 : decode cX4_canSteer 69 = .ok (.iload 5, 2) := by decide +kernel
theorem dX4_canSteer_71 : decode cX4_canSteer 71 = .ok (.iload_n 1, 1) := by decide +kernel
theorem dX4_canSteer_72 : decode cX4_canSteer 72 = .ok (.iload_n 2, 1) := by decide +kernel
theorem dX4_canSteer_73 : decode cX4_canSteer 73 = .ok (.invokestatic 71, 3) := by decide +kernel
theorem dX4_canSteer_76 : decode cX4_canSteer 76 = .ok (.ifCond .eq 7, 3) := by decide +kernel
theorem dX4_canSteer_79 : decode cX4_canSteer 79 = .ok (.iconst 1, 1) := by decide +kernel
theorem dX4_canSteer_80 : decode cX4_canSteer 80 = .ok (.goto 4, 3) := by decide +kernel
theorem dX4_canSteer_83 : decode cX4_canSteer 83 = .ok (.iconst 0, 1) := by decide +kernel
theorem dX4_canSteer_84 : decode cX4_canSteer 84 = .ok (.istore_n 3, 1) := by decide +kernel
theorem dX4_canSteer_85 : decode cX4_canSteer 85 = .ok (.iinc 4 1, 3) := by decide +kernel
theorem dX4_canSteer_88 : decode cX4_canSteer 88 = .ok (.goto (-59), 3) := by decide +kernel
theorem dX4_canSteer_91 : decode cX4_canSteer 91 = .ok (.iload_n 3, 1) := by decide +kernel
theorem dX4_canSteer_92 : decode cX4_canSteer 92 = .ok (.ireturn, 1) := by decide +kernel
theorem dX4_chances_0 : decode cX4_chances 0 = .ok (.iload_n 2, 1) := by decide +kernel
theorem dX4_chances_1 : decode cX4_chances 1 = .ok (.aload_n 0, 1) := by decide +kernel
theorem dX4_chances_2 : decode cX4_chances 2 = .ok (.iload_n 1, 1) := by decide +kernel
theorem dX4_chances_3 : decode cX4_chances 3 = .ok (.aload_n 0, 1) := by decide +kernel
theorem dX4_chances_4 : decode cX4_chances 4 = .ok (.iload_n 1, 1) := by decide +kernel
theorem dX4_chances_5 : decode cX4_chances 5 = .ok (.iconst 1, 1) := by decide +kernel
theorem dX4_chances_6 : decode cX4_chances 6 = .ok (.invokevirtual 54, 3) := by decide +kernel
theorem dX4_chances_9 : decode cX4_chances 9 = .ok (.iload_n 2, 1) := by decide +kernel
theorem dX4_chances_10 : decode cX4_chances 10 = .ok (.invokevirtual 75, 3) := by decide +kernel
theorem dX4_chances_13 : decode cX4_chances 13 = .ok (.imul, 1) := by decide +kernel
theorem dX4_chances_14 : decode cX4_chances 14 = .ok (.bipush 10, 2) := by decide +kernel
theorem dX4_chances_16 : decode cX4_chances 16 = .ok (.iload_n 2, 1) := by decide +kernel
theorem dX4_chances_17 : decode cX4_chances 17 = .ok (.isub, 1) := by decide +kernel
theorem dX4_chances_18 : decode cX4_chances 18 = .ok (.aload_n 0, 1) := by decide +kernel
theorem dX4_chances_19 : decode cX4_chances 19 = .ok (.iload_n 1, 1) := by decide +kernel
theorem dX4_chances_20 : decode cX4_chances 20 = .ok (.aload_n 0, 1) := by decide +kernel
theorem dX4_chances_21 : decode cX4_chances 21 = .ok (.iload_n 1, 1) := by decide +kernel
theorem dX4_chances_22 : decode cX4_chances 22 = .ok (.iconst 0, 1) := by decide +kernel
theorem dX4_chances_23 : decode cX4_chances 23 = .ok (.invokevirtual 54, 3) := by decide +kernel
theorem dX4_chances_26 : decode cX4_chances 26 = .ok (.iload_n 2, 1) := by decide +kernel
theorem dX4_chances_27 : decode cX4_chances 27 = .ok (.invokevirtual 75, 3) := by decide +kernel
theorem dX4_chances_30 : decode cX4_chances 30 = .ok (.imul, 1) := by decide +kernel
theorem dX4_chances_31 : decode cX4_chances 31 = .ok (.iadd, 1) := by decide +kernel
theorem dX4_chances_32 : decode cX4_chances 32 = .ok (.ireturn, 1) := by decide +kernel
theorem dX4_chancesOfOthers_0 : decode cX4_chancesOfOthers 0 = .ok (.iload_n 2, 1) := by decide +kernel
theorem dX4_chancesOfOthers_1 : decode cX4_chancesOfOthers 1 = .ok (.ifCond .gt 5, 3) := by decide +kernel
theorem dX4_chancesOfOthers_4 : decode cX4_chancesOfOthers 4 = .ok (.iconst 0, 1) := by decide +kernel
theorem dX4_chancesOfOthers_5 : decode cX4_chancesOfOthers 5 = .ok (.ireturn, 1) := by decide +kernel
theorem dX4_chancesOfOthers_6 : decode cX4_chancesOfOthers 6 = .ok (.iconst 1, 1) := by decide +kernel
theorem dX4_chancesOfOthers_7 : decode cX4_chancesOfOthers 7 = .ok (.istore 4, 2) := by decide +kernel
theorem dX4_chancesOfOthers_9 : decode cX4_chancesOfOthers 9 = .ok (.iconst 0, 1) := by decide +kernel
theorem dX4_chancesOfOthers_10 : decode cX4_chancesOfOthers 10 = .ok (.istore 5, 2) := by decide +kernel
theorem dX4_chancesOfOthers_12 : decode cX4_chancesOfOthers 12 = .ok (.iload 5, 2) := by decide +kernel
theorem dX4_chancesOfOthers_14 : decode cX4_chancesOfOthers 14 = .ok (.aload_n 0, 1) := by decide +kernel
theorem dX4_chancesOfOthers_15 : decode cX4_chancesOfOthers 15 = .ok (.getfield 25, 3) := by decide +kernel
theorem dX4_chancesOfOthers_18 : decode cX4_chancesOfOthers 18 = .ok (.if_icmp .ge 76, 3) := by decide +kernel
theorem dX4_chancesOfOthers_21 : decode cX4_chancesOfOthers 21 = .ok (.iload 5, 2) := by decide +kernel
theorem dX4_chancesOfOthers_23 : decode cX4_chancesOfOthers 23 = .ok (.iload_n 1, 1) := by decide +kernel
theorem dX4_chancesOfOthers_24 : decode cX4_chancesOfOthers 24 = .ok (.if_icmp .eq 64, 3) := by decide +kernel
theorem dX4_chancesOfOthers_27 : decode cX4_chancesOfOthers 27 = .ok (.iload 5, 2) := by decide +kernel
theorem dX4_chancesOfOthers_29 : decode cX4_chancesOfOthers 29 = .ok (.aload_n 0, 1) := by decide +kernel
theorem dX4_chancesOfOthers_30 : decode cX4_chancesOfOthers 30 = .ok (.iload 5, 2) := by decide +kernel
theorem dX4_chancesOfOthers_32 : decode cX4_chancesOfOthers 32 = .ok (.iconst 1, 1) := by decide +kernel
theorem dX4_chancesOfOthers_33 : decode cX4_chancesOfOthers 33 = .ok (.invokevirtual 54, 3) := by decide +kernel
theorem dX4_chancesOfOthers_36 : decode cX4_chancesOfOthers 36 = .ok (.iload_n 1, 1) := by decide +kernel
theorem dX4_chancesOfOthers_37 : decode cX4_chancesOfOthers 37 = .ok (.iload_n 2, 1) := by decide +kernel
theorem dX4_chancesOfOthers_38 : decode cX4_chancesOfOthers 38 = .ok (.invokestatic 71, 3) := by decide +kernel
theorem dX4_chancesOfOthers_41 : decode cX4_chancesOfOthers 41 = .ok (.ifCond .eq 7, 3) := by decide +kernel
theorem dX4_chancesOfOthers_44 : decode cX4_chancesOfOthers 44 = .ok (.iload_n 3, 1) := by decide +kernel
theorem dX4_chancesOfOthers_45 : decode cX4_chancesOfOthers 45 = .ok (.goto 4, 3) := by decide +kernel
theorem dX4_chancesOfOthers_48 : decode cX4_chancesOfOthers 48 = .ok (.iconst 0, 1) := by decide +kernel
theorem dX4_chancesOfOthers_49 : decode cX4_chancesOfOthers 49 = .ok (.istore 6, 2) := by decide +kernel
theorem dX4_chancesOfOthers_51 : decode cX4_chancesOfOthers 51 = .ok (.iload 5, 2) := by decide +kernel
theorem dX4_chancesOfOthers_53 : decode cX4_chancesOfOthers 53 = .ok (.aload_n 0, 1) := by decide +kernel
theorem dX4_chancesOfOthers_54 : decode cX4_chancesOfOthers 54 = .ok (.iload 5, 2) := by decide +kernel
theorem dX4_chancesOfOthers_56 : decode cX4_chancesOfOthers 56 = .ok (.iconst 0, 1) := by decide +kernel
theorem dX4_chancesOfOthers_57 : decode cX4_chancesOfOthers 57 = .ok (.invokevirtual 54, 3) := by decide +kernel
theorem dX4_chancesOfOthers_60 : decode cX4_chancesOfOthers 60 = .ok (.iload_n 1, 1) := by decide +kernel
theorem dX4_chancesOfOthers_61 : decode cX4_chancesOfOthers 61 = .ok (.iload_n 2, 1) := by decide +kernel
theorem dX4_chancesOfOthers_62 : decode cX4_chancesOfOthers 62 = .ok (.invokestatic 71, 3) := by decide +kernel
theorem dX4_chancesOfOthers_65 : decode cX4_chancesOfOthers 65 = .ok (.ifCond .eq 10, 3) := by decide +kernel
theorem dX4_chancesOfOthers_68 : decode cX4_chancesOfOthers 68 = .ok (.bipush 10, 2) := by decide +kernel
theorem dX4_chancesOfOthers_70 : decode cX4_chancesOfOthers 70 = .ok (.iload_n 3, 1) := by decide +kernel
theorem dX4_chancesOfOthers_71 : decode cX4_chancesOfOthers 71 = .ok (.isub, 1) := by decide +kernel
theorem dX4_chancesOfOthers_72 : decode cX4_chancesOfOthers 72 = .ok (.goto 4, 3) := by decide +kernel
theorem dX4_chancesOfOthers_75 : decode cX4_chancesOfOthers 75 = .ok (.iconst 0, 1) := by decide +kernel
theorem dX4_chancesOfOthers_76 : decode cX4_chancesOfOthers 76 = .ok (.istore 7, 2) := by decide +kernel
theorem dX4_chancesOfOthers_78 : decode cX4_chancesOfOthers 78 = .ok (.iload 4, 2) := by decide +kernel
theorem dX4_chancesOfOthers_80 : decode cX4_chancesOfOthers 80 = .ok (.iload 6, 2) := by decide +kernel
theorem dX4_chancesOfOthers_82 : decode cX4_chancesOfOthers 82 = .ok (.iload 7, 2) := by decide +kernel
theorem dX4_chancesOfOthers_84 : decode cX4_chancesOfOthers 84 = .ok (.iadd, 1) := by decide +kernel
theorem dX4_chancesOfOthers_85 : decode cX4_chancesOfOthers 85 = .ok (.imul, 1) := by decide +kernel
theorem dX4_chancesOfOthers_86 : decode cX4_chancesOfOthers 86 = .ok (.istore 4, 2) := by decide +kernel
theorem dX4_chancesOfOthers_88 : decode cX4_chancesOfOthers 88 = .ok (.iinc 5 1, 3) := by decide +kernel
theorem dX4_chancesOfOthers_91 : decode cX4_chancesOfOthers 91 = .ok (.goto (-79), 3) := by decide +kernel
theorem dX4_chancesOfOthers_94 : decode cX4_chancesOfOthers 94 = .ok (.iload 4, 2) := by decide +kernel
theorem dX4_chancesOfOthers_96 : decode cX4_chancesOfOthers 96 = .ok (.ireturn, 1) := by decide +kernel
theorem dX4_staysBehind_0 : decode cX4_staysBehind 0 = .ok (.iload_n 0, 1) := by decide +kernel
theorem dX4_staysBehind_1 : decode cX4_staysBehind 1 = .ok (.iload_n 2, 1) := by decide +kernel
theorem dX4_staysBehind_2 : decode cX4_staysBehind 2 = .ok (.if_icmp .ge 16, 3) := by decide +kernel
theorem dX4_staysBehind_5 : decode cX4_staysBehind 5 = .ok (.iload_n 1, 1) := by decide +kernel
theorem dX4_staysBehind_6 : decode cX4_staysBehind 6 = .ok (.iload_n 3, 1) := by decide +kernel
theorem dX4_staysBehind_7 : decode cX4_staysBehind 7 = .ok (.if_icmp .ge 7, 3) := by decide +kernel
theorem dX4_staysBehind_10 : decode cX4_staysBehind 10 = .ok (.iconst 1, 1) := by decide +kernel
theorem dX4_staysBehind_11 : decode cX4_staysBehind 11 = .ok (.goto 17, 3) := by decide +kernel
theorem dX4_staysBehind_14 : decode cX4_staysBehind 14 = .ok (.iconst 0, 1) := by decide +kernel
theorem dX4_staysBehind_15 : decode cX4_staysBehind 15 = .ok (.goto 13, 3) := by decide +kernel
theorem dX4_staysBehind_18 : decode cX4_staysBehind 18 = .ok (.iload_n 1, 1) := by decide +kernel
theorem dX4_staysBehind_19 : decode cX4_staysBehind 19 = .ok (.iload_n 3, 1) := by decide +kernel
theorem dX4_staysBehind_20 : decode cX4_staysBehind 20 = .ok (.if_icmp .gt 7, 3) := by decide +kernel
theorem dX4_staysBehind_23 : decode cX4_staysBehind 23 = .ok (.iconst 1, 1) := by decide +kernel
theorem dX4_staysBehind_24 : decode cX4_staysBehind 24 = .ok (.goto 4, 3) := by decide +kernel
theorem dX4_staysBehind_27 : decode cX4_staysBehind 27 = .ok (.iconst 0, 1) := by decide +kernel
theorem dX4_staysBehind_28 : decode cX4_staysBehind 28 = .ok (.ireturn, 1) := by decide +kernel
theorem dX4_pairRests_0 : decode cX4_pairRests 0 = .ok (.aload_n 0, 1) := by decide +kernel
theorem dX4_pairRests_1 : decode cX4_pairRests 1 = .ok (.iload_n 1, 1) := by decide +kernel
theorem dX4_pairRests_2 : decode cX4_pairRests 2 = .ok (.iload_n 2, 1) := by decide +kernel
theorem dX4_pairRests_3 : decode cX4_pairRests 3 = .ok (.iload_n 3, 1) := by decide +kernel
theorem dX4_pairRests_4 : decode cX4_pairRests 4 = .ok (.invokevirtual 79, 3) := by decide +kernel
theorem dX4_pairRests_7 : decode cX4_pairRests 7 = .ok (.istore 4, 2) := by decide +kernel
theorem dX4_pairRests_9 : decode cX4_pairRests 9 = .ok (.iload 4, 2) := by decide +kernel
theorem dX4_pairRests_11 : decode cX4_pairRests 11 = .ok (.iload_n 1, 1) := by decide +kernel
theorem dX4_pairRests_12 : decode cX4_pairRests 12 = .ok (.if_icmp .ne 20, 3) := by decide +kernel
theorem dX4_pairRests_15 : decode cX4_pairRests 15 = .ok (.aload_n 0, 1) := by decide +kernel
theorem dX4_pairRests_16 : decode cX4_pairRests 16 = .ok (.iload_n 1, 1) := by decide +kernel
theorem dX4_pairRests_17 : decode cX4_pairRests 17 = .ok (.iload_n 2, 1) := by decide +kernel
theorem dX4_pairRests_18 : decode cX4_pairRests 18 = .ok (.iload_n 3, 1) := by decide +kernel
theorem dX4_pairRests_19 : decode cX4_pairRests 19 = .ok (.iconst 1, 1) := by decide +kernel
theorem dX4_pairRests_20 : decode cX4_pairRests 20 = .ok (.ixor, 1) := by decide +kernel
theorem dX4_pairRests_21 : decode cX4_pairRests 21 = .ok (.invokevirtual 79, 3) := by decide +kernel
theorem dX4_pairRests_24 : decode cX4_pairRests 24 = .ok (.iload_n 1, 1) := by decide +kernel
theorem dX4_pairRests_25 : decode cX4_pairRests 25 = .ok (.if_icmp .eq 7, 3) := by decide +kernel
theorem dX4_pairRests_28 : decode cX4_pairRests 28 = .ok (.iconst 1, 1) := by decide +kernel
theorem dX4_pairRests_29 : decode cX4_pairRests 29 = .ok (.goto 4, 3) := by decide +kernel
theorem dX4_pairRests_32 : decode cX4_pairRests 32 = .ok (.iconst 0, 1) := by decide +kernel
theorem dX4_pairRests_33 : decode cX4_pairRests 33 = .ok (.istore 5, 2) := by decide +kernel
theorem dX4_pairRests_35 : decode cX4_pairRests 35 = .ok (.iload 4, 2) := by decide +kernel
theorem dX4_pairRests_37 : decode cX4_pairRests 37 = .ok (.iload_n 2, 1) := by decide +kernel
theorem dX4_pairRests_38 : decode cX4_pairRests 38 = .ok (.if_icmp .ne 20, 3) := by decide +kernel
theorem dX4_pairRests_41 : decode cX4_pairRests 41 = .ok (.aload_n 0, 1) := by decide +kernel
theorem dX4_pairRests_42 : decode cX4_pairRests 42 = .ok (.iload_n 1, 1) := by decide +kernel
theorem dX4_pairRests_43 : decode cX4_pairRests 43 = .ok (.iload_n 2, 1) := by decide +kernel
theorem dX4_pairRests_44 : decode cX4_pairRests 44 = .ok (.iload_n 3, 1) := by decide +kernel
theorem dX4_pairRests_45 : decode cX4_pairRests 45 = .ok (.iconst 2, 1) := by decide +kernel
theorem dX4_pairRests_46 : decode cX4_pairRests 46 = .ok (.ixor, 1) := by decide +kernel
theorem dX4_pairRests_47 : decode cX4_pairRests 47 = .ok (.invokevirtual 79, 3) := by decide +kernel
theorem dX4_pairRests_50 : decode cX4_pairRests 50 = .ok (.iload_n 2, 1) := by decide +kernel
theorem dX4_pairRests_51 : decode cX4_pairRests 51 = .ok (.if_icmp .eq 7, 3) := by decide +kernel
theorem dX4_pairRests_54 : decode cX4_pairRests 54 = .ok (.iconst 1, 1) := by decide +kernel
theorem dX4_pairRests_55 : decode cX4_pairRests 55 = .ok (.goto 4, 3) := by decide +kernel
theorem dX4_pairRests_58 : decode cX4_pairRests 58 = .ok (.iconst 0, 1) := by decide +kernel
theorem dX4_pairRests_59 : decode cX4_pairRests 59 = .ok (.istore 6, 2) := by decide +kernel
theorem dX4_pairRests_61 : decode cX4_pairRests 61 = .ok (.iload 5, 2) := by decide +kernel
theorem dX4_pairRests_63 : decode cX4_pairRests 63 = .ok (.ifCond .ne 12, 3) := by decide +kernel
theorem dX4_pairRests_66 : decode cX4_pairRests 66 = .ok (.iload 6, 2) := by decide +kernel
theorem dX4_pairRests_68 : decode cX4_pairRests 68 = .ok (.ifCond .ne 7, 3) := by decide +kernel
theorem dX4_pairRests_71 : decode cX4_pairRests 71 = .ok (.iconst 1, 1) := by decide +kernel
theorem dX4_pairRests_72 : decode cX4_pairRests 72 = .ok (.goto 4, 3) := by decide +kernel
theorem dX4_pairRests_75 : decode cX4_pairRests 75 = .ok (.iconst 0, 1) := by decide +kernel
theorem dX4_pairRests_76 : decode cX4_pairRests 76 = .ok (.ireturn, 1) := by decide +kernel
theorem dX4_steererByPair_0 : decode cX4_steererByPair 0 = .ok (.aload_n 0, 1) := by decide +kernel
theorem dX4_steererByPair_1 : decode cX4_steererByPair 1 = .ok (.getfield 35, 3) := by decide +kernel
theorem dX4_steererByPair_4 : decode cX4_steererByPair 4 = .ok (.iconst 1, 1) := by decide +kernel
theorem dX4_steererByPair_5 : decode cX4_steererByPair 5 = .ok (.iload_n 1, 1) := by decide +kernel
theorem dX4_steererByPair_6 : decode cX4_steererByPair 6 = .ok (.ishl, 1) := by decide +kernel
theorem dX4_steererByPair_7 : decode cX4_steererByPair 7 = .ok (.iconst (-1), 1) := by decide +kernel
theorem dX4_steererByPair_8 : decode cX4_steererByPair 8 = .ok (.ixor, 1) := by decide +kernel
theorem dX4_steererByPair_9 : decode cX4_steererByPair 9 = .ok (.iand, 1) := by decide +kernel
theorem dX4_steererByPair_10 : decode cX4_steererByPair 10 = .ok (.iconst 1, 1) := by decide +kernel
theorem dX4_steererByPair_11 : decode cX4_steererByPair 11 = .ok (.iload_n 2, 1) := by decide +kernel
theorem dX4_steererByPair_12 : decode cX4_steererByPair 12 = .ok (.ishl, 1) := by decide +kernel
theorem dX4_steererByPair_13 : decode cX4_steererByPair 13 = .ok (.iconst (-1), 1) := by decide +kernel
theorem dX4_steererByPair_14 : decode cX4_steererByPair 14 = .ok (.ixor, 1) := by decide +kernel
theorem dX4_steererByPair_15 : decode cX4_steererByPair 15 = .ok (.iand, 1) := by decide +kernel
theorem dX4_steererByPair_16 : decode cX4_steererByPair 16 = .ok (.istore 4, 2) := by decide +kernel
theorem dX4_steererByPair_18 : decode cX4_steererByPair 18 = .ok (.aload_n 0, 1) := by decide +kernel
theorem dX4_steererByPair_19 : decode cX4_steererByPair 19 = .ok (.iload 4, 2) := by decide +kernel
theorem dX4_steererByPair_21 : decode cX4_steererByPair 21 = .ok (.iload_n 3, 1) := by decide +kernel
theorem dX4_steererByPair_22 : decode cX4_steererByPair 22 = .ok (.iconst 1, 1) := by decide +kernel
theorem dX4_steererByPair_23 : decode cX4_steererByPair 23 = .ok (.iand, 1) := by decide +kernel
theorem dX4_steererByPair_24 : decode cX4_steererByPair 24 = .ok (.iload_n 1, 1) := by decide +kernel
theorem dX4_steererByPair_25 : decode cX4_steererByPair 25 = .ok (.ishl, 1) := by decide +kernel
theorem dX4_steererByPair_26 : decode cX4_steererByPair 26 = .ok (.ior, 1) := by decide +kernel
theorem dX4_steererByPair_27 : decode cX4_steererByPair 27 = .ok (.iload_n 3, 1) := by decide +kernel
theorem dX4_steererByPair_28 : decode cX4_steererByPair 28 = .ok (.iconst 1, 1) := by decide +kernel
theorem dX4_steererByPair_29 : decode cX4_steererByPair 29 = .ok (.ishr, 1) := by decide +kernel
theorem dX4_steererByPair_30 : decode cX4_steererByPair 30 = .ok (.iconst 1, 1) := by decide +kernel
theorem dX4_steererByPair_31 : decode cX4_steererByPair 31 = .ok (.iand, 1) := by decide +kernel
theorem dX4_steererByPair_32 : decode cX4_steererByPair 32 = .ok (.iload_n 2, 1) := by decide +kernel
theorem dX4_steererByPair_33 : decode cX4_steererByPair 33 = .ok (.ishl, 1) := by decide +kernel
theorem dX4_steererByPair_34 : decode cX4_steererByPair 34 = .ok (.ior, 1) := by decide +kernel
theorem dX4_steererByPair_35 : decode cX4_steererByPair 35 = .ok (.invokevirtual 82, 3) := by decide +kernel
theorem dX4_steererByPair_38 : decode cX4_steererByPair 38 = .ok (.ireturn, 1) := by decide +kernel
theorem dX5_init_0 : decode cX5_init 0 = .ok (.aload_n 0, 1) := by decide +kernel
theorem dX5_init_1 : decode cX5_init 1 = .ok (.invokespecial 1, 3) := by decide +kernel
theorem dX5_init_4 : decode cX5_init 4 = .ok (.return_, 1) := by decide +kernel
theorem dX5_sleepy_0 : decode cX5_sleepy 0 = .ok (.aload_n 0, 1) := by decide +kernel
theorem dX5_sleepy_1 : decode cX5_sleepy 1 = .ok (.iload_n 1, 1) := by decide +kernel
theorem dX5_sleepy_2 : decode cX5_sleepy 2 = .ok (.iload_n 2, 1) := by decide +kernel
theorem dX5_sleepy_3 : decode cX5_sleepy 3 = .ok (.iload_n 3, 1) := by decide +kernel
theorem dX5_sleepy_4 : decode cX5_sleepy 4 = .ok (.invokespecial 7, 3) := by decide +kernel
theorem dX5_sleepy_7 : decode cX5_sleepy 7 = .ok (.istore 4, 2) := by decide +kernel
theorem dX5_sleepy_9 : decode cX5_sleepy 9 = .ok (.iload_n 1, 1) := by decide +kernel
theorem dX5_sleepy_10 : decode cX5_sleepy 10 = .ok (.bipush 7, 2) := by decide +kernel
theorem dX5_sleepy_12 : decode cX5_sleepy 12 = .ok (.irem, 1) := by decide +kernel
theorem dX5_sleepy_13 : decode cX5_sleepy 13 = .ok (.iconst 3, 1) := by decide +kernel
theorem dX5_sleepy_14 : decode cX5_sleepy 14 = .ok (.if_icmp .ne 10, 3) := by decide +kernel
theorem dX5_sleepy_17 : decode cX5_sleepy 17 = .ok (.iload 4, 2) := by decide +kernel
theorem dX5_sleepy_19 : decode cX5_sleepy 19 = .ok (.iconst 5, 1) := by decide +kernel
theorem dX5_sleepy_20 : decode cX5_sleepy 20 = .ok (.iadd, 1) := by decide +kernel
theorem dX5_sleepy_21 : decode cX5_sleepy 21 = .ok (.goto 5, 3) := by decide +kernel
theorem dX5_sleepy_24 : decode cX5_sleepy 24 = .ok (.iload 4, 2) := by decide +kernel
theorem dX5_sleepy_26 : decode cX5_sleepy 26 = .ok (.ireturn, 1) := by decide +kernel
theorem dX6_init_0 : decode cX6_init 0 = .ok (.aload_n 0, 1) := by decide +kernel
theorem dX6_init_1 : decode cX6_init 1 = .ok (.invokespecial 3, 3) := by decide +kernel
theorem dX6_init_4 : decode cX6_init 4 = .ok (.aload_n 0, 1) := by decide +kernel
theorem dX6_init_5 : decode cX6_init 5 = .ok (.iconst 5, 1) := by decide +kernel
theorem dX6_init_6 : decode cX6_init 6 = .ok (.anewarray 9, 3) := by decide +kernel
theorem dX6_init_9 : decode cX6_init 9 = .ok (.putfield 11, 3) := by decide +kernel
theorem dX6_init_12 : decode cX6_init 12 = .ok (.aload_n 0, 1) := by decide +kernel
theorem dX6_init_13 : decode cX6_init 13 = .ok (.iconst 4, 1) := by decide +kernel
theorem dX6_init_14 : decode cX6_init 14 = .ok (.newarray .int, 2) := by decide +kernel
theorem dX6_init_16 : decode cX6_init 16 = .ok (.putfield 17, 3) := by decide +kernel
theorem dX6_init_19 : decode cX6_init 19 = .ok (.aload_n 0, 1) := by decide +kernel
theorem dX6_init_20 : decode cX6_init 20 = .ok (.iconst 4, 1) := by decide +kernel
theorem dX6_init_21 : decode cX6_init 21 = .ok (.newarray .int, 2) := by decide +kernel
theorem dX6_init_23 : decode cX6_init 23 = .ok (.putfield 21, 3) := by decide +kernel
theorem dX6_init_26 : decode cX6_init 26 = .ok (.iconst 0, 1) := by decide +kernel
theorem dX6_init_27 : decode cX6_init 27 = .ok (.istore_n 2, 1) := by decide +kernel
theorem dX6_init_28 : decode cX6_init 28 = .ok (.iload_n 2, 1) := by decide +kernel
theorem dX6_init_29 : decode cX6_init 29 = .ok (.iconst 4, 1) := by decide +kernel
theorem dX6_init_30 : decode cX6_init 30 = .ok (.if_icmp .gt 23, 3) := by decide +kernel
theorem dX6_init_33 : decode cX6_init 33 = .ok (.aload_n 0, 1) := by decide +kernel
theorem dX6_init_34 : decode cX6_init 34 = .ok (.getfield 11, 3) := by decide +kernel
theorem dX6_init_37 : decode cX6_init 37 = .ok (.iload_n 2, 1) := by decide +kernel
theorem dX6_init_38 : decode cX6_init 38 = .ok (.new 9, 3) := by decide +kernel
theorem dX6_init_41 : decode cX6_init 41 = .ok (.dup, 1) := by decide +kernel
theorem dX6_init_42 : decode cX6_init 42 = .ok (.aload_n 1, 1) := by decide +kernel
theorem dX6_init_43 : decode cX6_init 43 = .ok (.invokespecial 24, 3) := by decide +kernel
theorem dX6_init_46 : decode cX6_init 46 = .ok (.aastore, 1) := by decide +kernel
theorem dX6_init_47 : decode cX6_init 47 = .ok (.iinc 2 1, 3) := by decide +kernel
theorem dX6_init_50 : decode cX6_init 50 = .ok (.goto (-22), 3) := by decide +kernel
theorem dX6_init_53 : decode cX6_init 53 = .ok (.return_, 1) := by decide +kernel
theorem dX6_seek_0 : decode cX6_seek 0 = .ok (.aload_n 0, 1) := by decide +kernel
theorem dX6_seek_1 : decode cX6_seek 1 = .ok (.iload_n 2, 1) := by decide +kernel
theorem dX6_seek_2 : decode cX6_seek 2 = .ok (.putfield 27, 3) := by decide +kernel
theorem dX6_seek_5 : decode cX6_seek 5 = .ok (.aload_n 0, 1) := by decide +kernel
theorem dX6_seek_6 : decode cX6_seek 6 = .ok (.iload_n 3, 1) := by decide +kernel
theorem dX6_seek_7 : decode cX6_seek 7 = .ok (.iconst 4, 1) := by decide +kernel
theorem dX6_seek_8 : decode cX6_seek 8 = .ok (.invokestatic 31, 3) := by decide +kernel
theorem dX6_seek_11 : decode cX6_seek 11 = .ok (.putfield 37, 3) := by decide +kernel
theorem dX6_seek_14 : decode cX6_seek 14 = .ok (.aload_n 0, 1) := by decide +kernel
theorem dX6_seek_15 : decode cX6_seek 15 = .ok (.aload_n 0, 1) := by decide +kernel
theorem dX6_seek_16 : decode cX6_seek 16 = .ok (.getfield 37, 3) := by decide +kernel
theorem dX6_seek_19 : decode cX6_seek 19 = .ok (.iconst 1, 1) := by decide +kernel
theorem dX6_seek_20 : decode cX6_seek 20 = .ok (.iadd, 1) := by decide +kernel
theorem dX6_seek_21 : decode cX6_seek 21 = .ok (.putfield 40, 3) := by decide +kernel
theorem dX6_seek_24 : decode cX6_seek 24 = .ok (.aload_n 0, 1) := by decide +kernel
theorem dX6_seek_25 : decode cX6_seek 25 = .ok (.getfield 11, 3) := by decide +kernel
theorem dX6_seek_28 : decode cX6_seek 28 = .ok (.iconst 0, 1) := by decide +kernel
theorem dX6_seek_29 : decode cX6_seek 29 = .ok (.aaload, 1) := by decide +kernel
theorem dX6_seek_30 : decode cX6_seek 30 = .ok (.aload_n 1, 1) := by decide +kernel
theorem dX6_seek_31 : decode cX6_seek 31 = .ok (.invokevirtual 43, 3) := by decide +kernel
theorem dX6_seek_34 : decode cX6_seek 34 = .ok (.aload_n 0, 1) := by decide +kernel
theorem dX6_seek_35 : decode cX6_seek 35 = .ok (.iconst 0, 1) := by decide +kernel
theorem dX6_seek_36 : decode cX6_seek 36 = .ok (.iconst 0, 1) := by decide +kernel
theorem dX6_seek_37 : decode cX6_seek 37 = .ok (.invokevirtual 47, 3) := by decide +kernel
theorem dX6_seek_40 : decode cX6_seek 40 = .ok (.aload_n 0, 1) := by decide +kernel
theorem dX6_seek_41 : decode cX6_seek 41 = .ok (.getfield 40, 3) := by decide +kernel
theorem dX6_seek_44 : decode cX6_seek 44 = .ok (.aload_n 0, 1) := by decide +kernel
theorem dX6_seek_45 : decode cX6_seek 45 = .ok (.getfield 37, 3) := by decide +kernel
theorem dX6_seek_48 : decode cX6_seek 48 = .ok (.if_icmp .gt 7, 3) := by decide +kernel
theorem dX6_seek_51 : decode cX6_seek 51 = .ok (.iconst 1, 1) := by decide +kernel
theorem dX6_seek_52 : decode cX6_seek 52 = .ok (.goto 4, 3) := by decide +kernel
theorem dX6_seek_55 : decode cX6_seek 55 = .ok (.iconst 0, 1) := by decide +kernel
theorem dX6_seek_56 : decode cX6_seek 56 = .ok (.ireturn, 1) := by decide +kernel
theorem dX6_serve_0 : decode cX6_serve 0 = .ok (.aload_n 0, 1) := by decide +kernel
theorem dX6_serve_1 : decode cX6_serve 1 = .ok (.getfield 11, 3) := by decide +kernel
theorem dX6_serve_4 : decode cX6_serve 4 = .ok (.iload_n 1, 1) := by decide +kernel
theorem dX6_serve_5 : decode cX6_serve 5 = .ok (.aaload, 1) := by decide +kernel
theorem dX6_serve_6 : decode cX6_serve 6 = .ok (.astore_n 3, 1) := by decide +kernel
theorem dX6_serve_7 : decode cX6_serve 7 = .ok (.iload_n 2, 1) := by decide +kernel
theorem dX6_serve_8 : decode cX6_serve 8 = .ok (.aload_n 0, 1) := by decide +kernel
theorem dX6_serve_9 : decode cX6_serve 9 = .ok (.getfield 40, 3) := by decide +kernel
theorem dX6_serve_12 : decode cX6_serve 12 = .ok (.if_icmp .ge 26, 3) := by decide +kernel
theorem dX6_serve_15 : decode cX6_serve 15 = .ok (.aload_n 0, 1) := by decide +kernel
theorem dX6_serve_16 : decode cX6_serve 16 = .ok (.getfield 27, 3) := by decide +kernel
theorem dX6_serve_19 : decode cX6_serve 19 = .ok (.aload_n 3, 1) := by decide +kernel
theorem dX6_serve_20 : decode cX6_serve 20 = .ok (.getfield 51, 3) := by decide +kernel
theorem dX6_serve_23 : decode cX6_serve 23 = .ok (.isub, 1) := by decide +kernel
theorem dX6_serve_24 : decode cX6_serve 24 = .ok (.invokestatic 54, 3) := by decide +kernel
theorem dX6_serve_27 : decode cX6_serve 27 = .ok (.iconst 3, 1) := by decide +kernel
theorem dX6_serve_28 : decode cX6_serve 28 = .ok (.aload_n 0, 1) := by decide +kernel
theorem dX6_serve_29 : decode cX6_serve 29 = .ok (.getfield 37, 3) := by decide +kernel
theorem dX6_serve_32 : decode cX6_serve 32 = .ok (.iload_n 1, 1) := by decide +kernel
theorem dX6_serve_33 : decode cX6_serve 33 = .ok (.isub, 1) := by decide +kernel
theorem dX6_serve_34 : decode cX6_serve 34 = .ok (.imul, 1) := by decide +kernel
theorem dX6_serve_35 : decode cX6_serve 35 = .ok (.if_icmp .le 4, 3) := by decide +kernel
theorem dX6_serve_38 : decode cX6_serve 38 = .ok (.return_, 1) := by decide +kernel
theorem dX6_serve_39 : decode cX6_serve 39 = .ok (.iload_n 1, 1) := by decide +kernel
theorem dX6_serve_40 : decode cX6_serve 40 = .ok (.aload_n 0, 1) := by decide +kernel
theorem dX6_serve_41 : decode cX6_serve 41 = .ok (.getfield 37, 3) := by decide +kernel
theorem dX6_serve_44 : decode cX6_serve 44 = .ok (.if_icmp .lt 23, 3) := by decide +kernel
theorem dX6_serve_47 : decode cX6_serve 47 = .ok (.aload_n 0, 1) := by decide +kernel
theorem dX6_serve_48 : decode cX6_serve 48 = .ok (.iload_n 2, 1) := by decide +kernel
theorem dX6_serve_49 : decode cX6_serve 49 = .ok (.putfield 40, 3) := by decide +kernel
theorem dX6_serve_52 : decode cX6_serve 52 = .ok (.aload_n 0, 1) := by decide +kernel
theorem dX6_serve_53 : decode cX6_serve 53 = .ok (.getfield 17, 3) := by decide +kernel
theorem dX6_serve_56 : decode cX6_serve 56 = .ok (.iconst 0, 1) := by decide +kernel
theorem dX6_serve_57 : decode cX6_serve 57 = .ok (.aload_n 0, 1) := by decide +kernel
theorem dX6_serve_58 : decode cX6_serve 58 = .ok (.getfield 21, 3) := by decide +kernel
theorem dX6_serve_61 : decode cX6_serve 61 = .ok (.iconst 0, 1) := by decide +kernel
theorem dX6_serve_62 : decode cX6_serve 62 = .ok (.iconst 4, 1) := by decide +kernel
theorem dX6_serve_63 : decode cX6_serve 63 = .ok (.invokestatic 58, 3) := by decide +kernel
theorem dX6_serve_66 : decode cX6_serve 66 = .ok (.return_, 1) := by decide +kernel
theorem dX6_serve_67 : decode cX6_serve 67 = .ok (.aload_n 3, 1) := by decide +kernel
theorem dX6_serve_68 : decode cX6_serve 68 = .ok (.aload_n 3, 1) := by decide +kernel
theorem dX6_serve_69 : decode cX6_serve 69 = .ok (.getfield 64, 3) := by decide +kernel
theorem dX6_serve_72 : decode cX6_serve 72 = .ok (.invokevirtual 67, 3) := by decide +kernel
theorem dX6_serve_75 : decode cX6_serve 75 = .ok (.istore 4, 2) := by decide +kernel
theorem dX6_serve_77 : decode cX6_serve 77 = .ok (.aload_n 0, 1) := by decide +kernel
theorem dX6_serve_78 : decode cX6_serve 78 = .ok (.getfield 17, 3) := by decide +kernel
theorem dX6_serve_81 : decode cX6_serve 81 = .ok (.iload_n 1, 1) := by decide +kernel
theorem dX6_serve_82 : decode cX6_serve 82 = .ok (.bipush 6, 2) := by decide +kernel
theorem dX6_serve_84 : decode cX6_serve 84 = .ok (.iastore, 1) := by decide +kernel
theorem dX6_serve_85 : decode cX6_serve 85 = .ok (.aload_n 0, 1) := by decide +kernel
theorem dX6_serve_86 : decode cX6_serve 86 = .ok (.iload_n 1, 1) := by decide +kernel
theorem dX6_serve_87 : decode cX6_serve 87 = .ok (.iload 4, 2) := by decide +kernel
theorem dX6_serve_89 : decode cX6_serve 89 = .ok (.iload_n 2, 1) := by decide +kernel
theorem dX6_serve_90 : decode cX6_serve 90 = .ok (.invokevirtual 70, 3) := by decide +kernel
theorem dX6_serve_93 : decode cX6_serve 93 = .ok (.iconst 0, 1) := by decide +kernel
theorem dX6_serve_94 : decode cX6_serve 94 = .ok (.istore 5, 2) := by decide +kernel
theorem dX6_serve_96 : decode cX6_serve 96 = .ok (.iload 5, 2) := by decide +kernel
theorem dX6_serve_98 : decode cX6_serve 98 = .ok (.aload_n 3, 1) := by decide +kernel
theorem dX6_serve_99 : decode cX6_serve 99 = .ok (.getfield 74, 3) := by decide +kernel
theorem dX6_serve_102 : decode cX6_serve 102 = .ok (.if_icmp .ge 49, 3) := by decide +kernel
theorem dX6_serve_105 : decode cX6_serve 105 = .ok (.aload_n 3, 1) := by decide +kernel
theorem dX6_serve_106 : decode cX6_serve 106 = .ok (.aload_n 3, 1) := by decide +kernel
theorem dX6_serve_107 : decode cX6_serve 107 = .ok (.getfield 64, 3) := by decide +kernel
theorem dX6_serve_110 : decode cX6_serve 110 = .ok (.iconst 1, 1) := by decide +kernel
theorem dX6_serve_111 : decode cX6_serve 111 = .ok (.iload 5, 2) := by decide +kernel
theorem dX6_serve_113 : decode cX6_serve 113 = .ok (.ishl, 1) := by decide +kernel
theorem dX6_serve_114 : decode cX6_serve 114 = .ok (.ior, 1) := by decide +kernel
theorem dX6_serve_115 : decode cX6_serve 115 = .ok (.invokevirtual 67, 3) := by decide +kernel
theorem dX6_serve_118 : decode cX6_serve 118 = .ok (.istore 6, 2) := by decide +kernel
theorem dX6_serve_120 : decode cX6_serve 120 = .ok (.iload 6, 2) := by decide +kernel
theorem dX6_serve_122 : decode cX6_serve 122 = .ok (.iload 4, 2) := by decide +kernel
theorem dX6_serve_124 : decode cX6_serve 124 = .ok (.if_icmp .eq 21, 3) := by decide +kernel
theorem dX6_serve_127 : decode cX6_serve 127 = .ok (.aload_n 0, 1) := by decide +kernel
theorem dX6_serve_128 : decode cX6_serve 128 = .ok (.getfield 17, 3) := by decide +kernel
theorem dX6_serve_131 : decode cX6_serve 131 = .ok (.iload_n 1, 1) := by decide +kernel
theorem dX6_serve_132 : decode cX6_serve 132 = .ok (.iload 5, 2) := by decide +kernel
theorem dX6_serve_134 : decode cX6_serve 134 = .ok (.iastore, 1) := by decide +kernel
theorem dX6_serve_135 : decode cX6_serve 135 = .ok (.aload_n 0, 1) := by decide +kernel
theorem dX6_serve_136 : decode cX6_serve 136 = .ok (.iload_n 1, 1) := by decide +kernel
theorem dX6_serve_137 : decode cX6_serve 137 = .ok (.iload 6, 2) := by decide +kernel
theorem dX6_serve_139 : decode cX6_serve 139 = .ok (.iload_n 2, 1) := by decide +kernel
theorem dX6_serve_140 : decode cX6_serve 140 = .ok (.iconst 1, 1) := by decide +kernel
theorem dX6_serve_141 : decode cX6_serve 141 = .ok (.iadd, 1) := by decide +kernel
theorem dX6_serve_142 : decode cX6_serve 142 = .ok (.invokevirtual 70, 3) := by decide +kernel
theorem dX6_serve_145 : decode cX6_serve 145 = .ok (.iinc 5 1, 3) := by decide +kernel
theorem dX6_serve_148 : decode cX6_serve 148 = .ok (.goto (-52), 3) := by decide +kernel
theorem dX6_serve_151 : decode cX6_serve 151 = .ok (.return_, 1) := by decide +kernel
theorem dX6_goOn_0 : decode cX6_goOn 0 = .ok (.aload_n 0, 1) := by decide +kernel
theorem dX6_goOn_1 : decode cX6_goOn 1 = .ok (.getfield 11, 3) := by decide +kernel
theorem dX6_goOn_4 : decode cX6_goOn 4 = .ok (.iload_n 1, 1) := by decide +kernel
theorem dX6_goOn_5 : decode cX6_goOn 5 = .ok (.iconst 1, 1) := by decide +kernel
theorem dX6_goOn_6 : decode cX6_goOn 6 = .ok (.iadd, 1) := by decide +kernel
theorem dX6_goOn_7 : decode cX6_goOn 7 = .ok (.aaload, 1) := by decide +kernel
theorem dX6_goOn_8 : decode cX6_goOn 8 = .ok (.aload_n 0, 1) := by decide +kernel
theorem dX6_goOn_9 : decode cX6_goOn 9 = .ok (.getfield 11, 3) := by decide +kernel
theorem dX6_goOn_12 : decode cX6_goOn 12 = .ok (.iload_n 1, 1) := by decide +kernel
theorem dX6_goOn_13 : decode cX6_goOn 13 = .ok (.aaload, 1) := by decide +kernel
theorem dX6_goOn_14 : decode cX6_goOn 14 = .ok (.invokevirtual 43, 3) := by decide +kernel
theorem dX6_goOn_17 : decode cX6_goOn 17 = .ok (.aload_n 0, 1) := by decide +kernel
theorem dX6_goOn_18 : decode cX6_goOn 18 = .ok (.getfield 11, 3) := by decide +kernel
theorem dX6_goOn_21 : decode cX6_goOn 21 = .ok (.iload_n 1, 1) := by decide +kernel
theorem dX6_goOn_22 : decode cX6_goOn 22 = .ok (.iconst 1, 1) := by decide +kernel
theorem dX6_goOn_23 : decode cX6_goOn 23 = .ok (.iadd, 1) := by decide +kernel
theorem dX6_goOn_24 : decode cX6_goOn 24 = .ok (.aaload, 1) := by decide +kernel
theorem dX6_goOn_25 : decode cX6_goOn 25 = .ok (.iload_n 2, 1) := by decide +kernel
theorem dX6_goOn_26 : decode cX6_goOn 26 = .ok (.invokevirtual 77, 3) := by decide +kernel
theorem dX6_goOn_29 : decode cX6_goOn 29 = .ok (.aload_n 0, 1) := by decide +kernel
theorem dX6_goOn_30 : decode cX6_goOn 30 = .ok (.iload_n 1, 1) := by decide +kernel
theorem dX6_goOn_31 : decode cX6_goOn 31 = .ok (.iconst 1, 1) := by decide +kernel
theorem dX6_goOn_32 : decode cX6_goOn 32 = .ok (.iadd, 1) := by decide +kernel
theorem dX6_goOn_33 : decode cX6_goOn 33 = .ok (.iload_n 3, 1) := by decide +kernel
theorem dX6_goOn_34 : decode cX6_goOn 34 = .ok (.invokevirtual 47, 3) := by decide +kernel
theorem dX6_goOn_37 : decode cX6_goOn 37 = .ok (.return_, 1) := by decide +kernel
theorem dX7_init_0 : decode cX7_init 0 = .ok (.aload_n 0, 1) := by decide +kernel
theorem dX7_init_1 : decode cX7_init 1 = .ok (.invokespecial 1, 3) := by decide +kernel
theorem dX7_init_4 : decode cX7_init 4 = .ok (.return_, 1) := by decide +kernel
theorem dX7_sleepy_0 : decode cX7_sleepy 0 = .ok (.iload_n 3, 1) := by decide +kernel
theorem dX7_sleepy_1 : decode cX7_sleepy 1 = .ok (.ireturn, 1) := by decide +kernel
theorem dX7_tires_0 : decode cX7_tires 0 = .ok (.iconst 1, 1) := by decide +kernel
theorem dX7_tires_1 : decode cX7_tires 1 = .ok (.ireturn, 1) := by decide +kernel
theorem dX8_init_0 : decode cX8_init 0 = .ok (.aload_n 0, 1) := by decide +kernel
theorem dX8_init_1 : decode cX8_init 1 = .ok (.invokespecial 1, 3) := by decide +kernel
theorem dX8_init_4 : decode cX8_init 4 = .ok (.return_, 1) := by decide +kernel
theorem dX8_sleepy_0 : decode cX8_sleepy 0 = .ok (.aload_n 0, 1) := by decide +kernel
theorem dX8_sleepy_1 : decode cX8_sleepy 1 = .ok (.iload_n 1, 1) := by decide +kernel
theorem dX8_sleepy_2 : decode cX8_sleepy 2 = .ok (.iload_n 2, 1) := by decide +kernel
theorem dX8_sleepy_3 : decode cX8_sleepy 3 = .ok (.iload_n 3, 1) := by decide +kernel
theorem dX8_sleepy_4 : decode cX8_sleepy 4 = .ok (.invokespecial 7, 3) := by decide +kernel
theorem dX8_sleepy_7 : decode cX8_sleepy 7 = .ok (.istore 4, 2) := by decide +kernel
theorem dX8_sleepy_9 : decode cX8_sleepy 9 = .ok (.iload_n 2, 1) := by decide +kernel
theorem dX8_sleepy_10 : decode cX8_sleepy 10 = .ok (.ifCond .eq 8, 3) := by decide +kernel
theorem dX8_sleepy_13 : decode cX8_sleepy 13 = .ok (.iload 4, 2) := by decide +kernel
theorem dX8_sleepy_15 : decode cX8_sleepy 15 = .ok (.goto 7, 3) := by decide +kernel
theorem dX8_sleepy_18 : decode cX8_sleepy 18 = .ok (.iload 4, 2) := by decide +kernel
theorem dX8_sleepy_20 : decode cX8_sleepy 20 = .ok (.iconst 2, 1) := by decide +kernel
theorem dX8_sleepy_21 : decode cX8_sleepy 21 = .ok (.idiv, 1) := by decide +kernel
theorem dX8_sleepy_22 : decode cX8_sleepy 22 = .ok (.ireturn, 1) := by decide +kernel
theorem dX8_tires_0 : decode cX8_tires 0 = .ok (.aload_n 0, 1) := by decide +kernel
theorem dX8_tires_1 : decode cX8_tires 1 = .ok (.invokespecial 11, 3) := by decide +kernel
theorem dX8_tires_4 : decode cX8_tires 4 = .ok (.iconst 1, 1) := by decide +kernel
theorem dX8_tires_5 : decode cX8_tires 5 = .ok (.iadd, 1) := by decide +kernel
theorem dX8_tires_6 : decode cX8_tires 6 = .ok (.ireturn, 1) := by decide +kernel
theorem dX9_init_0 : decode cX9_init 0 = .ok (.aload_n 0, 1) := by decide +kernel
theorem dX9_init_1 : decode cX9_init 1 = .ok (.invokespecial 3, 3) := by decide +kernel
theorem dX9_init_4 : decode cX9_init 4 = .ok (.aload_n 0, 1) := by decide +kernel
theorem dX9_init_5 : decode cX9_init 5 = .ok (.sipush 150, 3) := by decide +kernel
theorem dX9_init_8 : decode cX9_init 8 = .ok (.newarray .int, 2) := by decide +kernel
theorem dX9_init_10 : decode cX9_init 10 = .ok (.putfield 9, 3) := by decide +kernel
theorem dX9_init_13 : decode cX9_init 13 = .ok (.return_, 1) := by decide +kernel
theorem dX9_append_0 : decode cX9_append 0 = .ok (.aload_n 0, 1) := by decide +kernel
theorem dX9_append_1 : decode cX9_append 1 = .ok (.getfield 15, 3) := by decide +kernel
theorem dX9_append_4 : decode cX9_append 4 = .ok (.sipush 150, 3) := by decide +kernel
theorem dX9_append_7 : decode cX9_append 7 = .ok (.if_icmp .ge 23, 3) := by decide +kernel
theorem dX9_append_10 : decode cX9_append 10 = .ok (.aload_n 0, 1) := by decide +kernel
theorem dX9_append_11 : decode cX9_append 11 = .ok (.getfield 9, 3) := by decide +kernel
theorem dX9_append_14 : decode cX9_append 14 = .ok (.aload_n 0, 1) := by decide +kernel
theorem dX9_append_15 : decode cX9_append 15 = .ok (.getfield 15, 3) := by decide +kernel
theorem dX9_append_18 : decode cX9_append 18 = .ok (.iload_n 1, 1) := by decide +kernel
theorem dX9_append_19 : decode cX9_append 19 = .ok (.iastore, 1) := by decide +kernel
theorem dX9_append_20 : decode cX9_append 20 = .ok (.aload_n 0, 1) := by decide +kernel
theorem dX9_append_21 : decode cX9_append 21 = .ok (.dup, 1) := by decide +kernel
theorem dX9_append_22 : decode cX9_append 22 = .ok (.getfield 15, 3) := by decide +kernel
theorem dX9_append_25 : decode cX9_append 25 = .ok (.iconst 1, 1) := by decide +kernel
theorem dX9_append_26 : decode cX9_append 26 = .ok (.iadd, 1) := by decide +kernel
theorem dX9_append_27 : decode cX9_append 27 = .ok (.putfield 15, 3) := by decide +kernel
theorem dX9_append_30 : decode cX9_append 30 = .ok (.return_, 1) := by decide +kernel
theorem dX9_parse_0 : decode cX9_parse 0 = .ok (.aload_n 1, 1) := by decide +kernel
theorem dX9_parse_1 : decode cX9_parse 1 = .ok (.invokevirtual 19, 3) := by decide +kernel
theorem dX9_parse_4 : decode cX9_parse 4 = .ok (.aload_n 0, 1) := by decide +kernel
theorem dX9_parse_5 : decode cX9_parse 5 = .ok (.iconst (-1), 1) := by decide +kernel
theorem dX9_parse_6 : decode cX9_parse 6 = .ok (.putfield 24, 3) := by decide +kernel
theorem dX9_parse_9 : decode cX9_parse 9 = .ok (.aload_n 0, 1) := by decide +kernel
theorem dX9_parse_10 : decode cX9_parse 10 = .ok (.iconst 0, 1) := by decide +kernel
theorem dX9_parse_11 : decode cX9_parse 11 = .ok (.putfield 27, 3) := by decide +kernel
theorem dX9_parse_14 : decode cX9_parse 14 = .ok (.aload_n 0, 1) := by decide +kernel
theorem dX9_parse_15 : decode cX9_parse 15 = .ok (.invokevirtual 30, 3) := by decide +kernel
theorem dX9_parse_18 : decode cX9_parse 18 = .ok (.aload_n 0, 1) := by decide +kernel
theorem dX9_parse_19 : decode cX9_parse 19 = .ok (.ldc 33, 2) := by decide +kernel
theorem dX9_parse_21 : decode cX9_parse 21 = .ok (.invokevirtual 35, 3) := by decide +kernel
theorem dX9_parse_24 : decode cX9_parse 24 = .ok (.ifCond .eq 14, 3) := by decide +kernel
theorem dX9_parse_27 : decode cX9_parse 27 = .ok (.aload_n 0, 1) := by decide +kernel
theorem dX9_parse_28 : decode cX9_parse 28 = .ok (.invokevirtual 30, 3) := by decide +kernel
theorem dX9_parse_31 : decode cX9_parse 31 = .ok (.aload_n 0, 1) := by decide +kernel
theorem dX9_parse_32 : decode cX9_parse 32 = .ok (.invokevirtual 39, 3) := by decide +kernel
theorem dX9_parse_35 : decode cX9_parse 35 = .ok (.goto 7, 3) := by decide +kernel
theorem dX9_parse_38 : decode cX9_parse 38 = .ok (.aload_n 0, 1) := by decide +kernel
theorem dX9_parse_39 : decode cX9_parse 39 = .ok (.invokevirtual 42, 3) := by decide +kernel
theorem dX9_parse_42 : decode cX9_parse 42 = .ok (.iconst 1, 1) := by decide +kernel
theorem dX9_parse_43 : decode cX9_parse 43 = .ok (.istore_n 2, 1) := by decide +kernel
theorem dX9_parse_44 : decode cX9_parse 44 = .ok (.iload_n 2, 1) := by decide +kernel
theorem dX9_parse_45 : decode cX9_parse 45 = .ok (.sipush 150, 3) := by decide +kernel
theorem dX9_parse_48 : decode cX9_parse 48 = .ok (.if_icmp .ge 33, 3) := by decide +kernel
theorem dX9_parse_51 : decode cX9_parse 51 = .ok (.aload_n 0, 1) := by decide +kernel
theorem dX9_parse_52 : decode cX9_parse 52 = .ok (.getfield 24, 3) := by decide +kernel
theorem dX9_parse_55 : decode cX9_parse 55 = .ok (.iconst (-1), 1) := by decide +kernel
theorem dX9_parse_56 : decode cX9_parse 56 = .ok (.if_icmp .ne 25, 3) := by decide +kernel
theorem dX9_parse_59 : decode cX9_parse 59 = .ok (.aload_n 0, 1) := by decide +kernel
theorem dX9_parse_60 : decode cX9_parse 60 = .ok (.getfield 45, 3) := by decide +kernel
theorem dX9_parse_63 : decode cX9_parse 63 = .ok (.ifCond .eq 18, 3) := by decide +kernel
theorem dX9_parse_66 : decode cX9_parse 66 = .ok (.aload_n 0, 1) := by decide +kernel
theorem dX9_parse_67 : decode cX9_parse 67 = .ok (.aload_n 1, 1) := by decide +kernel
theorem dX9_parse_68 : decode cX9_parse 68 = .ok (.invokevirtual 48, 3) := by decide +kernel
theorem dX9_parse_71 : decode cX9_parse 71 = .ok (.aload_n 0, 1) := by decide +kernel
theorem dX9_parse_72 : decode cX9_parse 72 = .ok (.invokevirtual 39, 3) := by decide +kernel
theorem dX9_parse_75 : decode cX9_parse 75 = .ok (.iinc 2 1, 3) := by decide +kernel
theorem dX9_parse_78 : decode cX9_parse 78 = .ok (.goto (-34), 3) := by decide +kernel
theorem dX9_parse_81 : decode cX9_parse 81 = .ok (.iload_n 2, 1) := by decide +kernel
theorem dX9_parse_82 : decode cX9_parse 82 = .ok (.ireturn, 1) := by decide +kernel
theorem dX9_parseItem_0 : decode cX9_parseItem 0 = .ok (.aload_n 0, 1) := by decide +kernel
theorem dX9_parseItem_1 : decode cX9_parseItem 1 = .ok (.ldc 52, 2) := by decide +kernel
theorem dX9_parseItem_3 : decode cX9_parseItem 3 = .ok (.invokevirtual 35, 3) := by decide +kernel
theorem dX9_parseItem_6 : decode cX9_parseItem 6 = .ok (.ifCond .eq 12, 3) := by decide +kernel
theorem dX9_parseItem_9 : decode cX9_parseItem 9 = .ok (.aload_n 0, 1) := by decide +kernel
theorem dX9_parseItem_10 : decode cX9_parseItem 10 = .ok (.aload_n 1, 1) := by decide +kernel
theorem dX9_parseItem_11 : decode cX9_parseItem 11 = .ok (.iconst 1, 1) := by decide +kernel
theorem dX9_parseItem_12 : decode cX9_parseItem 12 = .ok (.invokevirtual 54, 3) := by decide +kernel
theorem dX9_parseItem_15 : decode cX9_parseItem 15 = .ok (.goto 61, 3) := by decide +kernel
theorem dX9_parseItem_18 : decode cX9_parseItem 18 = .ok (.aload_n 0, 1) := by decide +kernel
theorem dX9_parseItem_19 : decode cX9_parseItem 19 = .ok (.ldc 58, 2) := by decide +kernel
theorem dX9_parseItem_21 : decode cX9_parseItem 21 = .ok (.invokevirtual 35, 3) := by decide +kernel
theorem dX9_parseItem_24 : decode cX9_parseItem 24 = .ok (.ifCond .eq 12, 3) := by decide +kernel
theorem dX9_parseItem_27 : decode cX9_parseItem 27 = .ok (.aload_n 0, 1) := by decide +kernel
theorem dX9_parseItem_28 : decode cX9_parseItem 28 = .ok (.aload_n 1, 1) := by decide +kernel
theorem dX9_parseItem_29 : decode cX9_parseItem 29 = .ok (.iconst (-1), 1) := by decide +kernel
theorem dX9_parseItem_30 : decode cX9_parseItem 30 = .ok (.invokevirtual 54, 3) := by decide +kernel
theorem dX9_parseItem_33 : decode cX9_parseItem 33 = .ok (.goto 43, 3) := by decide +kernel
theorem dX9_parseItem_36 : decode cX9_parseItem 36 = .ok (.aload_n 0, 1) := by decide +kernel
theorem dX9_parseItem_37 : decode cX9_parseItem 37 = .ok (.ldc 60, 2) := by decide +kernel
theorem dX9_parseItem_39 : decode cX9_parseItem 39 = .ok (.invokevirtual 35, 3) := by decide +kernel
theorem dX9_parseItem_42 : decode cX9_parseItem 42 = .ok (.ifCond .eq 12, 3) := by decide +kernel
theorem dX9_parseItem_45 : decode cX9_parseItem 45 = .ok (.aload_n 0, 1) := by decide +kernel
theorem dX9_parseItem_46 : decode cX9_parseItem 46 = .ok (.aload_n 1, 1) := by decide +kernel
theorem dX9_parseItem_47 : decode cX9_parseItem 47 = .ok (.iconst 1, 1) := by decide +kernel
theorem dX9_parseItem_48 : decode cX9_parseItem 48 = .ok (.invokevirtual 62, 3) := by decide +kernel
theorem dX9_parseItem_51 : decode cX9_parseItem 51 = .ok (.goto 25, 3) := by decide +kernel
theorem dX9_parseItem_54 : decode cX9_parseItem 54 = .ok (.aload_n 0, 1) := by decide +kernel
theorem dX9_parseItem_55 : decode cX9_parseItem 55 = .ok (.ldc 65, 2) := by decide +kernel
theorem dX9_parseItem_57 : decode cX9_parseItem 57 = .ok (.invokevirtual 35, 3) := by decide +kernel
theorem dX9_parseItem_60 : decode cX9_parseItem 60 = .ok (.ifCond .eq 12, 3) := by decide +kernel
theorem dX9_parseItem_63 : decode cX9_parseItem 63 = .ok (.aload_n 0, 1) := by decide +kernel
theorem dX9_parseItem_64 : decode cX9_parseItem 64 = .ok (.aload_n 1, 1) := by decide +kernel
theorem dX9_parseItem_65 : decode cX9_parseItem 65 = .ok (.iconst (-1), 1) := by decide +kernel
theorem dX9_parseItem_66 : decode cX9_parseItem 66 = .ok (.invokevirtual 62, 3) := by decide +kernel
theorem dX9_parseItem_69 : decode cX9_parseItem 69 = .ok (.goto 7, 3) := by decide +kernel
theorem dX9_parseItem_72 : decode cX9_parseItem 72 = .ok (.aload_n 0, 1) := by decide +kernel
theorem dX9_parseItem_73 : decode cX9_parseItem 73 = .ok (.invokevirtual 42, 3) := by decide +kernel
theorem dX9_parseItem_76 : decode cX9_parseItem 76 = .ok (.return_, 1) := by decide +kernel
theorem dX9_parseRock_0 : decode cX9_parseRock 0 = .ok (.aload_n 1, 1) := by decide +kernel
theorem dX9_parseRock_1 : decode cX9_parseRock 1 = .ok (.getfield 67, 3) := by decide +kernel
theorem dX9_parseRock_4 : decode cX9_parseRock 4 = .ok (.bipush 6, 2) := by decide +kernel
theorem dX9_parseRock_6 : decode cX9_parseRock 6 = .ok (.if_icmp .lt 8, 3) := by decide +kernel
theorem dX9_parseRock_9 : decode cX9_parseRock 9 = .ok (.aload_n 0, 1) := by decide +kernel
theorem dX9_parseRock_10 : decode cX9_parseRock 10 = .ok (.invokevirtual 42, 3) := by decide +kernel
theorem dX9_parseRock_13 : decode cX9_parseRock 13 = .ok (.return_, 1) := by decide +kernel
theorem dX9_parseRock_14 : decode cX9_parseRock 14 = .ok (.aload_n 0, 1) := by decide +kernel
theorem dX9_parseRock_15 : decode cX9_parseRock 15 = .ok (.invokevirtual 30, 3) := by decide +kernel
theorem dX9_parseRock_18 : decode cX9_parseRock 18 = .ok (.iload_n 2, 1) := by decide +kernel
theorem dX9_parseRock_19 : decode cX9_parseRock 19 = .ok (.aload_n 0, 1) := by decide +kernel
theorem dX9_parseRock_20 : decode cX9_parseRock 20 = .ok (.getfield 70, 3) := by decide +kernel
theorem dX9_parseRock_23 : decode cX9_parseRock 23 = .ok (.imul, 1) := by decide +kernel
theorem dX9_parseRock_24 : decode cX9_parseRock 24 = .ok (.istore_n 3, 1) := by decide +kernel
theorem dX9_parseRock_25 : decode cX9_parseRock 25 = .ok (.aload_n 0, 1) := by decide +kernel
theorem dX9_parseRock_26 : decode cX9_parseRock 26 = .ok (.bipush 60, 2) := by decide +kernel
theorem dX9_parseRock_28 : decode cX9_parseRock 28 = .ok (.invokevirtual 73, 3) := by decide +kernel
theorem dX9_parseRock_31 : decode cX9_parseRock 31 = .ok (.ifCond .eq 11, 3) := by decide +kernel
theorem dX9_parseRock_34 : decode cX9_parseRock 34 = .ok (.aload_n 1, 1) := by decide +kernel
theorem dX9_parseRock_35 : decode cX9_parseRock 35 = .ok (.iload_n 3, 1) := by decide +kernel
theorem dX9_parseRock_36 : decode cX9_parseRock 36 = .ok (.invokevirtual 77, 3) := by decide +kernel
theorem dX9_parseRock_39 : decode cX9_parseRock 39 = .ok (.ifCond .eq 8, 3) := by decide +kernel
theorem dX9_parseRock_42 : decode cX9_parseRock 42 = .ok (.aload_n 0, 1) := by decide +kernel
theorem dX9_parseRock_43 : decode cX9_parseRock 43 = .ok (.invokevirtual 42, 3) := by decide +kernel
theorem dX9_parseRock_46 : decode cX9_parseRock 46 = .ok (.return_, 1) := by decide +kernel
theorem dX9_parseRock_47 : decode cX9_parseRock 47 = .ok (.aload_n 0, 1) := by decide +kernel
theorem dX9_parseRock_48 : decode cX9_parseRock 48 = .ok (.invokevirtual 30, 3) := by decide +kernel
theorem dX9_parseRock_51 : decode cX9_parseRock 51 = .ok (.aload_n 1, 1) := by decide +kernel
theorem dX9_parseRock_52 : decode cX9_parseRock 52 = .ok (.iload_n 3, 1) := by decide +kernel
theorem dX9_parseRock_53 : decode cX9_parseRock 53 = .ok (.invokevirtual 80, 3) := by decide +kernel
theorem dX9_parseRock_56 : decode cX9_parseRock 56 = .ok (.return_, 1) := by decide +kernel
theorem dX9_parseHand_0 : decode cX9_parseHand 0 = .ok (.aload_n 1, 1) := by decide +kernel
theorem dX9_parseHand_1 : decode cX9_parseHand 1 = .ok (.getfield 84, 3) := by decide +kernel
theorem dX9_parseHand_4 : decode cX9_parseHand 4 = .ok (.getfield 88, 3) := by decide +kernel
theorem dX9_parseHand_7 : decode cX9_parseHand 7 = .ok (.bipush 6, 2) := by decide +kernel
theorem dX9_parseHand_9 : decode cX9_parseHand 9 = .ok (.if_icmp .lt 8, 3) := by decide +kernel
theorem dX9_parseHand_12 : decode cX9_parseHand 12 = .ok (.aload_n 0, 1) := by decide +kernel
theorem dX9_parseHand_13 : decode cX9_parseHand 13 = .ok (.invokevirtual 42, 3) := by decide +kernel
theorem dX9_parseHand_16 : decode cX9_parseHand 16 = .ok (.return_, 1) := by decide +kernel
theorem dX9_parseHand_17 : decode cX9_parseHand 17 = .ok (.aload_n 0, 1) := by decide +kernel
theorem dX9_parseHand_18 : decode cX9_parseHand 18 = .ok (.invokevirtual 30, 3) := by decide +kernel
theorem dX9_parseHand_21 : decode cX9_parseHand 21 = .ok (.aload_n 0, 1) := by decide +kernel
theorem dX9_parseHand_22 : decode cX9_parseHand 22 = .ok (.iconst 5, 1) := by decide +kernel
theorem dX9_parseHand_23 : decode cX9_parseHand 23 = .ok (.invokevirtual 93, 3) := by decide +kernel
theorem dX9_parseHand_26 : decode cX9_parseHand 26 = .ok (.istore_n 3, 1) := by decide +kernel
theorem dX9_parseHand_27 : decode cX9_parseHand 27 = .ok (.aload_n 0, 1) := by decide +kernel
theorem dX9_parseHand_28 : decode cX9_parseHand 28 = .ok (.bipush 40, 2) := by decide +kernel
theorem dX9_parseHand_30 : decode cX9_parseHand 30 = .ok (.invokevirtual 93, 3) := by decide +kernel
theorem dX9_parseHand_33 : decode cX9_parseHand 33 = .ok (.istore 4, 2) := by decide +kernel
theorem dX9_parseHand_35 : decode cX9_parseHand 35 = .ok (.iload_n 2, 1) := by decide +kernel
theorem dX9_parseHand_36 : decode cX9_parseHand 36 = .ok (.aload_n 0, 1) := by decide +kernel
theorem dX9_parseHand_37 : decode cX9_parseHand 37 = .ok (.iconst 3, 1) := by decide +kernel
theorem dX9_parseHand_38 : decode cX9_parseHand 38 = .ok (.invokevirtual 93, 3) := by decide +kernel
theorem dX9_parseHand_41 : decode cX9_parseHand 41 = .ok (.imul, 1) := by decide +kernel
theorem dX9_parseHand_42 : decode cX9_parseHand 42 = .ok (.istore 5, 2) := by decide +kernel
theorem dX9_parseHand_44 : decode cX9_parseHand 44 = .ok (.aload_n 0, 1) := by decide +kernel
theorem dX9_parseHand_45 : decode cX9_parseHand 45 = .ok (.getfield 24, 3) := by decide +kernel
theorem dX9_parseHand_48 : decode cX9_parseHand 48 = .ok (.iconst (-1), 1) := by decide +kernel
theorem dX9_parseHand_49 : decode cX9_parseHand 49 = .ok (.if_icmp .ne 12, 3) := by decide +kernel
theorem dX9_parseHand_52 : decode cX9_parseHand 52 = .ok (.aload_n 1, 1) := by decide +kernel
theorem dX9_parseHand_53 : decode cX9_parseHand 53 = .ok (.iload_n 3, 1) := by decide +kernel
theorem dX9_parseHand_54 : decode cX9_parseHand 54 = .ok (.iload 4, 2) := by decide +kernel
theorem dX9_parseHand_56 : decode cX9_parseHand 56 = .ok (.iload 5, 2) := by decide +kernel
theorem dX9_parseHand_58 : decode cX9_parseHand 58 = .ok (.invokevirtual 97, 3) := by decide +kernel
theorem dX9_parseHand_61 : decode cX9_parseHand 61 = .ok (.return_, 1) := by decide +kernel
theorem dX9_takeNumberUpTo_0 : decode cX9_takeNumberUpTo 0 = .ok (.aload_n 0, 1) := by decide +kernel
theorem dX9_takeNumberUpTo_1 : decode cX9_takeNumberUpTo 1 = .ok (.getfield 70, 3) := by decide +kernel
theorem dX9_takeNumberUpTo_4 : decode cX9_takeNumberUpTo 4 = .ok (.istore_n 2, 1) := by decide +kernel
theorem dX9_takeNumberUpTo_5 : decode cX9_takeNumberUpTo 5 = .ok (.aload_n 0, 1) := by decide +kernel
theorem dX9_takeNumberUpTo_6 : decode cX9_takeNumberUpTo 6 = .ok (.iload_n 1, 1) := by decide +kernel
theorem dX9_takeNumberUpTo_7 : decode cX9_takeNumberUpTo 7 = .ok (.invokevirtual 73, 3) := by decide +kernel
theorem dX9_takeNumberUpTo_10 : decode cX9_takeNumberUpTo 10 = .ok (.ifCond .eq 10, 3) := by decide +kernel
theorem dX9_takeNumberUpTo_13 : decode cX9_takeNumberUpTo 13 = .ok (.aload_n 0, 1) := by decide +kernel
theorem dX9_takeNumberUpTo_14 : decode cX9_takeNumberUpTo 14 = .ok (.invokevirtual 30, 3) := by decide +kernel
theorem dX9_takeNumberUpTo_17 : decode cX9_takeNumberUpTo 17 = .ok (.goto 7, 3) := by decide +kernel
theorem dX9_takeNumberUpTo_20 : decode cX9_takeNumberUpTo 20 = .ok (.aload_n 0, 1) := by decide +kernel
theorem dX9_takeNumberUpTo_21 : decode cX9_takeNumberUpTo 21 = .ok (.invokevirtual 42, 3) := by decide +kernel
theorem dX9_takeNumberUpTo_24 : decode cX9_takeNumberUpTo 24 = .ok (.iload_n 2, 1) := by decide +kernel
theorem dX9_takeNumberUpTo_25 : decode cX9_takeNumberUpTo 25 = .ok (.ireturn, 1) := by decide +kernel
theorem dX9_expectStop_0 : decode cX9_expectStop 0 = .ok (.aload_n 0, 1) := by decide +kernel
theorem dX9_expectStop_1 : decode cX9_expectStop 1 = .ok (.getfield 45, 3) := by decide +kernel
theorem dX9_expectStop_4 : decode cX9_expectStop 4 = .ok (.iconst 3, 1) := by decide +kernel
theorem dX9_expectStop_5 : decode cX9_expectStop 5 = .ok (.if_icmp .ne 10, 3) := by decide +kernel
theorem dX9_expectStop_8 : decode cX9_expectStop 8 = .ok (.aload_n 0, 1) := by decide +kernel
theorem dX9_expectStop_9 : decode cX9_expectStop 9 = .ok (.invokevirtual 30, 3) := by decide +kernel
theorem dX9_expectStop_12 : decode cX9_expectStop 12 = .ok (.goto 7, 3) := by decide +kernel
theorem dX9_expectStop_15 : decode cX9_expectStop 15 = .ok (.aload_n 0, 1) := by decide +kernel
theorem dX9_expectStop_16 : decode cX9_expectStop 16 = .ok (.invokevirtual 42, 3) := by decide +kernel
theorem dX9_expectStop_19 : decode cX9_expectStop 19 = .ok (.return_, 1) := by decide +kernel
theorem dX9_fail_0 : decode cX9_fail 0 = .ok (.aload_n 0, 1) := by decide +kernel
theorem dX9_fail_1 : decode cX9_fail 1 = .ok (.getfield 24, 3) := by decide +kernel
theorem dX9_fail_4 : decode cX9_fail 4 = .ok (.iconst (-1), 1) := by decide +kernel
theorem dX9_fail_5 : decode cX9_fail 5 = .ok (.if_icmp .ne 11, 3) := by decide +kernel
theorem dX9_fail_8 : decode cX9_fail 8 = .ok (.aload_n 0, 1) := by decide +kernel
theorem dX9_fail_9 : decode cX9_fail 9 = .ok (.aload_n 0, 1) := by decide +kernel
theorem dX9_fail_10 : decode cX9_fail 10 = .ok (.getfield 101, 3) := by decide +kernel
theorem dX9_fail_13 : decode cX9_fail 13 = .ok (.putfield 24, 3) := by decide +kernel
theorem dX9_fail_16 : decode cX9_fail 16 = .ok (.return_, 1) := by decide +kernel
theorem dX9_isNumberUpTo_0 : decode cX9_isNumberUpTo 0 = .ok (.aload_n 0, 1) := by decide +kernel
theorem dX9_isNumberUpTo_1 : decode cX9_isNumberUpTo 1 = .ok (.getfield 45, 3) := by decide +kernel
theorem dX9_isNumberUpTo_4 : decode cX9_isNumberUpTo 4 = .ok (.iconst 2, 1) := by decide +kernel
theorem dX9_isNumberUpTo_5 : decode cX9_isNumberUpTo 5 = .ok (.if_icmp .ne 15, 3) := by decide +kernel
theorem dX9_isNumberUpTo_8 : decode cX9_isNumberUpTo 8 = .ok (.aload_n 0, 1) := by decide +kernel
theorem dX9_isNumberUpTo_9 : decode cX9_isNumberUpTo 9 = .ok (.getfield 70, 3) := by decide +kernel
theorem dX9_isNumberUpTo_12 : decode cX9_isNumberUpTo 12 = .ok (.iload_n 1, 1) := by decide +kernel
theorem dX9_isNumberUpTo_13 : decode cX9_isNumberUpTo 13 = .ok (.if_icmp .gt 7, 3) := by decide +kernel
theorem dX9_isNumberUpTo_16 : decode cX9_isNumberUpTo 16 = .ok (.iconst 1, 1) := by decide +kernel
theorem dX9_isNumberUpTo_17 : decode cX9_isNumberUpTo 17 = .ok (.goto 4, 3) := by decide +kernel
theorem dX9_isNumberUpTo_20 : decode cX9_isNumberUpTo 20 = .ok (.iconst 0, 1) := by decide +kernel
theorem dX9_isNumberUpTo_21 : decode cX9_isNumberUpTo 21 = .ok (.ireturn, 1) := by decide +kernel
theorem dX9_isWord_0 : decode cX9_isWord 0 = .ok (.aload_n 0, 1) := by decide +kernel
theorem dX9_isWord_1 : decode cX9_isWord 1 = .ok (.getfield 45, 3) := by decide +kernel
theorem dX9_isWord_4 : decode cX9_isWord 4 = .ok (.iconst 1, 1) := by decide +kernel
theorem dX9_isWord_5 : decode cX9_isWord 5 = .ok (.if_icmp .ne 19, 3) := by decide +kernel
theorem dX9_isWord_8 : decode cX9_isWord 8 = .ok (.aload_n 0, 1) := by decide +kernel
theorem dX9_isWord_9 : decode cX9_isWord 9 = .ok (.getfield 27, 3) := by decide +kernel
theorem dX9_isWord_12 : decode cX9_isWord 12 = .ok (.aload_n 0, 1) := by decide +kernel
theorem dX9_isWord_13 : decode cX9_isWord 13 = .ok (.getfield 101, 3) := by decide +kernel
theorem dX9_isWord_16 : decode cX9_isWord 16 = .ok (.isub, 1) := by decide +kernel
theorem dX9_isWord_17 : decode cX9_isWord 17 = .ok (.aload_n 1, 1) := by decide +kernel
theorem dX9_isWord_18 : decode cX9_isWord 18 = .ok (.invokevirtual 104, 3) := by decide +kernel
theorem dX9_isWord_21 : decode cX9_isWord 21 = .ok (.if_icmp .eq 5, 3) := by decide +kernel
theorem dX9_isWord_24 : decode cX9_isWord 24 = .ok (.iconst 0, 1) := by decide +kernel
theorem dX9_isWord_25 : decode cX9_isWord 25 = .ok (.ireturn, 1) := by decide +kernel
theorem dX9_isWord_26 : decode cX9_isWord 26 = .ok (.iconst 0, 1) := by decide +kernel
theorem dX9_isWord_27 : decode cX9_isWord 27 = .ok (.istore_n 2, 1) := by decide +kernel
theorem dX9_isWord_28 : decode cX9_isWord 28 = .ok (.iload_n 2, 1) := by decide +kernel
theorem dX9_isWord_29 : decode cX9_isWord 29 = .ok (.aload_n 1, 1) := by decide +kernel
theorem dX9_isWord_30 : decode cX9_isWord 30 = .ok (.invokevirtual 104, 3) := by decide +kernel
theorem dX9_isWord_33 : decode cX9_isWord 33 = .ok (.if_icmp .ge 30, 3) := by decide +kernel
theorem dX9_isWord_36 : decode cX9_isWord 36 = .ok (.aload_n 0, 1) := by decide +kernel
theorem dX9_isWord_37 : decode cX9_isWord 37 = .ok (.getfield 9, 3) := by decide +kernel
theorem dX9_isWord_40 : decode cX9_isWord 40 = .ok (.aload_n 0, 1) := by decide +kernel
theorem dX9_isWord_41 : decode cX9_isWord 41 = .ok (.getfield 101, 3) := by decide +kernel
theorem dX9_isWord_44 : decode cX9_isWord 44 = .ok (.iload_n 2, 1) := by decide +kernel
theorem dX9_isWord_45 : decode cX9_isWord 45 = .ok (.iadd, 1) := by decide +kernel
theorem dX9_isWord_46 : decode cX9_isWord 46 = .ok (.iaload, 1) := by decide +kernel
theorem dX9_isWord_47 : decode cX9_isWord 47 = .ok (.aload_n 1, 1) := by decide +kernel
theorem dX9_isWord_48 : decode cX9_isWord 48 = .ok (.iload_n 2, 1) := by decide +kernel
theorem dX9_isWord_49 : decode cX9_isWord 49 = .ok (.invokevirtual 109, 3) := by decide +kernel
theorem dX9_isWord_52 : decode cX9_isWord 52 = .ok (.if_icmp .eq 5, 3) := by decide +kernel
theorem dX9_isWord_55 : decode cX9_isWord 55 = .ok (.iconst 0, 1) := by decide +kernel
theorem dX9_isWord_56 : decode cX9_isWord 56 = .ok (.ireturn, 1) := by decide +kernel
theorem dX9_isWord_57 : decode cX9_isWord 57 = .ok (.iinc 2 1, 3) := by decide +kernel
theorem dX9_isWord_60 : decode cX9_isWord 60 = .ok (.goto (-32), 3) := by decide +kernel
theorem dX9_isWord_63 : decode cX9_isWord 63 = .ok (.iconst 1, 1) := by decide +kernel
theorem dX9_isWord_64 : decode cX9_isWord 64 = .ok (.ireturn, 1) := by decide +kernel
theorem dX9_advance_0 : decode cX9_advance 0 = .ok (.aload_n 0, 1) := by decide +kernel
theorem dX9_advance_1 : decode cX9_advance 1 = .ok (.aload_n 0, 1) := by decide +kernel
theorem dX9_advance_2 : decode cX9_advance 2 = .ok (.getfield 27, 3) := by decide +kernel
theorem dX9_advance_5 : decode cX9_advance 5 = .ok (.putfield 101, 3) := by decide +kernel
theorem dX9_advance_8 : decode cX9_advance 8 = .ok (.aload_n 0, 1) := by decide +kernel
theorem dX9_advance_9 : decode cX9_advance 9 = .ok (.getfield 101, 3) := by decide +kernel
theorem dX9_advance_12 : decode cX9_advance 12 = .ok (.aload_n 0, 1) := by decide +kernel
theorem dX9_advance_13 : decode cX9_advance 13 = .ok (.getfield 15, 3) := by decide +kernel
theorem dX9_advance_16 : decode cX9_advance 16 = .ok (.if_icmp .ge 30, 3) := by decide +kernel
theorem dX9_advance_19 : decode cX9_advance 19 = .ok (.aload_n 0, 1) := by decide +kernel
theorem dX9_advance_20 : decode cX9_advance 20 = .ok (.getfield 9, 3) := by decide +kernel
theorem dX9_advance_23 : decode cX9_advance 23 = .ok (.aload_n 0, 1) := by decide +kernel
theorem dX9_advance_24 : decode cX9_advance 24 = .ok (.getfield 101, 3) := by decide +kernel
theorem dX9_advance_27 : decode cX9_advance 27 = .ok (.iaload, 1) := by decide +kernel
theorem dX9_advance_28 : decode cX9_advance 28 = .ok (.bipush 32, 2) := by decide +kernel
theorem dX9_advance_30 : decode cX9_advance 30 = .ok (.if_icmp .ne 16, 3) := by decide +kernel
theorem dX9_advance_33 : decode cX9_advance 33 = .ok (.aload_n 0, 1) := by decide +kernel
theorem dX9_advance_34 : decode cX9_advance 34 = .ok (.dup, 1) := by decide +kernel
theorem dX9_advance_35 : decode cX9_advance 35 = .ok (.getfield 101, 3) := by decide +kernel
theorem dX9_advance_38 : decode cX9_advance 38 = .ok (.iconst 1, 1) := by decide +kernel
theorem dX9_advance_39 : decode cX9_advance 39 = .ok (.iadd, 1) := by decide +kernel
theorem dX9_advance_40 : decode cX9_advance 40 = .ok (.putfield 101, 3) := by decide +kernel
theorem dX9_advance_43 : decode cX9_advance 43 = .ok (.goto (-35), 3) := by decide +kernel
theorem dX9_advance_46 : decode cX9_advance 46 = .ok (.aload_n 0, 1) := by decide +kernel
theorem dX9_advance_47 : decode cX9_advance 47 = .ok (.aload_n 0, 1) := by decide +kernel
theorem dX9_advance_48 : decode cX9_advance 48 = .ok (.getfield 101, 3) := by decide +kernel
theorem dX9_advance_51 : decode cX9_advance 51 = .ok (.putfield 27, 3) := by decide +kernel
theorem dX9_advance_54 : decode cX9_advance 54 = .ok (.aload_n 0, 1) := by decide +kernel
theorem dX9_advance_55 : decode cX9_advance 55 = .ok (.iconst 0, 1) := by decide +kernel
theorem dX9_advance_56 : decode cX9_advance 56 = .ok (.putfield 70, 3) := by decide +kernel
theorem dX9_advance_59 : decode cX9_advance 59 = .ok (.aload_n 0, 1) := by decide +kernel
theorem dX9_advance_60 : decode cX9_advance 60 = .ok (.getfield 101, 3) := by decide +kernel
theorem dX9_advance_63 : decode cX9_advance 63 = .ok (.aload_n 0, 1) := by decide +kernel
theorem dX9_advance_64 : decode cX9_advance 64 = .ok (.getfield 15, 3) := by decide +kernel
theorem dX9_advance_67 : decode cX9_advance 67 = .ok (.if_icmp .lt 11, 3) := by decide +kernel
theorem dX9_advance_70 : decode cX9_advance 70 = .ok (.aload_n 0, 1) := by decide +kernel
theorem dX9_advance_71 : decode cX9_advance 71 = .ok (.iconst 0, 1) := by decide +kernel
theorem dX9_advance_72 : decode cX9_advance 72 = .ok (.putfield 45, 3) := by decide +kernel
theorem dX9_advance_75 : decode cX9_advance 75 = .ok (.goto 80, 3) := by decide +kernel
theorem dX9_advance_78 : decode cX9_advance 78 = .ok (.aload_n 0, 1) := by decide +kernel
theorem dX9_advance_79 : decode cX9_advance 79 = .ok (.getfield 9, 3) := by decide +kernel
theorem dX9_advance_82 : decode cX9_advance 82 = .ok (.aload_n 0, 1) := by decide +kernel
theorem dX9_advance_83 : decode cX9_advance 83 = .ok (.getfield 101, 3) := by decide +kernel
theorem dX9_advance_86 : decode cX9_advance 86 = .ok (.iaload, 1) := by decide +kernel
theorem dX9_advance_87 : decode cX9_advance 87 = .ok (.invokestatic 113, 3) := by decide +kernel
theorem dX9_advance_90 : decode cX9_advance 90 = .ok (.ifCond .eq 10, 3) := by decide +kernel
theorem dX9_advance_93 : decode cX9_advance 93 = .ok (.aload_n 0, 1) := by decide +kernel
theorem dX9_advance_94 : decode cX9_advance 94 = .ok (.invokevirtual 116, 3) := by decide +kernel
theorem dX9_advance_97 : decode cX9_advance 97 = .ok (.goto 58, 3) := by decide +kernel
theorem dX9_advance_100 : decode cX9_advance 100 = .ok (.aload_n 0, 1) := by decide +kernel
theorem dX9_advance_101 : decode cX9_advance 101 = .ok (.getfield 9, 3) := by decide +kernel
theorem dX9_advance_104 : decode cX9_advance 104 = .ok (.aload_n 0, 1) := by decide +kernel
theorem dX9_advance_105 : decode cX9_advance 105 = .ok (.getfield 101, 3) := by decide +kernel
theorem dX9_advance_108 : decode cX9_advance 108 = .ok (.iaload, 1) := by decide +kernel
theorem dX9_advance_109 : decode cX9_advance 109 = .ok (.invokestatic 119, 3) := by decide +kernel
theorem dX9_advance_112 : decode cX9_advance 112 = .ok (.ifCond .eq 10, 3) := by decide +kernel
theorem dX9_advance_115 : decode cX9_advance 115 = .ok (.aload_n 0, 1) := by decide +kernel
theorem dX9_advance_116 : decode cX9_advance 116 = .ok (.invokevirtual 122, 3) := by decide +kernel
theorem dX9_advance_119 : decode cX9_advance 119 = .ok (.goto 36, 3) := by decide +kernel
theorem dX9_advance_122 : decode cX9_advance 122 = .ok (.aload_n 0, 1) := by decide +kernel
theorem dX9_advance_123 : decode cX9_advance 123 = .ok (.aload_n 0, 1) := by decide +kernel
theorem dX9_advance_124 : decode cX9_advance 124 = .ok (.getfield 9, 3) := by decide +kernel
theorem dX9_advance_127 : decode cX9_advance 127 = .ok (.aload_n 0, 1) := by decide +kernel
theorem dX9_advance_128 : decode cX9_advance 128 = .ok (.getfield 101, 3) := by decide +kernel
theorem dX9_advance_131 : decode cX9_advance 131 = .ok (.iaload, 1) := by decide +kernel
theorem dX9_advance_132 : decode cX9_advance 132 = .ok (.bipush 59, 2) := by decide +kernel
theorem dX9_advance_134 : decode cX9_advance 134 = .ok (.if_icmp .ne 7, 3) := by decide +kernel
theorem dX9_advance_137 : decode cX9_advance 137 = .ok (.iconst 3, 1) := by decide +kernel
theorem dX9_advance_138 : decode cX9_advance 138 = .ok (.goto 4, 3) := by decide +kernel
theorem dX9_advance_141 : decode cX9_advance 141 = .ok (.iconst 4, 1) := by decide +kernel
theorem dX9_advance_142 : decode cX9_advance 142 = .ok (.putfield 45, 3) := by decide +kernel
theorem dX9_advance_145 : decode cX9_advance 145 = .ok (.aload_n 0, 1) := by decide +kernel
theorem dX9_advance_146 : decode cX9_advance 146 = .ok (.dup, 1) := by decide +kernel
theorem dX9_advance_147 : decode cX9_advance 147 = .ok (.getfield 27, 3) := by decide +kernel
theorem dX9_advance_150 : decode cX9_advance 150 = .ok (.iconst 1, 1) := by decide +kernel
theorem dX9_advance_151 : decode cX9_advance 151 = .ok (.iadd, 1) := by decide +kernel
theorem dX9_advance_152 : decode cX9_advance 152 = .ok (.putfield 27, 3) := by decide +kernel
theorem dX9_advance_155 : decode cX9_advance 155 = .ok (.return_, 1) := by decide +kernel
theorem dX9_advanceOverWord_0 : decode cX9_advanceOverWord 0 = .ok (.aload_n 0, 1) := by decide +kernel
theorem dX9_advanceOverWord_1 : decode cX9_advanceOverWord 1 = .ok (.iconst 1, 1) := by decide +kernel
theorem dX9_advanceOverWord_2 : decode cX9_advanceOverWord 2 = .ok (.putfield 45, 3) := by decide +kernel
theorem dX9_advanceOverWord_5 : decode cX9_advanceOverWord 5 = .ok (.aload_n 0, 1) := by decide +kernel
theorem dX9_advanceOverWord_6 : decode cX9_advanceOverWord 6 = .ok (.getfield 27, 3) := by decide +kernel
theorem dX9_advanceOverWord_9 : decode cX9_advanceOverWord 9 = .ok (.aload_n 0, 1) := by decide +kernel
theorem dX9_advanceOverWord_10 : decode cX9_advanceOverWord 10 = .ok (.getfield 15, 3) := by decide +kernel
theorem dX9_advanceOverWord_13 : decode cX9_advanceOverWord 13 = .ok (.if_icmp .ge 31, 3) := by decide +kernel
theorem dX9_advanceOverWord_16 : decode cX9_advanceOverWord 16 = .ok (.aload_n 0, 1) := by decide +kernel
theorem dX9_advanceOverWord_17 : decode cX9_advanceOverWord 17 = .ok (.getfield 9, 3) := by decide +kernel
theorem dX9_advanceOverWord_20 : decode cX9_advanceOverWord 20 = .ok (.aload_n 0, 1) := by decide +kernel
theorem dX9_advanceOverWord_21 : decode cX9_advanceOverWord 21 = .ok (.getfield 27, 3) := by decide +kernel
theorem dX9_advanceOverWord_24 : decode cX9_advanceOverWord 24 = .ok (.iaload, 1) := by decide +kernel
theorem dX9_advanceOverWord_25 : decode cX9_advanceOverWord 25 = .ok (.invokestatic 113, 3) := by decide +kernel
theorem dX9_advanceOverWord_28 : decode cX9_advanceOverWord 28 = .ok (.ifCond .eq 16, 3) := by decide +kernel
theorem dX9_advanceOverWord_31 : decode cX9_advanceOverWord 31 = .ok (.aload_n 0, 1) := by decide +kernel
theorem dX9_advanceOverWord_32 : decode cX9_advanceOverWord 32 = .ok (.dup, 1) := by decide +kernel
theorem dX9_advanceOverWord_33 : decode cX9_advanceOverWord 33 = .ok (.getfield 27, 3) := by decide +kernel
theorem dX9_advanceOverWord_36 : decode cX9_advanceOverWord 36 = .ok (.iconst 1, 1) := by decide +kernel
theorem dX9_advanceOverWord_37 : decode cX9_advanceOverWord 37 = .ok (.iadd, 1) := by decide +kernel
theorem dX9_advanceOverWord_38 : decode cX9_advanceOverWord 38 = .ok (.putfield 27, 3) := by decide +kernel
theorem dX9_advanceOverWord_41 : decode cX9_advanceOverWord 41 = .ok (.goto (-36), 3) := by decide +kernel
theorem dX9_advanceOverWord_44 : decode cX9_advanceOverWord 44 = .ok (.return_, 1) := by decide +kernel
theorem dX9_advanceOverNumber_0 : decode cX9_advanceOverNumber 0 = .ok (.aload_n 0, 1) := by decide +kernel
theorem dX9_advanceOverNumber_1 : decode cX9_advanceOverNumber 1 = .ok (.getfield 27, 3) := by decide +kernel
theorem dX9_advanceOverNumber_4 : decode cX9_advanceOverNumber 4 = .ok (.aload_n 0, 1) := by decide +kernel
theorem dX9_advanceOverNumber_5 : decode cX9_advanceOverNumber 5 = .ok (.getfield 15, 3) := by decide +kernel
theorem dX9_advanceOverNumber_8 : decode cX9_advanceOverNumber 8 = .ok (.if_icmp .ge 55, 3) := by decide +kernel
theorem dX9_advanceOverNumber_11 : decode cX9_advanceOverNumber 11 = .ok (.aload_n 0, 1) := by decide +kernel
theorem dX9_advanceOverNumber_12 : decode cX9_advanceOverNumber 12 = .ok (.getfield 9, 3) := by decide +kernel
theorem dX9_advanceOverNumber_15 : decode cX9_advanceOverNumber 15 = .ok (.aload_n 0, 1) := by decide +kernel
theorem dX9_advanceOverNumber_16 : decode cX9_advanceOverNumber 16 = .ok (.getfield 27, 3) := by decide +kernel
theorem dX9_advanceOverNumber_19 : decode cX9_advanceOverNumber 19 = .ok (.iaload, 1) := by decide +kernel
theorem dX9_advanceOverNumber_20 : decode cX9_advanceOverNumber 20 = .ok (.invokestatic 119, 3) := by decide +kernel
theorem dX9_advanceOverNumber_23 : decode cX9_advanceOverNumber 23 = .ok (.ifCond .eq 40, 3) := by decide +kernel
theorem dX9_advanceOverNumber_26 : decode cX9_advanceOverNumber 26 = .ok (.aload_n 0, 1) := by decide +kernel
theorem dX9_advanceOverNumber_27 : decode cX9_advanceOverNumber 27 = .ok (.aload_n 0, 1) := by decide +kernel
theorem dX9_advanceOverNumber_28 : decode cX9_advanceOverNumber 28 = .ok (.getfield 70, 3) := by decide +kernel
theorem dX9_advanceOverNumber_31 : decode cX9_advanceOverNumber 31 = .ok (.bipush 10, 2) := by decide +kernel
theorem dX9_advanceOverNumber_33 : decode cX9_advanceOverNumber 33 = .ok (.imul, 1) := by decide +kernel
theorem dX9_advanceOverNumber_34 : decode cX9_advanceOverNumber 34 = .ok (.aload_n 0, 1) := by decide +kernel
theorem dX9_advanceOverNumber_35 : decode cX9_advanceOverNumber 35 = .ok (.getfield 9, 3) := by decide +kernel
theorem dX9_advanceOverNumber_38 : decode cX9_advanceOverNumber 38 = .ok (.aload_n 0, 1) := by decide +kernel
theorem dX9_advanceOverNumber_39 : decode cX9_advanceOverNumber 39 = .ok (.getfield 27, 3) := by decide +kernel
theorem dX9_advanceOverNumber_42 : decode cX9_advanceOverNumber 42 = .ok (.iaload, 1) := by decide +kernel
theorem dX9_advanceOverNumber_43 : decode cX9_advanceOverNumber 43 = .ok (.bipush 48, 2) := by decide +kernel
theorem dX9_advanceOverNumber_45 : decode cX9_advanceOverNumber 45 = .ok (.isub, 1) := by decide +kernel
theorem dX9_advanceOverNumber_46 : decode cX9_advanceOverNumber 46 = .ok (.iadd, 1) := by decide +kernel
theorem dX9_advanceOverNumber_47 : decode cX9_advanceOverNumber 47 = .ok (.putfield 70, 3) := by decide +kernel
theorem dX9_advanceOverNumber_50 : decode cX9_advanceOverNumber 50 = .ok (.aload_n 0, 1) := by decide +kernel
theorem dX9_advanceOverNumber_51 : decode cX9_advanceOverNumber 51 = .ok (.dup, 1) := by decide +kernel
theorem dX9_advanceOverNumber_52 : decode cX9_advanceOverNumber 52 = .ok (.getfield 27, 3) := by decide +kernel
theorem dX9_advanceOverNumber_55 : decode cX9_advanceOverNumber 55 = .ok (.iconst 1, 1) := by decide +kernel
theorem dX9_advanceOverNumber_56 : decode cX9_advanceOverNumber 56 = .ok (.iadd, 1) := by decide +kernel
theorem dX9_advanceOverNumber_57 : decode cX9_advanceOverNumber 57 = .ok (.putfield 27, 3) := by decide +kernel
theorem dX9_advanceOverNumber_60 : decode cX9_advanceOverNumber 60 = .ok (.goto (-60), 3) := by decide +kernel
theorem dX9_advanceOverNumber_63 : decode cX9_advanceOverNumber 63 = .ok (.aload_n 0, 1) := by decide +kernel
theorem dX9_advanceOverNumber_64 : decode cX9_advanceOverNumber 64 = .ok (.aload_n 0, 1) := by decide +kernel
theorem dX9_advanceOverNumber_65 : decode cX9_advanceOverNumber 65 = .ok (.getfield 27, 3) := by decide +kernel
theorem dX9_advanceOverNumber_68 : decode cX9_advanceOverNumber 68 = .ok (.aload_n 0, 1) := by decide +kernel
theorem dX9_advanceOverNumber_69 : decode cX9_advanceOverNumber 69 = .ok (.getfield 101, 3) := by decide +kernel
theorem dX9_advanceOverNumber_72 : decode cX9_advanceOverNumber 72 = .ok (.isub, 1) := by decide +kernel
theorem dX9_advanceOverNumber_73 : decode cX9_advanceOverNumber 73 = .ok (.iconst 2, 1) := by decide +kernel
theorem dX9_advanceOverNumber_74 : decode cX9_advanceOverNumber 74 = .ok (.if_icmp .gt 7, 3) := by decide +kernel
theorem dX9_advanceOverNumber_77 : decode cX9_advanceOverNumber 77 = .ok (.iconst 2, 1) := by decide +kernel
theorem dX9_advanceOverNumber_78 : decode cX9_advanceOverNumber 78 = .ok (.goto 4, 3) := by decide +kernel
theorem dX9_advanceOverNumber_81 : decode cX9_advanceOverNumber 81 = .ok (.iconst 4, 1) := by decide +kernel
theorem dX9_advanceOverNumber_82 : decode cX9_advanceOverNumber 82 = .ok (.putfield 45, 3) := by decide +kernel
theorem dX9_advanceOverNumber_85 : decode cX9_advanceOverNumber 85 = .ok (.return_, 1) := by decide +kernel
theorem dX9_isLetter_0 : decode cX9_isLetter 0 = .ok (.iload_n 0, 1) := by decide +kernel
theorem dX9_isLetter_1 : decode cX9_isLetter 1 = .ok (.bipush 97, 2) := by decide +kernel
theorem dX9_isLetter_3 : decode cX9_isLetter 3 = .ok (.if_icmp .lt 13, 3) := by decide +kernel
theorem dX9_isLetter_6 : decode cX9_isLetter 6 = .ok (.iload_n 0, 1) := by decide +kernel
theorem dX9_isLetter_7 : decode cX9_isLetter 7 = .ok (.bipush 122, 2) := by decide +kernel
theorem dX9_isLetter_9 : decode cX9_isLetter 9 = .ok (.if_icmp .gt 7, 3) := by decide +kernel
theorem dX9_isLetter_12 : decode cX9_isLetter 12 = .ok (.iconst 1, 1) := by decide +kernel
theorem dX9_isLetter_13 : decode cX9_isLetter 13 = .ok (.goto 4, 3) := by decide +kernel
theorem dX9_isLetter_16 : decode cX9_isLetter 16 = .ok (.iconst 0, 1) := by decide +kernel
theorem dX9_isLetter_17 : decode cX9_isLetter 17 = .ok (.ireturn, 1) := by decide +kernel
theorem dX9_isFigure_0 : decode cX9_isFigure 0 = .ok (.iload_n 0, 1) := by decide +kernel
theorem dX9_isFigure_1 : decode cX9_isFigure 1 = .ok (.bipush 48, 2) := by decide +kernel
theorem dX9_isFigure_3 : decode cX9_isFigure 3 = .ok (.if_icmp .lt 13, 3) := by decide +kernel
theorem dX9_isFigure_6 : decode cX9_isFigure 6 = .ok (.iload_n 0, 1) := by decide +kernel
theorem dX9_isFigure_7 : decode cX9_isFigure 7 = .ok (.bipush 57, 2) := by decide +kernel
theorem dX9_isFigure_9 : decode cX9_isFigure 9 = .ok (.if_icmp .gt 7, 3) := by decide +kernel
theorem dX9_isFigure_12 : decode cX9_isFigure 12 = .ok (.iconst 1, 1) := by decide +kernel
theorem dX9_isFigure_13 : decode cX9_isFigure 13 = .ok (.goto 4, 3) := by decide +kernel
theorem dX9_isFigure_16 : decode cX9_isFigure 16 = .ok (.iconst 0, 1) := by decide +kernel
theorem dX9_isFigure_17 : decode cX9_isFigure 17 = .ok (.ireturn, 1) := by decide +kernel
theorem dX10_init_0 : decode cX10_init 0 = .ok (.aload_n 0, 1) := by decide +kernel
theorem dX10_init_1 : decode cX10_init 1 = .ok (.invokespecial 3, 3) := by decide +kernel
theorem dX10_init_4 : decode cX10_init 4 = .ok (.aload_n 0, 1) := by decide +kernel
theorem dX10_init_5 : decode cX10_init 5 = .ok (.bipush 6, 2) := by decide +kernel
theorem dX10_init_7 : decode cX10_init 7 = .ok (.newarray .int, 2) := by decide +kernel
theorem dX10_init_9 : decode cX10_init 9 = .ok (.putfield 9, 3) := by decide +kernel
theorem dX10_init_12 : decode cX10_init 12 = .ok (.aload_n 0, 1) := by decide +kernel
theorem dX10_init_13 : decode cX10_init 13 = .ok (.bipush 6, 2) := by decide +kernel
theorem dX10_init_15 : decode cX10_init 15 = .ok (.newarray .int, 2) := by decide +kernel
theorem dX10_init_17 : decode cX10_init 17 = .ok (.putfield 15, 3) := by decide +kernel
theorem dX10_init_20 : decode cX10_init 20 = .ok (.aload_n 0, 1) := by decide +kernel
theorem dX10_init_21 : decode cX10_init 21 = .ok (.bipush 6, 2) := by decide +kernel
theorem dX10_init_23 : decode cX10_init 23 = .ok (.newarray .int, 2) := by decide +kernel
theorem dX10_init_25 : decode cX10_init 25 = .ok (.putfield 18, 3) := by decide +kernel
theorem dX10_init_28 : decode cX10_init 28 = .ok (.aload_n 0, 1) := by decide +kernel
theorem dX10_init_29 : decode cX10_init 29 = .ok (.bipush 8, 2) := by decide +kernel
theorem dX10_init_31 : decode cX10_init 31 = .ok (.anewarray 21, 3) := by decide +kernel
theorem dX10_init_34 : decode cX10_init 34 = .ok (.putfield 23, 3) := by decide +kernel
theorem dX10_init_37 : decode cX10_init 37 = .ok (.aload_n 0, 1) := by decide +kernel
theorem dX10_init_38 : decode cX10_init 38 = .ok (.new 21, 3) := by decide +kernel
theorem dX10_init_41 : decode cX10_init 41 = .ok (.dup, 1) := by decide +kernel
theorem dX10_init_42 : decode cX10_init 42 = .ok (.aload_n 1, 1) := by decide +kernel
theorem dX10_init_43 : decode cX10_init 43 = .ok (.invokespecial 27, 3) := by decide +kernel
theorem dX10_init_46 : decode cX10_init 46 = .ok (.putfield 30, 3) := by decide +kernel
theorem dX10_init_49 : decode cX10_init 49 = .ok (.iconst 0, 1) := by decide +kernel
theorem dX10_init_50 : decode cX10_init 50 = .ok (.istore_n 2, 1) := by decide +kernel
theorem dX10_init_51 : decode cX10_init 51 = .ok (.iload_n 2, 1) := by decide +kernel
theorem dX10_init_52 : decode cX10_init 52 = .ok (.bipush 8, 2) := by decide +kernel
theorem dX10_init_54 : decode cX10_init 54 = .ok (.if_icmp .ge 23, 3) := by decide +kernel
theorem dX10_init_57 : decode cX10_init 57 = .ok (.aload_n 0, 1) := by decide +kernel
theorem dX10_init_58 : decode cX10_init 58 = .ok (.getfield 23, 3) := by decide +kernel
theorem dX10_init_61 : decode cX10_init 61 = .ok (.iload_n 2, 1) := by decide +kernel
theorem dX10_init_62 : decode cX10_init 62 = .ok (.new 21, 3) := by decide +kernel
theorem dX10_init_65 : decode cX10_init 65 = .ok (.dup, 1) := by decide +kernel
theorem dX10_init_66 : decode cX10_init 66 = .ok (.aload_n 1, 1) := by decide +kernel
theorem dX10_init_67 : decode cX10_init 67 = .ok (.invokespecial 27, 3) := by decide +kernel
theorem dX10_init_70 : decode cX10_init 70 = .ok (.aastore, 1) := by decide +kernel
theorem dX10_init_71 : decode cX10_init 71 = .ok (.iinc 2 1, 3) := by decide +kernel
theorem dX10_init_74 : decode cX10_init 74 = .ok (.goto (-23), 3) := by decide +kernel
theorem dX10_init_77 : decode cX10_init 77 = .ok (.return_, 1) := by decide +kernel
theorem dX10_begin_0 : decode cX10_begin 0 = .ok (.aload_n 0, 1) := by decide +kernel
theorem dX10_begin_1 : decode cX10_begin 1 = .ok (.getfield 30, 3) := by decide +kernel
theorem dX10_begin_4 : decode cX10_begin 4 = .ok (.invokevirtual 34, 3) := by decide +kernel
theorem dX10_begin_7 : decode cX10_begin 7 = .ok (.aload_n 0, 1) := by decide +kernel
theorem dX10_begin_8 : decode cX10_begin 8 = .ok (.iconst 0, 1) := by decide +kernel
theorem dX10_begin_9 : decode cX10_begin 9 = .ok (.putfield 37, 3) := by decide +kernel
theorem dX10_begin_12 : decode cX10_begin 12 = .ok (.aload_n 0, 1) := by decide +kernel
theorem dX10_begin_13 : decode cX10_begin 13 = .ok (.iconst 0, 1) := by decide +kernel
theorem dX10_begin_14 : decode cX10_begin 14 = .ok (.putfield 41, 3) := by decide +kernel
theorem dX10_begin_17 : decode cX10_begin 17 = .ok (.aload_n 0, 1) := by decide +kernel
theorem dX10_begin_18 : decode cX10_begin 18 = .ok (.iconst 0, 1) := by decide +kernel
theorem dX10_begin_19 : decode cX10_begin 19 = .ok (.putfield 44, 3) := by decide +kernel
theorem dX10_begin_22 : decode cX10_begin 22 = .ok (.return_, 1) := by decide +kernel
theorem dX10_take_0 : decode cX10_take 0 = .ok (.aload_n 0, 1) := by decide +kernel
theorem dX10_take_1 : decode cX10_take 1 = .ok (.getfield 30, 3) := by decide +kernel
theorem dX10_take_4 : decode cX10_take 4 = .ok (.aload_n 1, 1) := by decide +kernel
theorem dX10_take_5 : decode cX10_take 5 = .ok (.getfield 30, 3) := by decide +kernel
theorem dX10_take_8 : decode cX10_take 8 = .ok (.invokevirtual 47, 3) := by decide +kernel
theorem dX10_take_11 : decode cX10_take 11 = .ok (.aload_n 1, 1) := by decide +kernel
theorem dX10_take_12 : decode cX10_take 12 = .ok (.getfield 9, 3) := by decide +kernel
theorem dX10_take_15 : decode cX10_take 15 = .ok (.iconst 0, 1) := by decide +kernel
theorem dX10_take_16 : decode cX10_take 16 = .ok (.aload_n 0, 1) := by decide +kernel
theorem dX10_take_17 : decode cX10_take 17 = .ok (.getfield 9, 3) := by decide +kernel
theorem dX10_take_20 : decode cX10_take 20 = .ok (.iconst 0, 1) := by decide +kernel
theorem dX10_take_21 : decode cX10_take 21 = .ok (.bipush 6, 2) := by decide +kernel
theorem dX10_take_23 : decode cX10_take 23 = .ok (.invokestatic 51, 3) := by decide +kernel
theorem dX10_take_26 : decode cX10_take 26 = .ok (.aload_n 1, 1) := by decide +kernel
theorem dX10_take_27 : decode cX10_take 27 = .ok (.getfield 15, 3) := by decide +kernel
theorem dX10_take_30 : decode cX10_take 30 = .ok (.iconst 0, 1) := by decide +kernel
theorem dX10_take_31 : decode cX10_take 31 = .ok (.aload_n 0, 1) := by decide +kernel
theorem dX10_take_32 : decode cX10_take 32 = .ok (.getfield 15, 3) := by decide +kernel
theorem dX10_take_35 : decode cX10_take 35 = .ok (.iconst 0, 1) := by decide +kernel
theorem dX10_take_36 : decode cX10_take 36 = .ok (.bipush 6, 2) := by decide +kernel
theorem dX10_take_38 : decode cX10_take 38 = .ok (.invokestatic 51, 3) := by decide +kernel
theorem dX10_take_41 : decode cX10_take 41 = .ok (.aload_n 1, 1) := by decide +kernel
theorem dX10_take_42 : decode cX10_take 42 = .ok (.getfield 18, 3) := by decide +kernel
theorem dX10_take_45 : decode cX10_take 45 = .ok (.iconst 0, 1) := by decide +kernel
theorem dX10_take_46 : decode cX10_take 46 = .ok (.aload_n 0, 1) := by decide +kernel
theorem dX10_take_47 : decode cX10_take 47 = .ok (.getfield 18, 3) := by decide +kernel
theorem dX10_take_50 : decode cX10_take 50 = .ok (.iconst 0, 1) := by decide +kernel
theorem dX10_take_51 : decode cX10_take 51 = .ok (.bipush 6, 2) := by decide +kernel
theorem dX10_take_53 : decode cX10_take 53 = .ok (.invokestatic 51, 3) := by decide +kernel
theorem dX10_take_56 : decode cX10_take 56 = .ok (.iconst 0, 1) := by decide +kernel
theorem dX10_take_57 : decode cX10_take 57 = .ok (.istore_n 2, 1) := by decide +kernel
theorem dX10_take_58 : decode cX10_take 58 = .ok (.iload_n 2, 1) := by decide +kernel
theorem dX10_take_59 : decode cX10_take 59 = .ok (.aload_n 1, 1) := by decide +kernel
theorem dX10_take_60 : decode cX10_take 60 = .ok (.getfield 44, 3) := by decide +kernel
theorem dX10_take_63 : decode cX10_take 63 = .ok (.if_icmp .ge 24, 3) := by decide +kernel
theorem dX10_take_66 : decode cX10_take 66 = .ok (.aload_n 0, 1) := by decide +kernel
theorem dX10_take_67 : decode cX10_take 67 = .ok (.getfield 23, 3) := by decide +kernel
theorem dX10_take_70 : decode cX10_take 70 = .ok (.iload_n 2, 1) := by decide +kernel
theorem dX10_take_71 : decode cX10_take 71 = .ok (.aaload, 1) := by decide +kernel
theorem dX10_take_72 : decode cX10_take 72 = .ok (.aload_n 1, 1) := by decide +kernel
theorem dX10_take_73 : decode cX10_take 73 = .ok (.getfield 23, 3) := by decide +kernel
theorem dX10_take_76 : decode cX10_take 76 = .ok (.iload_n 2, 1) := by decide +kernel
theorem dX10_take_77 : decode cX10_take 77 = .ok (.aaload, 1) := by decide +kernel
theorem dX10_take_78 : decode cX10_take 78 = .ok (.invokevirtual 47, 3) := by decide +kernel
theorem dX10_take_81 : decode cX10_take 81 = .ok (.iinc 2 1, 3) := by decide +kernel
theorem dX10_take_84 : decode cX10_take 84 = .ok (.goto (-26), 3) := by decide +kernel
theorem dX10_take_87 : decode cX10_take 87 = .ok (.aload_n 0, 1) := by decide +kernel
theorem dX10_take_88 : decode cX10_take 88 = .ok (.aload_n 1, 1) := by decide +kernel
theorem dX10_take_89 : decode cX10_take 89 = .ok (.getfield 37, 3) := by decide +kernel
theorem dX10_take_92 : decode cX10_take 92 = .ok (.putfield 37, 3) := by decide +kernel
theorem dX10_take_95 : decode cX10_take 95 = .ok (.aload_n 0, 1) := by decide +kernel
theorem dX10_take_96 : decode cX10_take 96 = .ok (.aload_n 1, 1) := by decide +kernel
theorem dX10_take_97 : decode cX10_take 97 = .ok (.getfield 41, 3) := by decide +kernel
theorem dX10_take_100 : decode cX10_take 100 = .ok (.putfield 41, 3) := by decide +kernel
theorem dX10_take_103 : decode cX10_take 103 = .ok (.aload_n 0, 1) := by decide +kernel
theorem dX10_take_104 : decode cX10_take 104 = .ok (.aload_n 1, 1) := by decide +kernel
theorem dX10_take_105 : decode cX10_take 105 = .ok (.getfield 44, 3) := by decide +kernel
theorem dX10_take_108 : decode cX10_take 108 = .ok (.putfield 44, 3) := by decide +kernel
theorem dX10_take_111 : decode cX10_take 111 = .ok (.return_, 1) := by decide +kernel
theorem dX10_isRock_0 : decode cX10_isRock 0 = .ok (.iconst 0, 1) := by decide +kernel
theorem dX10_isRock_1 : decode cX10_isRock 1 = .ok (.istore_n 2, 1) := by decide +kernel
theorem dX10_isRock_2 : decode cX10_isRock 2 = .ok (.iload_n 2, 1) := by decide +kernel
theorem dX10_isRock_3 : decode cX10_isRock 3 = .ok (.aload_n 0, 1) := by decide +kernel
theorem dX10_isRock_4 : decode cX10_isRock 4 = .ok (.getfield 37, 3) := by decide +kernel
theorem dX10_isRock_7 : decode cX10_isRock 7 = .ok (.if_icmp .ge 21, 3) := by decide +kernel
theorem dX10_isRock_10 : decode cX10_isRock 10 = .ok (.aload_n 0, 1) := by decide +kernel
theorem dX10_isRock_11 : decode cX10_isRock 11 = .ok (.getfield 9, 3) := by decide +kernel
theorem dX10_isRock_14 : decode cX10_isRock 14 = .ok (.iload_n 2, 1) := by decide +kernel
theorem dX10_isRock_15 : decode cX10_isRock 15 = .ok (.iaload, 1) := by decide +kernel
theorem dX10_isRock_16 : decode cX10_isRock 16 = .ok (.iload_n 1, 1) := by decide +kernel
theorem dX10_isRock_17 : decode cX10_isRock 17 = .ok (.if_icmp .ne 5, 3) := by decide +kernel
theorem dX10_isRock_20 : decode cX10_isRock 20 = .ok (.iconst 1, 1) := by decide +kernel
theorem dX10_isRock_21 : decode cX10_isRock 21 = .ok (.ireturn, 1) := by decide +kernel
theorem dX10_isRock_22 : decode cX10_isRock 22 = .ok (.iinc 2 1, 3) := by decide +kernel
theorem dX10_isRock_25 : decode cX10_isRock 25 = .ok (.goto (-23), 3) := by decide +kernel
theorem dX10_isRock_28 : decode cX10_isRock 28 = .ok (.iconst 0, 1) := by decide +kernel
theorem dX10_isRock_29 : decode cX10_isRock 29 = .ok (.ireturn, 1) := by decide +kernel
theorem dX10_addRock_0 : decode cX10_addRock 0 = .ok (.aload_n 0, 1) := by decide +kernel
theorem dX10_addRock_1 : decode cX10_addRock 1 = .ok (.getfield 37, 3) := by decide +kernel
theorem dX10_addRock_4 : decode cX10_addRock 4 = .ok (.bipush 6, 2) := by decide +kernel
theorem dX10_addRock_6 : decode cX10_addRock 6 = .ok (.if_icmp .ge 23, 3) := by decide +kernel
theorem dX10_addRock_9 : decode cX10_addRock 9 = .ok (.aload_n 0, 1) := by decide +kernel
theorem dX10_addRock_10 : decode cX10_addRock 10 = .ok (.getfield 9, 3) := by decide +kernel
theorem dX10_addRock_13 : decode cX10_addRock 13 = .ok (.aload_n 0, 1) := by decide +kernel
theorem dX10_addRock_14 : decode cX10_addRock 14 = .ok (.getfield 37, 3) := by decide +kernel
theorem dX10_addRock_17 : decode cX10_addRock 17 = .ok (.iload_n 1, 1) := by decide +kernel
theorem dX10_addRock_18 : decode cX10_addRock 18 = .ok (.iastore, 1) := by decide +kernel
theorem dX10_addRock_19 : decode cX10_addRock 19 = .ok (.aload_n 0, 1) := by decide +kernel
theorem dX10_addRock_20 : decode cX10_addRock 20 = .ok (.dup, 1) := by decide +kernel
theorem dX10_addRock_21 : decode cX10_addRock 21 = .ok (.getfield 37, 3) := by decide +kernel
theorem dX10_addRock_24 : decode cX10_addRock 24 = .ok (.iconst 1, 1) := by decide +kernel
theorem dX10_addRock_25 : decode cX10_addRock 25 = .ok (.iadd, 1) := by decide +kernel
theorem dX10_addRock_26 : decode cX10_addRock 26 = .ok (.putfield 37, 3) := by decide +kernel
theorem dX10_addRock_29 : decode cX10_addRock 29 = .ok (.return_, 1) := by decide +kernel
theorem dX10_addHand_0 : decode cX10_addHand 0 = .ok (.aload_n 0, 1) := by decide +kernel
theorem dX10_addHand_1 : decode cX10_addHand 1 = .ok (.getfield 30, 3) := by decide +kernel
theorem dX10_addHand_4 : decode cX10_addHand 4 = .ok (.getfield 57, 3) := by decide +kernel
theorem dX10_addHand_7 : decode cX10_addHand 7 = .ok (.istore 4, 2) := by decide +kernel
theorem dX10_addHand_9 : decode cX10_addHand 9 = .ok (.iload 4, 2) := by decide +kernel
theorem dX10_addHand_11 : decode cX10_addHand 11 = .ok (.bipush 6, 2) := by decide +kernel
theorem dX10_addHand_13 : decode cX10_addHand 13 = .ok (.if_icmp .ge 54, 3) := by decide +kernel
theorem dX10_addHand_16 : decode cX10_addHand 16 = .ok (.aload_n 0, 1) := by decide +kernel
theorem dX10_addHand_17 : decode cX10_addHand 17 = .ok (.getfield 30, 3) := by decide +kernel
theorem dX10_addHand_20 : decode cX10_addHand 20 = .ok (.getfield 60, 3) := by decide +kernel
theorem dX10_addHand_23 : decode cX10_addHand 23 = .ok (.iload 4, 2) := by decide +kernel
theorem dX10_addHand_25 : decode cX10_addHand 25 = .ok (.iload_n 1, 1) := by decide +kernel
theorem dX10_addHand_26 : decode cX10_addHand 26 = .ok (.iastore, 1) := by decide +kernel
theorem dX10_addHand_27 : decode cX10_addHand 27 = .ok (.aload_n 0, 1) := by decide +kernel
theorem dX10_addHand_28 : decode cX10_addHand 28 = .ok (.getfield 30, 3) := by decide +kernel
theorem dX10_addHand_31 : decode cX10_addHand 31 = .ok (.getfield 63, 3) := by decide +kernel
theorem dX10_addHand_34 : decode cX10_addHand 34 = .ok (.iload 4, 2) := by decide +kernel
theorem dX10_addHand_36 : decode cX10_addHand 36 = .ok (.iload_n 2, 1) := by decide +kernel
theorem dX10_addHand_37 : decode cX10_addHand 37 = .ok (.iastore, 1) := by decide +kernel
theorem dX10_addHand_38 : decode cX10_addHand 38 = .ok (.aload_n 0, 1) := by decide +kernel
theorem dX10_addHand_39 : decode cX10_addHand 39 = .ok (.getfield 30, 3) := by decide +kernel
theorem dX10_addHand_42 : decode cX10_addHand 42 = .ok (.getfield 66, 3) := by decide +kernel
theorem dX10_addHand_45 : decode cX10_addHand 45 = .ok (.iload 4, 2) := by decide +kernel
theorem dX10_addHand_47 : decode cX10_addHand 47 = .ok (.iload_n 3, 1) := by decide +kernel
theorem dX10_addHand_48 : decode cX10_addHand 48 = .ok (.iastore, 1) := by decide +kernel
theorem dX10_addHand_49 : decode cX10_addHand 49 = .ok (.aload_n 0, 1) := by decide +kernel
theorem dX10_addHand_50 : decode cX10_addHand 50 = .ok (.getfield 30, 3) := by decide +kernel
theorem dX10_addHand_53 : decode cX10_addHand 53 = .ok (.dup, 1) := by decide +kernel
theorem dX10_addHand_54 : decode cX10_addHand 54 = .ok (.getfield 57, 3) := by decide +kernel
theorem dX10_addHand_57 : decode cX10_addHand 57 = .ok (.iconst 1, 1) := by decide +kernel
theorem dX10_addHand_58 : decode cX10_addHand 58 = .ok (.iadd, 1) := by decide +kernel
theorem dX10_addHand_59 : decode cX10_addHand 59 = .ok (.putfield 57, 3) := by decide +kernel
theorem dX10_addHand_62 : decode cX10_addHand 62 = .ok (.aload_n 0, 1) := by decide +kernel
theorem dX10_addHand_63 : decode cX10_addHand 63 = .ok (.iconst 0, 1) := by decide +kernel
theorem dX10_addHand_64 : decode cX10_addHand 64 = .ok (.putfield 44, 3) := by decide +kernel
theorem dX10_addHand_67 : decode cX10_addHand 67 = .ok (.return_, 1) := by decide +kernel
theorem dX10_addSight_0 : decode cX10_addSight 0 = .ok (.aload_n 0, 1) := by decide +kernel
theorem dX10_addSight_1 : decode cX10_addSight 1 = .ok (.getfield 41, 3) := by decide +kernel
theorem dX10_addSight_4 : decode cX10_addSight 4 = .ok (.bipush 6, 2) := by decide +kernel
theorem dX10_addSight_6 : decode cX10_addSight 6 = .ok (.if_icmp .ge 33, 3) := by decide +kernel
theorem dX10_addSight_9 : decode cX10_addSight 9 = .ok (.aload_n 0, 1) := by decide +kernel
theorem dX10_addSight_10 : decode cX10_addSight 10 = .ok (.getfield 15, 3) := by decide +kernel
theorem dX10_addSight_13 : decode cX10_addSight 13 = .ok (.aload_n 0, 1) := by decide +kernel
theorem dX10_addSight_14 : decode cX10_addSight 14 = .ok (.getfield 41, 3) := by decide +kernel
theorem dX10_addSight_17 : decode cX10_addSight 17 = .ok (.iload_n 1, 1) := by decide +kernel
theorem dX10_addSight_18 : decode cX10_addSight 18 = .ok (.iastore, 1) := by decide +kernel
theorem dX10_addSight_19 : decode cX10_addSight 19 = .ok (.aload_n 0, 1) := by decide +kernel
theorem dX10_addSight_20 : decode cX10_addSight 20 = .ok (.getfield 18, 3) := by decide +kernel
theorem dX10_addSight_23 : decode cX10_addSight 23 = .ok (.aload_n 0, 1) := by decide +kernel
theorem dX10_addSight_24 : decode cX10_addSight 24 = .ok (.getfield 41, 3) := by decide +kernel
theorem dX10_addSight_27 : decode cX10_addSight 27 = .ok (.iload_n 2, 1) := by decide +kernel
theorem dX10_addSight_28 : decode cX10_addSight 28 = .ok (.iastore, 1) := by decide +kernel
theorem dX10_addSight_29 : decode cX10_addSight 29 = .ok (.aload_n 0, 1) := by decide +kernel
theorem dX10_addSight_30 : decode cX10_addSight 30 = .ok (.dup, 1) := by decide +kernel
theorem dX10_addSight_31 : decode cX10_addSight 31 = .ok (.getfield 41, 3) := by decide +kernel
theorem dX10_addSight_34 : decode cX10_addSight 34 = .ok (.iconst 1, 1) := by decide +kernel
theorem dX10_addSight_35 : decode cX10_addSight 35 = .ok (.iadd, 1) := by decide +kernel
theorem dX10_addSight_36 : decode cX10_addSight 36 = .ok (.putfield 41, 3) := by decide +kernel
theorem dX10_addSight_39 : decode cX10_addSight 39 = .ok (.return_, 1) := by decide +kernel
theorem dX10_remember_0 : decode cX10_remember 0 = .ok (.aload_n 0, 1) := by decide +kernel
theorem dX10_remember_1 : decode cX10_remember 1 = .ok (.getfield 44, 3) := by decide +kernel
theorem dX10_remember_4 : decode cX10_remember 4 = .ok (.bipush 8, 2) := by decide +kernel
theorem dX10_remember_6 : decode cX10_remember 6 = .ok (.if_icmp .ne 56, 3) := by decide +kernel
theorem dX10_remember_9 : decode cX10_remember 9 = .ok (.aload_n 0, 1) := by decide +kernel
theorem dX10_remember_10 : decode cX10_remember 10 = .ok (.getfield 23, 3) := by decide +kernel
theorem dX10_remember_13 : decode cX10_remember 13 = .ok (.iconst 0, 1) := by decide +kernel
theorem dX10_remember_14 : decode cX10_remember 14 = .ok (.aaload, 1) := by decide +kernel
theorem dX10_remember_15 : decode cX10_remember 15 = .ok (.astore_n 1, 1) := by decide +kernel
theorem dX10_remember_16 : decode cX10_remember 16 = .ok (.iconst 1, 1) := by decide +kernel
theorem dX10_remember_17 : decode cX10_remember 17 = .ok (.istore_n 2, 1) := by decide +kernel
theorem dX10_remember_18 : decode cX10_remember 18 = .ok (.iload_n 2, 1) := by decide +kernel
theorem dX10_remember_19 : decode cX10_remember 19 = .ok (.bipush 8, 2) := by decide +kernel
theorem dX10_remember_21 : decode cX10_remember 21 = .ok (.if_icmp .ge 23, 3) := by decide +kernel
theorem dX10_remember_24 : decode cX10_remember 24 = .ok (.aload_n 0, 1) := by decide +kernel
theorem dX10_remember_25 : decode cX10_remember 25 = .ok (.getfield 23, 3) := by decide +kernel
theorem dX10_remember_28 : decode cX10_remember 28 = .ok (.iload_n 2, 1) := by decide +kernel
theorem dX10_remember_29 : decode cX10_remember 29 = .ok (.iconst 1, 1) := by decide +kernel
theorem dX10_remember_30 : decode cX10_remember 30 = .ok (.isub, 1) := by decide +kernel
theorem dX10_remember_31 : decode cX10_remember 31 = .ok (.aload_n 0, 1) := by decide +kernel
theorem dX10_remember_32 : decode cX10_remember 32 = .ok (.getfield 23, 3) := by decide +kernel
theorem dX10_remember_35 : decode cX10_remember 35 = .ok (.iload_n 2, 1) := by decide +kernel
theorem dX10_remember_36 : decode cX10_remember 36 = .ok (.aaload, 1) := by decide +kernel
theorem dX10_remember_37 : decode cX10_remember 37 = .ok (.aastore, 1) := by decide +kernel
theorem dX10_remember_38 : decode cX10_remember 38 = .ok (.iinc 2 1, 3) := by decide +kernel
theorem dX10_remember_41 : decode cX10_remember 41 = .ok (.goto (-23), 3) := by decide +kernel
theorem dX10_remember_44 : decode cX10_remember 44 = .ok (.aload_n 0, 1) := by decide +kernel
theorem dX10_remember_45 : decode cX10_remember 45 = .ok (.getfield 23, 3) := by decide +kernel
theorem dX10_remember_48 : decode cX10_remember 48 = .ok (.bipush 7, 2) := by decide +kernel
theorem dX10_remember_50 : decode cX10_remember 50 = .ok (.aload_n 1, 1) := by decide +kernel
theorem dX10_remember_51 : decode cX10_remember 51 = .ok (.aastore, 1) := by decide +kernel
theorem dX10_remember_52 : decode cX10_remember 52 = .ok (.aload_n 0, 1) := by decide +kernel
theorem dX10_remember_53 : decode cX10_remember 53 = .ok (.dup, 1) := by decide +kernel
theorem dX10_remember_54 : decode cX10_remember 54 = .ok (.getfield 44, 3) := by decide +kernel
theorem dX10_remember_57 : decode cX10_remember 57 = .ok (.iconst 1, 1) := by decide +kernel
theorem dX10_remember_58 : decode cX10_remember 58 = .ok (.isub, 1) := by decide +kernel
theorem dX10_remember_59 : decode cX10_remember 59 = .ok (.putfield 44, 3) := by decide +kernel
theorem dX10_remember_62 : decode cX10_remember 62 = .ok (.aload_n 0, 1) := by decide +kernel
theorem dX10_remember_63 : decode cX10_remember 63 = .ok (.getfield 23, 3) := by decide +kernel
theorem dX10_remember_66 : decode cX10_remember 66 = .ok (.aload_n 0, 1) := by decide +kernel
theorem dX10_remember_67 : decode cX10_remember 67 = .ok (.getfield 44, 3) := by decide +kernel
theorem dX10_remember_70 : decode cX10_remember 70 = .ok (.aaload, 1) := by decide +kernel
theorem dX10_remember_71 : decode cX10_remember 71 = .ok (.aload_n 0, 1) := by decide +kernel
theorem dX10_remember_72 : decode cX10_remember 72 = .ok (.getfield 30, 3) := by decide +kernel
theorem dX10_remember_75 : decode cX10_remember 75 = .ok (.invokevirtual 47, 3) := by decide +kernel
theorem dX10_remember_78 : decode cX10_remember 78 = .ok (.aload_n 0, 1) := by decide +kernel
theorem dX10_remember_79 : decode cX10_remember 79 = .ok (.dup, 1) := by decide +kernel
theorem dX10_remember_80 : decode cX10_remember 80 = .ok (.getfield 44, 3) := by decide +kernel
theorem dX10_remember_83 : decode cX10_remember 83 = .ok (.iconst 1, 1) := by decide +kernel
theorem dX10_remember_84 : decode cX10_remember 84 = .ok (.iadd, 1) := by decide +kernel
theorem dX10_remember_85 : decode cX10_remember 85 = .ok (.putfield 44, 3) := by decide +kernel
theorem dX10_remember_88 : decode cX10_remember 88 = .ok (.return_, 1) := by decide +kernel
theorem dX10_goBack_0 : decode cX10_goBack 0 = .ok (.aload_n 0, 1) := by decide +kernel
theorem dX10_goBack_1 : decode cX10_goBack 1 = .ok (.getfield 44, 3) := by decide +kernel
theorem dX10_goBack_4 : decode cX10_goBack 4 = .ok (.ifCond .ne 5, 3) := by decide +kernel
theorem dX10_goBack_7 : decode cX10_goBack 7 = .ok (.iconst 0, 1) := by decide +kernel
theorem dX10_goBack_8 : decode cX10_goBack 8 = .ok (.ireturn, 1) := by decide +kernel
theorem dX10_goBack_9 : decode cX10_goBack 9 = .ok (.aload_n 0, 1) := by decide +kernel
theorem dX10_goBack_10 : decode cX10_goBack 10 = .ok (.dup, 1) := by decide +kernel
theorem dX10_goBack_11 : decode cX10_goBack 11 = .ok (.getfield 44, 3) := by decide +kernel
theorem dX10_goBack_14 : decode cX10_goBack 14 = .ok (.iconst 1, 1) := by decide +kernel
theorem dX10_goBack_15 : decode cX10_goBack 15 = .ok (.isub, 1) := by decide +kernel
theorem dX10_goBack_16 : decode cX10_goBack 16 = .ok (.putfield 44, 3) := by decide +kernel
theorem dX10_goBack_19 : decode cX10_goBack 19 = .ok (.aload_n 0, 1) := by decide +kernel
theorem dX10_goBack_20 : decode cX10_goBack 20 = .ok (.getfield 30, 3) := by decide +kernel
theorem dX10_goBack_23 : decode cX10_goBack 23 = .ok (.aload_n 0, 1) := by decide +kernel
theorem dX10_goBack_24 : decode cX10_goBack 24 = .ok (.getfield 23, 3) := by decide +kernel
theorem dX10_goBack_27 : decode cX10_goBack 27 = .ok (.aload_n 0, 1) := by decide +kernel
theorem dX10_goBack_28 : decode cX10_goBack 28 = .ok (.getfield 44, 3) := by decide +kernel
theorem dX10_goBack_31 : decode cX10_goBack 31 = .ok (.aaload, 1) := by decide +kernel
theorem dX10_goBack_32 : decode cX10_goBack 32 = .ok (.invokevirtual 47, 3) := by decide +kernel
theorem dX10_goBack_35 : decode cX10_goBack 35 = .ok (.iconst 1, 1) := by decide +kernel
theorem dX10_goBack_36 : decode cX10_goBack 36 = .ok (.ireturn, 1) := by decide +kernel
theorem dX10_digestOnto_0 : decode cX10_digestOnto 0 = .ok (.ldc2_w 69, 3) := by decide +kernel
theorem dX10_digestOnto_3 : decode cX10_digestOnto 3 = .ok (.lload_n 1, 1) := by decide +kernel
theorem dX10_digestOnto_4 : decode cX10_digestOnto 4 = .ok (.lmul, 1) := by decide +kernel
theorem dX10_digestOnto_5 : decode cX10_digestOnto 5 = .ok (.aload_n 0, 1) := by decide +kernel
theorem dX10_digestOnto_6 : decode cX10_digestOnto 6 = .ok (.getfield 30, 3) := by decide +kernel
theorem dX10_digestOnto_9 : decode cX10_digestOnto 9 = .ok (.getfield 71, 3) := by decide +kernel
theorem dX10_digestOnto_12 : decode cX10_digestOnto 12 = .ok (.i2l, 1) := by decide +kernel
theorem dX10_digestOnto_13 : decode cX10_digestOnto 13 = .ok (.ladd, 1) := by decide +kernel
theorem dX10_digestOnto_14 : decode cX10_digestOnto 14 = .ok (.lstore_n 3, 1) := by decide +kernel
theorem dX10_digestOnto_15 : decode cX10_digestOnto 15 = .ok (.iconst 0, 1) := by decide +kernel
theorem dX10_digestOnto_16 : decode cX10_digestOnto 16 = .ok (.istore 5, 2) := by decide +kernel
theorem dX10_digestOnto_18 : decode cX10_digestOnto 18 = .ok (.iload 5, 2) := by decide +kernel
theorem dX10_digestOnto_20 : decode cX10_digestOnto 20 = .ok (.aload_n 0, 1) := by decide +kernel
theorem dX10_digestOnto_21 : decode cX10_digestOnto 21 = .ok (.getfield 30, 3) := by decide +kernel
theorem dX10_digestOnto_24 : decode cX10_digestOnto 24 = .ok (.getfield 57, 3) := by decide +kernel
theorem dX10_digestOnto_27 : decode cX10_digestOnto 27 = .ok (.if_icmp .ge 91, 3) := by decide +kernel
theorem dX10_digestOnto_30 : decode cX10_digestOnto 30 = .ok (.ldc2_w 69, 3) := by decide +kernel
theorem dX10_digestOnto_33 : decode cX10_digestOnto 33 = .ok (.lload_n 3, 1) := by decide +kernel
theorem dX10_digestOnto_34 : decode cX10_digestOnto 34 = .ok (.lmul, 1) := by decide +kernel
theorem dX10_digestOnto_35 : decode cX10_digestOnto 35 = .ok (.aload_n 0, 1) := by decide +kernel
theorem dX10_digestOnto_36 : decode cX10_digestOnto 36 = .ok (.getfield 30, 3) := by decide +kernel
theorem dX10_digestOnto_39 : decode cX10_digestOnto 39 = .ok (.getfield 60, 3) := by decide +kernel
theorem dX10_digestOnto_42 : decode cX10_digestOnto 42 = .ok (.iload 5, 2) := by decide +kernel
theorem dX10_digestOnto_44 : decode cX10_digestOnto 44 = .ok (.iaload, 1) := by decide +kernel
theorem dX10_digestOnto_45 : decode cX10_digestOnto 45 = .ok (.i2l, 1) := by decide +kernel
theorem dX10_digestOnto_46 : decode cX10_digestOnto 46 = .ok (.ladd, 1) := by decide +kernel
theorem dX10_digestOnto_47 : decode cX10_digestOnto 47 = .ok (.lstore_n 3, 1) := by decide +kernel
theorem dX10_digestOnto_48 : decode cX10_digestOnto 48 = .ok (.ldc2_w 69, 3) := by decide +kernel
theorem dX10_digestOnto_51 : decode cX10_digestOnto 51 = .ok (.lload_n 3, 1) := by decide +kernel
theorem dX10_digestOnto_52 : decode cX10_digestOnto 52 = .ok (.lmul, 1) := by decide +kernel
theorem dX10_digestOnto_53 : decode cX10_digestOnto 53 = .ok (.aload_n 0, 1) := by decide +kernel
theorem dX10_digestOnto_54 : decode cX10_digestOnto 54 = .ok (.getfield 30, 3) := by decide +kernel
theorem dX10_digestOnto_57 : decode cX10_digestOnto 57 = .ok (.getfield 63, 3) := by decide +kernel
theorem dX10_digestOnto_60 : decode cX10_digestOnto 60 = .ok (.iload 5, 2) := by decide +kernel
theorem dX10_digestOnto_62 : decode cX10_digestOnto 62 = .ok (.iaload, 1) := by decide +kernel
theorem dX10_digestOnto_63 : decode cX10_digestOnto 63 = .ok (.i2l, 1) := by decide +kernel
theorem dX10_digestOnto_64 : decode cX10_digestOnto 64 = .ok (.ladd, 1) := by decide +kernel
theorem dX10_digestOnto_65 : decode cX10_digestOnto 65 = .ok (.lstore_n 3, 1) := by decide +kernel
theorem dX10_digestOnto_66 : decode cX10_digestOnto 66 = .ok (.ldc2_w 69, 3) := by decide +kernel
theorem dX10_digestOnto_69 : decode cX10_digestOnto 69 = .ok (.lload_n 3, 1) := by decide +kernel
theorem dX10_digestOnto_70 : decode cX10_digestOnto 70 = .ok (.lmul, 1) := by decide +kernel
theorem dX10_digestOnto_71 : decode cX10_digestOnto 71 = .ok (.aload_n 0, 1) := by decide +kernel
theorem dX10_digestOnto_72 : decode cX10_digestOnto 72 = .ok (.getfield 30, 3) := by decide +kernel
theorem dX10_digestOnto_75 : decode cX10_digestOnto 75 = .ok (.getfield 66, 3) := by decide +kernel
theorem dX10_digestOnto_78 : decode cX10_digestOnto 78 = .ok (.iload 5, 2) := by decide +kernel
theorem dX10_digestOnto_80 : decode cX10_digestOnto 80 = .ok (.iaload, 1) := by decide +kernel
theorem dX10_digestOnto_81 : decode cX10_digestOnto 81 = .ok (.i2l, 1) := by decide +kernel
theorem dX10_digestOnto_82 : decode cX10_digestOnto 82 = .ok (.ladd, 1) := by decide +kernel
theorem dX10_digestOnto_83 : decode cX10_digestOnto 83 = .ok (.lstore_n 3, 1) := by decide +kernel
theorem dX10_digestOnto_84 : decode cX10_digestOnto 84 = .ok (.ldc2_w 69, 3) := by decide +kernel
theorem dX10_digestOnto_87 : decode cX10_digestOnto 87 = .ok (.lload_n 3, 1) := by decide +kernel
theorem dX10_digestOnto_88 : decode cX10_digestOnto 88 = .ok (.lmul, 1) := by decide +kernel
theorem dX10_digestOnto_89 : decode cX10_digestOnto 89 = .ok (.aload_n 0, 1) := by decide +kernel
theorem dX10_digestOnto_90 : decode cX10_digestOnto 90 = .ok (.getfield 30, 3) := by decide +kernel
theorem dX10_digestOnto_93 : decode cX10_digestOnto 93 = .ok (.getfield 74, 3) := by decide +kernel
theorem dX10_digestOnto_96 : decode cX10_digestOnto 96 = .ok (.iload 5, 2) := by decide +kernel
theorem dX10_digestOnto_98 : decode cX10_digestOnto 98 = .ok (.invokestatic 77, 3) := by decide +kernel
theorem dX10_digestOnto_101 : decode cX10_digestOnto 101 = .ok (.ifCond .eq 7, 3) := by decide +kernel
theorem dX10_digestOnto_104 : decode cX10_digestOnto 104 = .ok (.iconst 1, 1) := by decide +kernel
theorem dX10_digestOnto_105 : decode cX10_digestOnto 105 = .ok (.goto 4, 3) := by decide +kernel
theorem dX10_digestOnto_108 : decode cX10_digestOnto 108 = .ok (.iconst 0, 1) := by decide +kernel
theorem dX10_digestOnto_109 : decode cX10_digestOnto 109 = .ok (.i2l, 1) := by decide +kernel
theorem dX10_digestOnto_110 : decode cX10_digestOnto 110 = .ok (.ladd, 1) := by decide +kernel
theorem dX10_digestOnto_111 : decode cX10_digestOnto 111 = .ok (.lstore_n 3, 1) := by decide +kernel
theorem dX10_digestOnto_112 : decode cX10_digestOnto 112 = .ok (.iinc 5 1, 3) := by decide +kernel
theorem dX10_digestOnto_115 : decode cX10_digestOnto 115 = .ok (.goto (-97), 3) := by decide +kernel
theorem dX10_digestOnto_118 : decode cX10_digestOnto 118 = .ok (.iconst 0, 1) := by decide +kernel
theorem dX10_digestOnto_119 : decode cX10_digestOnto 119 = .ok (.istore 5, 2) := by decide +kernel
theorem dX10_digestOnto_121 : decode cX10_digestOnto 121 = .ok (.iload 5, 2) := by decide +kernel
theorem dX10_digestOnto_123 : decode cX10_digestOnto 123 = .ok (.aload_n 0, 1) := by decide +kernel
theorem dX10_digestOnto_124 : decode cX10_digestOnto 124 = .ok (.getfield 37, 3) := by decide +kernel
theorem dX10_digestOnto_127 : decode cX10_digestOnto 127 = .ok (.if_icmp .ge 24, 3) := by decide +kernel
theorem dX10_digestOnto_130 : decode cX10_digestOnto 130 = .ok (.ldc2_w 69, 3) := by decide +kernel
theorem dX10_digestOnto_133 : decode cX10_digestOnto 133 = .ok (.lload_n 3, 1) := by decide +kernel
theorem dX10_digestOnto_134 : decode cX10_digestOnto 134 = .ok (.lmul, 1) := by decide +kernel
theorem dX10_digestOnto_135 : decode cX10_digestOnto 135 = .ok (.aload_n 0, 1) := by decide +kernel
theorem dX10_digestOnto_136 : decode cX10_digestOnto 136 = .ok (.getfield 9, 3) := by decide +kernel
theorem dX10_digestOnto_139 : decode cX10_digestOnto 139 = .ok (.iload 5, 2) := by decide +kernel
theorem dX10_digestOnto_141 : decode cX10_digestOnto 141 = .ok (.iaload, 1) := by decide +kernel
theorem dX10_digestOnto_142 : decode cX10_digestOnto 142 = .ok (.i2l, 1) := by decide +kernel
theorem dX10_digestOnto_143 : decode cX10_digestOnto 143 = .ok (.ladd, 1) := by decide +kernel
theorem dX10_digestOnto_144 : decode cX10_digestOnto 144 = .ok (.lstore_n 3, 1) := by decide +kernel
theorem dX10_digestOnto_145 : decode cX10_digestOnto 145 = .ok (.iinc 5 1, 3) := by decide +kernel
theorem dX10_digestOnto_148 : decode cX10_digestOnto 148 = .ok (.goto (-27), 3) := by decide +kernel
theorem dX10_digestOnto_151 : decode cX10_digestOnto 151 = .ok (.iconst 0, 1) := by decide +kernel
theorem dX10_digestOnto_152 : decode cX10_digestOnto 152 = .ok (.istore 5, 2) := by decide +kernel
theorem dX10_digestOnto_154 : decode cX10_digestOnto 154 = .ok (.iload 5, 2) := by decide +kernel
theorem dX10_digestOnto_156 : decode cX10_digestOnto 156 = .ok (.aload_n 0, 1) := by decide +kernel
theorem dX10_digestOnto_157 : decode cX10_digestOnto 157 = .ok (.getfield 41, 3) := by decide +kernel
theorem dX10_digestOnto_160 : decode cX10_digestOnto 160 = .ok (.if_icmp .ge 39, 3) := by decide +kernel
theorem dX10_digestOnto_163 : decode cX10_digestOnto 163 = .ok (.ldc2_w 69, 3) := by decide +kernel
theorem dX10_digestOnto_166 : decode cX10_digestOnto 166 = .ok (.lload_n 3, 1) := by decide +kernel
theorem dX10_digestOnto_167 : decode cX10_digestOnto 167 = .ok (.lmul, 1) := by decide +kernel
theorem dX10_digestOnto_168 : decode cX10_digestOnto 168 = .ok (.aload_n 0, 1) := by decide +kernel
theorem dX10_digestOnto_169 : decode cX10_digestOnto 169 = .ok (.getfield 15, 3) := by decide +kernel
theorem dX10_digestOnto_172 : decode cX10_digestOnto 172 = .ok (.iload 5, 2) := by decide +kernel
theorem dX10_digestOnto_174 : decode cX10_digestOnto 174 = .ok (.iaload, 1) := by decide +kernel
theorem dX10_digestOnto_175 : decode cX10_digestOnto 175 = .ok (.i2l, 1) := by decide +kernel
theorem dX10_digestOnto_176 : decode cX10_digestOnto 176 = .ok (.ladd, 1) := by decide +kernel
theorem dX10_digestOnto_177 : decode cX10_digestOnto 177 = .ok (.lstore_n 3, 1) := by decide +kernel
theorem dX10_digestOnto_178 : decode cX10_digestOnto 178 = .ok (.ldc2_w 69, 3) := by decide +kernel
theorem dX10_digestOnto_181 : decode cX10_digestOnto 181 = .ok (.lload_n 3, 1) := by decide +kernel
theorem dX10_digestOnto_182 : decode cX10_digestOnto 182 = .ok (.lmul, 1) := by decide +kernel
theorem dX10_digestOnto_183 : decode cX10_digestOnto 183 = .ok (.aload_n 0, 1) := by decide +kernel
theorem dX10_digestOnto_184 : decode cX10_digestOnto 184 = .ok (.getfield 18, 3) := by decide +kernel
theorem dX10_digestOnto_187 : decode cX10_digestOnto 187 = .ok (.iload 5, 2) := by decide +kernel
theorem dX10_digestOnto_189 : decode cX10_digestOnto 189 = .ok (.iaload, 1) := by decide +kernel
theorem dX10_digestOnto_190 : decode cX10_digestOnto 190 = .ok (.i2l, 1) := by decide +kernel
theorem dX10_digestOnto_191 : decode cX10_digestOnto 191 = .ok (.ladd, 1) := by decide +kernel
theorem dX10_digestOnto_192 : decode cX10_digestOnto 192 = .ok (.lstore_n 3, 1) := by decide +kernel
theorem dX10_digestOnto_193 : decode cX10_digestOnto 193 = .ok (.iinc 5 1, 3) := by decide +kernel
theorem dX10_digestOnto_196 : decode cX10_digestOnto 196 = .ok (.goto (-42), 3) := by decide +kernel
theorem dX10_digestOnto_199 : decode cX10_digestOnto 199 = .ok (.lload_n 3, 1) := by decide +kernel
theorem dX10_digestOnto_200 : decode cX10_digestOnto 200 = .ok (.lreturn, 1) := by decide +kernel
theorem dX11_init_0 : decode cX11_init 0 = .ok (.aload_n 0, 1) := by decide +kernel
theorem dX11_init_1 : decode cX11_init 1 = .ok (.invokespecial 1, 3) := by decide +kernel
theorem dX11_init_4 : decode cX11_init 4 = .ok (.bipush 6, 2) := by decide +kernel
theorem dX11_init_6 : decode cX11_init 6 = .ok (.anewarray 9, 3) := by decide +kernel
theorem dX11_init_9 : decode cX11_init 9 = .ok (.astore_n 1, 1) := by decide +kernel
theorem dX11_init_10 : decode cX11_init 10 = .ok (.aload_n 1, 1) := by decide +kernel
theorem dX11_init_11 : decode cX11_init 11 = .ok (.iconst 0, 1) := by decide +kernel
theorem dX11_init_12 : decode cX11_init 12 = .ok (.new 9, 3) := by decide +kernel
theorem dX11_init_15 : decode cX11_init 15 = .ok (.dup, 1) := by decide +kernel
theorem dX11_init_16 : decode cX11_init 16 = .ok (.invokespecial 11, 3) := by decide +kernel
theorem dX11_init_19 : decode cX11_init 19 = .ok (.aastore, 1) := by decide +kernel
theorem dX11_init_20 : decode cX11_init 20 = .ok (.aload_n 1, 1) := by decide +kernel
theorem dX11_init_21 : decode cX11_init 21 = .ok (.iconst 1, 1) := by decide +kernel
theorem dX11_init_22 : decode cX11_init 22 = .ok (.new 12, 3) := by decide +kernel
theorem dX11_init_25 : decode cX11_init 25 = .ok (.dup, 1) := by decide +kernel
theorem dX11_init_26 : decode cX11_init 26 = .ok (.invokespecial 14, 3) := by decide +kernel
theorem dX11_init_29 : decode cX11_init 29 = .ok (.aastore, 1) := by decide +kernel
theorem dX11_init_30 : decode cX11_init 30 = .ok (.aload_n 1, 1) := by decide +kernel
theorem dX11_init_31 : decode cX11_init 31 = .ok (.iconst 2, 1) := by decide +kernel
theorem dX11_init_32 : decode cX11_init 32 = .ok (.new 15, 3) := by decide +kernel
theorem dX11_init_35 : decode cX11_init 35 = .ok (.dup, 1) := by decide +kernel
theorem dX11_init_36 : decode cX11_init 36 = .ok (.invokespecial 17, 3) := by decide +kernel
theorem dX11_init_39 : decode cX11_init 39 = .ok (.aastore, 1) := by decide +kernel
theorem dX11_init_40 : decode cX11_init 40 = .ok (.aload_n 1, 1) := by decide +kernel
theorem dX11_init_41 : decode cX11_init 41 = .ok (.iconst 3, 1) := by decide +kernel
theorem dX11_init_42 : decode cX11_init 42 = .ok (.new 18, 3) := by decide +kernel
theorem dX11_init_45 : decode cX11_init 45 = .ok (.dup, 1) := by decide +kernel
theorem dX11_init_46 : decode cX11_init 46 = .ok (.invokespecial 20, 3) := by decide +kernel
theorem dX11_init_49 : decode cX11_init 49 = .ok (.aastore, 1) := by decide +kernel
theorem dX11_init_50 : decode cX11_init 50 = .ok (.aload_n 1, 1) := by decide +kernel
theorem dX11_init_51 : decode cX11_init 51 = .ok (.iconst 4, 1) := by decide +kernel
theorem dX11_init_52 : decode cX11_init 52 = .ok (.new 21, 3) := by decide +kernel
theorem dX11_init_55 : decode cX11_init 55 = .ok (.dup, 1) := by decide +kernel
theorem dX11_init_56 : decode cX11_init 56 = .ok (.invokespecial 23, 3) := by decide +kernel
theorem dX11_init_59 : decode cX11_init 59 = .ok (.aastore, 1) := by decide +kernel
theorem dX11_init_60 : decode cX11_init 60 = .ok (.aload_n 1, 1) := by decide +kernel
theorem dX11_init_61 : decode cX11_init 61 = .ok (.iconst 5, 1) := by decide +kernel
theorem dX11_init_62 : decode cX11_init 62 = .ok (.new 24, 3) := by decide +kernel
theorem dX11_init_65 : decode cX11_init 65 = .ok (.dup, 1) := by decide +kernel
theorem dX11_init_66 : decode cX11_init 66 = .ok (.invokespecial 26, 3) := by decide +kernel
theorem dX11_init_69 : decode cX11_init 69 = .ok (.aastore, 1) := by decide +kernel
theorem dX11_init_70 : decode cX11_init 70 = .ok (.aload_n 0, 1) := by decide +kernel
theorem dX11_init_71 : decode cX11_init 71 = .ok (.new 27, 3) := by decide +kernel
theorem dX11_init_74 : decode cX11_init 74 = .ok (.dup, 1) := by decide +kernel
theorem dX11_init_75 : decode cX11_init 75 = .ok (.aload_n 1, 1) := by decide +kernel
theorem dX11_init_76 : decode cX11_init 76 = .ok (.invokespecial 29, 3) := by decide +kernel
theorem dX11_init_79 : decode cX11_init 79 = .ok (.putfield 32, 3) := by decide +kernel
theorem dX11_init_82 : decode cX11_init 82 = .ok (.aload_n 0, 1) := by decide +kernel
theorem dX11_init_83 : decode cX11_init 83 = .ok (.new 27, 3) := by decide +kernel
theorem dX11_init_86 : decode cX11_init 86 = .ok (.dup, 1) := by decide +kernel
theorem dX11_init_87 : decode cX11_init 87 = .ok (.aload_n 1, 1) := by decide +kernel
theorem dX11_init_88 : decode cX11_init 88 = .ok (.invokespecial 29, 3) := by decide +kernel
theorem dX11_init_91 : decode cX11_init 91 = .ok (.putfield 36, 3) := by decide +kernel
theorem dX11_init_94 : decode cX11_init 94 = .ok (.aload_n 0, 1) := by decide +kernel
theorem dX11_init_95 : decode cX11_init 95 = .ok (.iconst 2, 1) := by decide +kernel
theorem dX11_init_96 : decode cX11_init 96 = .ok (.anewarray 27, 3) := by decide +kernel
theorem dX11_init_99 : decode cX11_init 99 = .ok (.putfield 39, 3) := by decide +kernel
theorem dX11_init_102 : decode cX11_init 102 = .ok (.iconst 0, 1) := by decide +kernel
theorem dX11_init_103 : decode cX11_init 103 = .ok (.istore_n 2, 1) := by decide +kernel
theorem dX11_init_104 : decode cX11_init 104 = .ok (.iload_n 2, 1) := by decide +kernel
theorem dX11_init_105 : decode cX11_init 105 = .ok (.iconst 2, 1) := by decide +kernel
theorem dX11_init_106 : decode cX11_init 106 = .ok (.if_icmp .ge 23, 3) := by decide +kernel
theorem dX11_init_109 : decode cX11_init 109 = .ok (.aload_n 0, 1) := by decide +kernel
theorem dX11_init_110 : decode cX11_init 110 = .ok (.getfield 39, 3) := by decide +kernel
theorem dX11_init_113 : decode cX11_init 113 = .ok (.iload_n 2, 1) := by decide +kernel
theorem dX11_init_114 : decode cX11_init 114 = .ok (.new 27, 3) := by decide +kernel
theorem dX11_init_117 : decode cX11_init 117 = .ok (.dup, 1) := by decide +kernel
theorem dX11_init_118 : decode cX11_init 118 = .ok (.aload_n 1, 1) := by decide +kernel
theorem dX11_init_119 : decode cX11_init 119 = .ok (.invokespecial 29, 3) := by decide +kernel
theorem dX11_init_122 : decode cX11_init 122 = .ok (.aastore, 1) := by decide +kernel
theorem dX11_init_123 : decode cX11_init 123 = .ok (.iinc 2 1, 3) := by decide +kernel
theorem dX11_init_126 : decode cX11_init 126 = .ok (.goto (-22), 3) := by decide +kernel
theorem dX11_init_129 : decode cX11_init 129 = .ok (.aload_n 0, 1) := by decide +kernel
theorem dX11_init_130 : decode cX11_init 130 = .ok (.iconst 2, 1) := by decide +kernel
theorem dX11_init_131 : decode cX11_init 131 = .ok (.newarray .boolean, 2) := by decide +kernel
theorem dX11_init_133 : decode cX11_init 133 = .ok (.putfield 43, 3) := by decide +kernel
theorem dX11_init_136 : decode cX11_init 136 = .ok (.aload_n 0, 1) := by decide +kernel
theorem dX11_init_137 : decode cX11_init 137 = .ok (.new 47, 3) := by decide +kernel
theorem dX11_init_140 : decode cX11_init 140 = .ok (.dup, 1) := by decide +kernel
theorem dX11_init_141 : decode cX11_init 141 = .ok (.aload_n 1, 1) := by decide +kernel
theorem dX11_init_142 : decode cX11_init 142 = .ok (.invokespecial 49, 3) := by decide +kernel
theorem dX11_init_145 : decode cX11_init 145 = .ok (.putfield 50, 3) := by decide +kernel
theorem dX11_init_148 : decode cX11_init 148 = .ok (.aload_n 0, 1) := by decide +kernel
theorem dX11_init_149 : decode cX11_init 149 = .ok (.new 54, 3) := by decide +kernel
theorem dX11_init_152 : decode cX11_init 152 = .ok (.dup, 1) := by decide +kernel
theorem dX11_init_153 : decode cX11_init 153 = .ok (.aload_n 1, 1) := by decide +kernel
theorem dX11_init_154 : decode cX11_init 154 = .ok (.invokespecial 56, 3) := by decide +kernel
theorem dX11_init_157 : decode cX11_init 157 = .ok (.putfield 57, 3) := by decide +kernel
theorem dX11_init_160 : decode cX11_init 160 = .ok (.aload_n 0, 1) := by decide +kernel
theorem dX11_init_161 : decode cX11_init 161 = .ok (.new 61, 3) := by decide +kernel
theorem dX11_init_164 : decode cX11_init 164 = .ok (.dup, 1) := by decide +kernel
theorem dX11_init_165 : decode cX11_init 165 = .ok (.aload_n 1, 1) := by decide +kernel
theorem dX11_init_166 : decode cX11_init 166 = .ok (.invokespecial 63, 3) := by decide +kernel
theorem dX11_init_169 : decode cX11_init 169 = .ok (.putfield 64, 3) := by decide +kernel
theorem dX11_init_172 : decode cX11_init 172 = .ok (.aload_n 0, 1) := by decide +kernel
theorem dX11_init_173 : decode cX11_init 173 = .ok (.new 68, 3) := by decide +kernel
theorem dX11_init_176 : decode cX11_init 176 = .ok (.dup, 1) := by decide +kernel
theorem dX11_init_177 : decode cX11_init 177 = .ok (.invokespecial 70, 3) := by decide +kernel
theorem dX11_init_180 : decode cX11_init 180 = .ok (.putfield 71, 3) := by decide +kernel
theorem dX11_init_183 : decode cX11_init 183 = .ok (.aload_n 0, 1) := by decide +kernel
theorem dX11_init_184 : decode cX11_init 184 = .ok (.iconst 0, 1) := by decide +kernel
theorem dX11_init_185 : decode cX11_init 185 = .ok (.putfield 75, 3) := by decide +kernel
theorem dX11_init_188 : decode cX11_init 188 = .ok (.aload_n 0, 1) := by decide +kernel
theorem dX11_init_189 : decode cX11_init 189 = .ok (.iconst 1, 1) := by decide +kernel
theorem dX11_init_190 : decode cX11_init 190 = .ok (.putfield 79, 3) := by decide +kernel
theorem dX11_init_193 : decode cX11_init 193 = .ok (.return_, 1) := by decide +kernel
theorem dX11_ship_0 : decode cX11_ship 0 = .ok (.aload_n 0, 1) := by decide +kernel
theorem dX11_ship_1 : decode cX11_ship 1 = .ok (.getfield 32, 3) := by decide +kernel
theorem dX11_ship_4 : decode cX11_ship 4 = .ok (.getfield 82, 3) := by decide +kernel
theorem dX11_ship_7 : decode cX11_ship 7 = .ok (.getfield 85, 3) := by decide +kernel
theorem dX11_ship_10 : decode cX11_ship 10 = .ok (.istore_n 1, 1) := by decide +kernel
theorem dX11_ship_11 : decode cX11_ship 11 = .ok (.aload_n 0, 1) := by decide +kernel
theorem dX11_ship_12 : decode cX11_ship 12 = .ok (.getfield 32, 3) := by decide +kernel
theorem dX11_ship_15 : decode cX11_ship 15 = .ok (.invokevirtual 88, 3) := by decide +kernel
theorem dX11_ship_18 : decode cX11_ship 18 = .ok (.iload_n 1, 1) := by decide +kernel
theorem dX11_ship_19 : decode cX11_ship 19 = .ok (.ireturn, 1) := by decide +kernel
theorem dX11_rock_0 : decode cX11_rock 0 = .ok (.iload_n 1, 1) := by decide +kernel
theorem dX11_rock_1 : decode cX11_rock 1 = .ok (.invokestatic 91, 3) := by decide +kernel
theorem dX11_rock_4 : decode cX11_rock 4 = .ok (.ifCond .ne 10, 3) := by decide +kernel
theorem dX11_rock_7 : decode cX11_rock 7 = .ok (.aload_n 0, 1) := by decide +kernel
theorem dX11_rock_8 : decode cX11_rock 8 = .ok (.bipush (-2), 2) := by decide +kernel
theorem dX11_rock_10 : decode cX11_rock 10 = .ok (.invokevirtual 95, 3) := by decide +kernel
theorem dX11_rock_13 : decode cX11_rock 13 = .ok (.ireturn, 1) := by decide +kernel
theorem dX11_rock_14 : decode cX11_rock 14 = .ok (.aload_n 0, 1) := by decide +kernel
theorem dX11_rock_15 : decode cX11_rock 15 = .ok (.getfield 32, 3) := by decide +kernel
theorem dX11_rock_18 : decode cX11_rock 18 = .ok (.iload_n 1, 1) := by decide +kernel
theorem dX11_rock_19 : decode cX11_rock 19 = .ok (.invokevirtual 99, 3) := by decide +kernel
theorem dX11_rock_22 : decode cX11_rock 22 = .ok (.ifCond .eq 8, 3) := by decide +kernel
theorem dX11_rock_25 : decode cX11_rock 25 = .ok (.aload_n 0, 1) := by decide +kernel
theorem dX11_rock_26 : decode cX11_rock 26 = .ok (.invokevirtual 102, 3) := by decide +kernel
theorem dX11_rock_29 : decode cX11_rock 29 = .ok (.ireturn, 1) := by decide +kernel
theorem dX11_rock_30 : decode cX11_rock 30 = .ok (.aload_n 0, 1) := by decide +kernel
theorem dX11_rock_31 : decode cX11_rock 31 = .ok (.getfield 32, 3) := by decide +kernel
theorem dX11_rock_34 : decode cX11_rock 34 = .ok (.getfield 106, 3) := by decide +kernel
theorem dX11_rock_37 : decode cX11_rock 37 = .ok (.bipush 6, 2) := by decide +kernel
theorem dX11_rock_39 : decode cX11_rock 39 = .ok (.if_icmp .lt 8, 3) := by decide +kernel
end
section
theorem dX11_rock_42 : decode cX11_rock 42 = .ok (.aload_n 0, 1) := by decide +kernel
theorem dX11_rock_43 : decode cX11_rock 43 = .ok (.invokevirtual 109, 3) := by decide +kernel
theorem dX11_rock_46 : decode cX11_rock 46 = .ok (.ireturn, 1) := by decide +kernel
theorem dX11_rock_47 : decode cX11_rock 47 = .ok (.aload_n 0, 1) := by decide +kernel
theorem dX11_rock_48 : decode cX11_rock 48 = .ok (.getfield 32, 3) := by decide +kernel
theorem dX11_rock_51 : decode cX11_rock 51 = .ok (.iload_n 1, 1) := by decide +kernel
theorem dX11_rock_52 : decode cX11_rock 52 = .ok (.invokevirtual 112, 3) := by decide +kernel
theorem dX11_rock_55 : decode cX11_rock 55 = .ok (.aload_n 0, 1) := by decide +kernel
theorem dX11_rock_56 : decode cX11_rock 56 = .ok (.getfield 32, 3) := by decide +kernel
theorem dX11_rock_59 : decode cX11_rock 59 = .ok (.getfield 106, 3) := by decide +kernel
theorem dX11_rock_62 : decode cX11_rock 62 = .ok (.ireturn, 1) := by decide +kernel
theorem dX11_hand_0 : decode cX11_hand 0 = .ok (.iload_n 1, 1) := by decide +kernel
theorem dX11_hand_1 : decode cX11_hand 1 = .ok (.iconst 0, 1) := by decide +kernel
theorem dX11_hand_2 : decode cX11_hand 2 = .ok (.iconst 5, 1) := by decide +kernel
theorem dX11_hand_3 : decode cX11_hand 3 = .ok (.invokestatic 116, 3) := by decide +kernel
theorem dX11_hand_6 : decode cX11_hand 6 = .ok (.ifCond .eq 20, 3) := by decide +kernel
theorem dX11_hand_9 : decode cX11_hand 9 = .ok (.iload_n 2, 1) := by decide +kernel
theorem dX11_hand_10 : decode cX11_hand 10 = .ok (.iconst 0, 1) := by decide +kernel
theorem dX11_hand_11 : decode cX11_hand 11 = .ok (.bipush 40, 2) := by decide +kernel
theorem dX11_hand_13 : decode cX11_hand 13 = .ok (.invokestatic 116, 3) := by decide +kernel
theorem dX11_hand_16 : decode cX11_hand 16 = .ok (.ifCond .eq 10, 3) := by decide +kernel
theorem dX11_hand_19 : decode cX11_hand 19 = .ok (.iload_n 3, 1) := by decide +kernel
theorem dX11_hand_20 : decode cX11_hand 20 = .ok (.invokestatic 120, 3) := by decide +kernel
theorem dX11_hand_23 : decode cX11_hand 23 = .ok (.ifCond .ne 10, 3) := by decide +kernel
theorem dX11_hand_26 : decode cX11_hand 26 = .ok (.aload_n 0, 1) := by decide +kernel
theorem dX11_hand_27 : decode cX11_hand 27 = .ok (.bipush (-2), 2) := by decide +kernel
theorem dX11_hand_29 : decode cX11_hand 29 = .ok (.invokevirtual 95, 3) := by decide +kernel
theorem dX11_hand_32 : decode cX11_hand 32 = .ok (.ireturn, 1) := by decide +kernel
theorem dX11_hand_33 : decode cX11_hand 33 = .ok (.aload_n 0, 1) := by decide +kernel
theorem dX11_hand_34 : decode cX11_hand 34 = .ok (.getfield 32, 3) := by decide +kernel
theorem dX11_hand_37 : decode cX11_hand 37 = .ok (.getfield 82, 3) := by decide +kernel
theorem dX11_hand_40 : decode cX11_hand 40 = .ok (.getfield 85, 3) := by decide +kernel
theorem dX11_hand_43 : decode cX11_hand 43 = .ok (.bipush 6, 2) := by decide +kernel
theorem dX11_hand_45 : decode cX11_hand 45 = .ok (.if_icmp .lt 8, 3) := by decide +kernel
theorem dX11_hand_48 : decode cX11_hand 48 = .ok (.aload_n 0, 1) := by decide +kernel
theorem dX11_hand_49 : decode cX11_hand 49 = .ok (.invokevirtual 109, 3) := by decide +kernel
theorem dX11_hand_52 : decode cX11_hand 52 = .ok (.ireturn, 1) := by decide +kernel
theorem dX11_hand_53 : decode cX11_hand 53 = .ok (.aload_n 0, 1) := by decide +kernel
theorem dX11_hand_54 : decode cX11_hand 54 = .ok (.getfield 32, 3) := by decide +kernel
theorem dX11_hand_57 : decode cX11_hand 57 = .ok (.iload_n 1, 1) := by decide +kernel
theorem dX11_hand_58 : decode cX11_hand 58 = .ok (.iload_n 2, 1) := by decide +kernel
theorem dX11_hand_59 : decode cX11_hand 59 = .ok (.iload_n 3, 1) := by decide +kernel
theorem dX11_hand_60 : decode cX11_hand 60 = .ok (.invokevirtual 123, 3) := by decide +kernel
theorem dX11_hand_63 : decode cX11_hand 63 = .ok (.aload_n 0, 1) := by decide +kernel
theorem dX11_hand_64 : decode cX11_hand 64 = .ok (.getfield 32, 3) := by decide +kernel
theorem dX11_hand_67 : decode cX11_hand 67 = .ok (.getfield 82, 3) := by decide +kernel
theorem dX11_hand_70 : decode cX11_hand 70 = .ok (.getfield 85, 3) := by decide +kernel
theorem dX11_hand_73 : decode cX11_hand 73 = .ok (.iconst 1, 1) := by decide +kernel
theorem dX11_hand_74 : decode cX11_hand 74 = .ok (.isub, 1) := by decide +kernel
theorem dX11_hand_75 : decode cX11_hand 75 = .ok (.ireturn, 1) := by decide +kernel
theorem dX11_type_0 : decode cX11_type 0 = .ok (.iload_n 1, 1) := by decide +kernel
theorem dX11_type_1 : decode cX11_type 1 = .ok (.iconst 0, 1) := by decide +kernel
theorem dX11_type_2 : decode cX11_type 2 = .ok (.bipush 127, 2) := by decide +kernel
theorem dX11_type_4 : decode cX11_type 4 = .ok (.invokestatic 116, 3) := by decide +kernel
theorem dX11_type_7 : decode cX11_type 7 = .ok (.ifCond .ne 10, 3) := by decide +kernel
theorem dX11_type_10 : decode cX11_type 10 = .ok (.aload_n 0, 1) := by decide +kernel
theorem dX11_type_11 : decode cX11_type 11 = .ok (.bipush (-2), 2) := by decide +kernel
theorem dX11_type_13 : decode cX11_type 13 = .ok (.invokevirtual 95, 3) := by decide +kernel
theorem dX11_type_16 : decode cX11_type 16 = .ok (.ireturn, 1) := by decide +kernel
theorem dX11_type_17 : decode cX11_type 17 = .ok (.aload_n 0, 1) := by decide +kernel
theorem dX11_type_18 : decode cX11_type 18 = .ok (.getfield 71, 3) := by decide +kernel
theorem dX11_type_21 : decode cX11_type 21 = .ok (.getfield 127, 3) := by decide +kernel
theorem dX11_type_24 : decode cX11_type 24 = .ok (.sipush 150, 3) := by decide +kernel
theorem dX11_type_27 : decode cX11_type 27 = .ok (.if_icmp .lt 8, 3) := by decide +kernel
theorem dX11_type_30 : decode cX11_type 30 = .ok (.aload_n 0, 1) := by decide +kernel
theorem dX11_type_31 : decode cX11_type 31 = .ok (.invokevirtual 109, 3) := by decide +kernel
theorem dX11_type_34 : decode cX11_type 34 = .ok (.ireturn, 1) := by decide +kernel
theorem dX11_type_35 : decode cX11_type 35 = .ok (.aload_n 0, 1) := by decide +kernel
theorem dX11_type_36 : decode cX11_type 36 = .ok (.getfield 71, 3) := by decide +kernel
theorem dX11_type_39 : decode cX11_type 39 = .ok (.iload_n 1, 1) := by decide +kernel
theorem dX11_type_40 : decode cX11_type 40 = .ok (.invokevirtual 130, 3) := by decide +kernel
theorem dX11_type_43 : decode cX11_type 43 = .ok (.aload_n 0, 1) := by decide +kernel
theorem dX11_type_44 : decode cX11_type 44 = .ok (.getfield 71, 3) := by decide +kernel
theorem dX11_type_47 : decode cX11_type 47 = .ok (.getfield 127, 3) := by decide +kernel
theorem dX11_type_50 : decode cX11_type 50 = .ok (.ireturn, 1) := by decide +kernel
theorem dX11_clear_0 : decode cX11_clear 0 = .ok (.aload_n 0, 1) := by decide +kernel
theorem dX11_clear_1 : decode cX11_clear 1 = .ok (.getfield 71, 3) := by decide +kernel
theorem dX11_clear_4 : decode cX11_clear 4 = .ok (.getfield 127, 3) := by decide +kernel
theorem dX11_clear_7 : decode cX11_clear 7 = .ok (.istore_n 1, 1) := by decide +kernel
theorem dX11_clear_8 : decode cX11_clear 8 = .ok (.aload_n 0, 1) := by decide +kernel
theorem dX11_clear_9 : decode cX11_clear 9 = .ok (.getfield 71, 3) := by decide +kernel
theorem dX11_clear_12 : decode cX11_clear 12 = .ok (.iconst 0, 1) := by decide +kernel
theorem dX11_clear_13 : decode cX11_clear 13 = .ok (.putfield 127, 3) := by decide +kernel
theorem dX11_clear_16 : decode cX11_clear 16 = .ok (.iload_n 1, 1) := by decide +kernel
theorem dX11_clear_17 : decode cX11_clear 17 = .ok (.ireturn, 1) := by decide +kernel
theorem dX11_read_0 : decode cX11_read 0 = .ok (.aload_n 0, 1) := by decide +kernel
theorem dX11_read_1 : decode cX11_read 1 = .ok (.getfield 71, 3) := by decide +kernel
theorem dX11_read_4 : decode cX11_read 4 = .ok (.aload_n 0, 1) := by decide +kernel
theorem dX11_read_5 : decode cX11_read 5 = .ok (.getfield 36, 3) := by decide +kernel
theorem dX11_read_8 : decode cX11_read 8 = .ok (.invokevirtual 133, 3) := by decide +kernel
theorem dX11_read_11 : decode cX11_read 11 = .ok (.istore_n 1, 1) := by decide +kernel
theorem dX11_read_12 : decode cX11_read 12 = .ok (.aload_n 0, 1) := by decide +kernel
theorem dX11_read_13 : decode cX11_read 13 = .ok (.getfield 71, 3) := by decide +kernel
theorem dX11_read_16 : decode cX11_read 16 = .ok (.getfield 137, 3) := by decide +kernel
theorem dX11_read_19 : decode cX11_read 19 = .ok (.iconst (-1), 1) := by decide +kernel
theorem dX11_read_20 : decode cX11_read 20 = .ok (.if_icmp .eq 14, 3) := by decide +kernel
theorem dX11_read_23 : decode cX11_read 23 = .ok (.bipush (-10), 2) := by decide +kernel
theorem dX11_read_25 : decode cX11_read 25 = .ok (.aload_n 0, 1) := by decide +kernel
theorem dX11_read_26 : decode cX11_read 26 = .ok (.getfield 71, 3) := by decide +kernel
theorem dX11_read_29 : decode cX11_read 29 = .ok (.getfield 137, 3) := by decide +kernel
theorem dX11_read_32 : decode cX11_read 32 = .ok (.isub, 1) := by decide +kernel
theorem dX11_read_33 : decode cX11_read 33 = .ok (.ireturn, 1) := by decide +kernel
theorem dX11_read_34 : decode cX11_read 34 = .ok (.aload_n 0, 1) := by decide +kernel
theorem dX11_read_35 : decode cX11_read 35 = .ok (.getfield 32, 3) := by decide +kernel
theorem dX11_read_38 : decode cX11_read 38 = .ok (.aload_n 0, 1) := by decide +kernel
theorem dX11_read_39 : decode cX11_read 39 = .ok (.getfield 36, 3) := by decide +kernel
theorem dX11_read_42 : decode cX11_read 42 = .ok (.invokevirtual 140, 3) := by decide +kernel
theorem dX11_read_45 : decode cX11_read 45 = .ok (.iload_n 1, 1) := by decide +kernel
theorem dX11_read_46 : decode cX11_read 46 = .ok (.ireturn, 1) := by decide +kernel
theorem dX11_feed_0 : decode cX11_feed 0 = .ok (.aload_n 0, 1) := by decide +kernel
theorem dX11_feed_1 : decode cX11_feed 1 = .ok (.iload_n 1, 1) := by decide +kernel
theorem dX11_feed_2 : decode cX11_feed 2 = .ok (.invokevirtual 144, 3) := by decide +kernel
theorem dX11_feed_5 : decode cX11_feed 5 = .ok (.ifCond .ne 10, 3) := by decide +kernel
theorem dX11_feed_8 : decode cX11_feed 8 = .ok (.aload_n 0, 1) := by decide +kernel
theorem dX11_feed_9 : decode cX11_feed 9 = .ok (.bipush (-2), 2) := by decide +kernel
theorem dX11_feed_11 : decode cX11_feed 11 = .ok (.invokevirtual 95, 3) := by decide +kernel
theorem dX11_feed_14 : decode cX11_feed 14 = .ok (.ireturn, 1) := by decide +kernel
theorem dX11_feed_15 : decode cX11_feed 15 = .ok (.aload_n 0, 1) := by decide +kernel
theorem dX11_feed_16 : decode cX11_feed 16 = .ok (.getfield 32, 3) := by decide +kernel
theorem dX11_feed_19 : decode cX11_feed 19 = .ok (.getfield 82, 3) := by decide +kernel
theorem dX11_feed_22 : decode cX11_feed 22 = .ok (.getfield 147, 3) := by decide +kernel
theorem dX11_feed_25 : decode cX11_feed 25 = .ok (.iload_n 1, 1) := by decide +kernel
theorem dX11_feed_26 : decode cX11_feed 26 = .ok (.invokestatic 150, 3) := by decide +kernel
theorem dX11_feed_29 : decode cX11_feed 29 = .ok (.ifCond .eq 8, 3) := by decide +kernel
theorem dX11_feed_32 : decode cX11_feed 32 = .ok (.aload_n 0, 1) := by decide +kernel
theorem dX11_feed_33 : decode cX11_feed 33 = .ok (.invokevirtual 102, 3) := by decide +kernel
theorem dX11_feed_36 : decode cX11_feed 36 = .ok (.ireturn, 1) := by decide +kernel
theorem dX11_feed_37 : decode cX11_feed 37 = .ok (.aload_n 0, 1) := by decide +kernel
theorem dX11_feed_38 : decode cX11_feed 38 = .ok (.getfield 32, 3) := by decide +kernel
theorem dX11_feed_41 : decode cX11_feed 41 = .ok (.invokevirtual 154, 3) := by decide +kernel
theorem dX11_feed_44 : decode cX11_feed 44 = .ok (.aload_n 0, 1) := by decide +kernel
theorem dX11_feed_45 : decode cX11_feed 45 = .ok (.getfield 32, 3) := by decide +kernel
theorem dX11_feed_48 : decode cX11_feed 48 = .ok (.getfield 82, 3) := by decide +kernel
theorem dX11_feed_51 : decode cX11_feed 51 = .ok (.dup, 1) := by decide +kernel
theorem dX11_feed_52 : decode cX11_feed 52 = .ok (.getfield 147, 3) := by decide +kernel
theorem dX11_feed_55 : decode cX11_feed 55 = .ok (.iconst 1, 1) := by decide +kernel
theorem dX11_feed_56 : decode cX11_feed 56 = .ok (.iload_n 1, 1) := by decide +kernel
theorem dX11_feed_57 : decode cX11_feed 57 = .ok (.ishl, 1) := by decide +kernel
theorem dX11_feed_58 : decode cX11_feed 58 = .ok (.ior, 1) := by decide +kernel
theorem dX11_feed_59 : decode cX11_feed 59 = .ok (.putfield 147, 3) := by decide +kernel
theorem dX11_feed_62 : decode cX11_feed 62 = .ok (.iconst 1, 1) := by decide +kernel
theorem dX11_feed_63 : decode cX11_feed 63 = .ok (.ireturn, 1) := by decide +kernel
theorem dX11_watch_0 : decode cX11_watch 0 = .ok (.aload_n 0, 1) := by decide +kernel
theorem dX11_watch_1 : decode cX11_watch 1 = .ok (.getfield 32, 3) := by decide +kernel
theorem dX11_watch_4 : decode cX11_watch 4 = .ok (.getfield 82, 3) := by decide +kernel
theorem dX11_watch_7 : decode cX11_watch 7 = .ok (.aload_n 0, 1) := by decide +kernel
theorem dX11_watch_8 : decode cX11_watch 8 = .ok (.getfield 32, 3) := by decide +kernel
theorem dX11_watch_11 : decode cX11_watch 11 = .ok (.getfield 82, 3) := by decide +kernel
theorem dX11_watch_14 : decode cX11_watch 14 = .ok (.getfield 147, 3) := by decide +kernel
theorem dX11_watch_17 : decode cX11_watch 17 = .ok (.invokevirtual 157, 3) := by decide +kernel
theorem dX11_watch_20 : decode cX11_watch 20 = .ok (.istore_n 1, 1) := by decide +kernel
theorem dX11_watch_21 : decode cX11_watch 21 = .ok (.aload_n 0, 1) := by decide +kernel
theorem dX11_watch_22 : decode cX11_watch 22 = .ok (.getfield 32, 3) := by decide +kernel
theorem dX11_watch_25 : decode cX11_watch 25 = .ok (.invokevirtual 154, 3) := by decide +kernel
theorem dX11_watch_28 : decode cX11_watch 28 = .ok (.aload_n 0, 1) := by decide +kernel
theorem dX11_watch_29 : decode cX11_watch 29 = .ok (.getfield 32, 3) := by decide +kernel
theorem dX11_watch_32 : decode cX11_watch 32 = .ok (.getfield 82, 3) := by decide +kernel
theorem dX11_watch_35 : decode cX11_watch 35 = .ok (.iload_n 1, 1) := by decide +kernel
theorem dX11_watch_36 : decode cX11_watch 36 = .ok (.invokevirtual 160, 3) := by decide +kernel
theorem dX11_watch_39 : decode cX11_watch 39 = .ok (.iload_n 1, 1) := by decide +kernel
theorem dX11_watch_40 : decode cX11_watch 40 = .ok (.ireturn, 1) := by decide +kernel
theorem dX11_undo_0 : decode cX11_undo 0 = .ok (.aload_n 0, 1) := by decide +kernel
theorem dX11_undo_1 : decode cX11_undo 1 = .ok (.getfield 32, 3) := by decide +kernel
theorem dX11_undo_4 : decode cX11_undo 4 = .ok (.invokevirtual 163, 3) := by decide +kernel
theorem dX11_undo_7 : decode cX11_undo 7 = .ok (.ifCond .ne 8, 3) := by decide +kernel
theorem dX11_undo_10 : decode cX11_undo 10 = .ok (.aload_n 0, 1) := by decide +kernel
theorem dX11_undo_11 : decode cX11_undo 11 = .ok (.invokevirtual 102, 3) := by decide +kernel
theorem dX11_undo_14 : decode cX11_undo 14 = .ok (.ireturn, 1) := by decide +kernel
theorem dX11_undo_15 : decode cX11_undo 15 = .ok (.aload_n 0, 1) := by decide +kernel
theorem dX11_undo_16 : decode cX11_undo 16 = .ok (.getfield 32, 3) := by decide +kernel
theorem dX11_undo_19 : decode cX11_undo 19 = .ok (.getfield 82, 3) := by decide +kernel
theorem dX11_undo_22 : decode cX11_undo 22 = .ok (.getfield 167, 3) := by decide +kernel
theorem dX11_undo_25 : decode cX11_undo 25 = .ok (.ireturn, 1) := by decide +kernel
theorem dX11_of_0 : decode cX11_of 0 = .ok (.aload_n 0, 1) := by decide +kernel
theorem dX11_of_1 : decode cX11_of 1 = .ok (.iload_n 1, 1) := by decide +kernel
theorem dX11_of_2 : decode cX11_of 2 = .ok (.invokevirtual 144, 3) := by decide +kernel
theorem dX11_of_5 : decode cX11_of 5 = .ok (.ifCond .eq 12, 3) := by decide +kernel
theorem dX11_of_8 : decode cX11_of 8 = .ok (.iload_n 2, 1) := by decide +kernel
theorem dX11_of_9 : decode cX11_of 9 = .ok (.iconst 0, 1) := by decide +kernel
theorem dX11_of_10 : decode cX11_of 10 = .ok (.iconst 4, 1) := by decide +kernel
theorem dX11_of_11 : decode cX11_of 11 = .ok (.invokestatic 116, 3) := by decide +kernel
theorem dX11_of_14 : decode cX11_of 14 = .ok (.ifCond .ne 10, 3) := by decide +kernel
theorem dX11_of_17 : decode cX11_of 17 = .ok (.aload_n 0, 1) := by decide +kernel
theorem dX11_of_18 : decode cX11_of 18 = .ok (.bipush (-10), 2) := by decide +kernel
theorem dX11_of_20 : decode cX11_of 20 = .ok (.invokevirtual 95, 3) := by decide +kernel
theorem dX11_of_23 : decode cX11_of 23 = .ok (.ireturn, 1) := by decide +kernel
theorem dX11_of_24 : decode cX11_of 24 = .ok (.aload_n 0, 1) := by decide +kernel
theorem dX11_of_25 : decode cX11_of 25 = .ok (.getfield 32, 3) := by decide +kernel
theorem dX11_of_28 : decode cX11_of 28 = .ok (.getfield 82, 3) := by decide +kernel
theorem dX11_of_31 : decode cX11_of 31 = .ok (.astore_n 3, 1) := by decide +kernel
theorem dX11_of_32 : decode cX11_of 32 = .ok (.iload_n 2, 1) := by decide +kernel
theorem dX11_of_33 : decode cX11_of 33 = .ok (.tableswitch 69 0 3 #[31, 38, 45, 52], 31) := by decide +kernel
theorem dX11_of_64 : decode cX11_of 64 = .ok (.aload_n 3, 1) := by decide +kernel
theorem dX11_of_65 : decode cX11_of 65 = .ok (.getfield 170, 3) := by decide +kernel
theorem dX11_of_68 : decode cX11_of 68 = .ok (.iload_n 1, 1) := by decide +kernel
theorem dX11_of_69 : decode cX11_of 69 = .ok (.iaload, 1) := by decide +kernel
theorem dX11_of_70 : decode cX11_of 70 = .ok (.ireturn, 1) := by decide +kernel
theorem dX11_of_71 : decode cX11_of 71 = .ok (.aload_n 3, 1) := by decide +kernel
theorem dX11_of_72 : decode cX11_of 72 = .ok (.getfield 174, 3) := by decide +kernel
theorem dX11_of_75 : decode cX11_of 75 = .ok (.iload_n 1, 1) := by decide +kernel
theorem dX11_of_76 : decode cX11_of 76 = .ok (.iaload, 1) := by decide +kernel
theorem dX11_of_77 : decode cX11_of 77 = .ok (.ireturn, 1) := by decide +kernel
theorem dX11_of_78 : decode cX11_of 78 = .ok (.aload_n 3, 1) := by decide +kernel
theorem dX11_of_79 : decode cX11_of 79 = .ok (.getfield 177, 3) := by decide +kernel
theorem dX11_of_82 : decode cX11_of 82 = .ok (.iload_n 1, 1) := by decide +kernel
theorem dX11_of_83 : decode cX11_of 83 = .ok (.iaload, 1) := by decide +kernel
theorem dX11_of_84 : decode cX11_of 84 = .ok (.ireturn, 1) := by decide +kernel
theorem dX11_of_85 : decode cX11_of 85 = .ok (.aload_n 3, 1) := by decide +kernel
theorem dX11_of_86 : decode cX11_of 86 = .ok (.getfield 147, 3) := by decide +kernel
theorem dX11_of_89 : decode cX11_of 89 = .ok (.iload_n 1, 1) := by decide +kernel
theorem dX11_of_90 : decode cX11_of 90 = .ok (.invokestatic 150, 3) := by decide +kernel
theorem dX11_of_93 : decode cX11_of 93 = .ok (.ifCond .eq 7, 3) := by decide +kernel
theorem dX11_of_96 : decode cX11_of 96 = .ok (.iconst 1, 1) := by decide +kernel
theorem dX11_of_97 : decode cX11_of 97 = .ok (.goto 4, 3) := by decide +kernel
theorem dX11_of_100 : decode cX11_of 100 = .ok (.iconst 0, 1) := by decide +kernel
theorem dX11_of_101 : decode cX11_of 101 = .ok (.ireturn, 1) := by decide +kernel
theorem dX11_of_102 : decode cX11_of 102 = .ok (.aload_n 3, 1) := by decide +kernel
theorem dX11_of_103 : decode cX11_of 103 = .ok (.iload_n 1, 1) := by decide +kernel
theorem dX11_of_104 : decode cX11_of 104 = .ok (.aload_n 3, 1) := by decide +kernel
theorem dX11_of_105 : decode cX11_of 105 = .ok (.getfield 147, 3) := by decide +kernel
theorem dX11_of_108 : decode cX11_of 108 = .ok (.iload_n 1, 1) := by decide +kernel
theorem dX11_of_109 : decode cX11_of 109 = .ok (.invokestatic 150, 3) := by decide +kernel
theorem dX11_of_112 : decode cX11_of 112 = .ok (.invokevirtual 180, 3) := by decide +kernel
theorem dX11_of_115 : decode cX11_of 115 = .ok (.ireturn, 1) := by decide +kernel
theorem dX11_now_0 : decode cX11_now 0 = .ok (.aload_n 0, 1) := by decide +kernel
theorem dX11_now_1 : decode cX11_now 1 = .ok (.getfield 32, 3) := by decide +kernel
theorem dX11_now_4 : decode cX11_now 4 = .ok (.getfield 82, 3) := by decide +kernel
theorem dX11_now_7 : decode cX11_now 7 = .ok (.astore_n 2, 1) := by decide +kernel
theorem dX11_now_8 : decode cX11_now 8 = .ok (.iload_n 1, 1) := by decide +kernel
theorem dX11_now_9 : decode cX11_now 9 = .ok (.tableswitch 61 0 2 #[27, 32, 52], 27) := by decide +kernel
theorem dX11_now_36 : decode cX11_now 36 = .ok (.aload_n 2, 1) := by decide +kernel
theorem dX11_now_37 : decode cX11_now 37 = .ok (.getfield 184, 3) := by decide +kernel
theorem dX11_now_40 : decode cX11_now 40 = .ok (.ireturn, 1) := by decide +kernel
theorem dX11_now_41 : decode cX11_now 41 = .ok (.aload_n 0, 1) := by decide +kernel
theorem dX11_now_42 : decode cX11_now 42 = .ok (.getfield 32, 3) := by decide +kernel
theorem dX11_now_45 : decode cX11_now 45 = .ok (.aload_n 2, 1) := by decide +kernel
theorem dX11_now_46 : decode cX11_now 46 = .ok (.getfield 184, 3) := by decide +kernel
theorem dX11_now_49 : decode cX11_now 49 = .ok (.invokevirtual 99, 3) := by decide +kernel
theorem dX11_now_52 : decode cX11_now 52 = .ok (.ifCond .eq 7, 3) := by decide +kernel
theorem dX11_now_55 : decode cX11_now 55 = .ok (.iconst 1, 1) := by decide +kernel
theorem dX11_now_56 : decode cX11_now 56 = .ok (.goto 4, 3) := by decide +kernel
theorem dX11_now_59 : decode cX11_now 59 = .ok (.iconst 0, 1) := by decide +kernel
theorem dX11_now_60 : decode cX11_now 60 = .ok (.ireturn, 1) := by decide +kernel
theorem dX11_now_61 : decode cX11_now 61 = .ok (.aload_n 2, 1) := by decide +kernel
theorem dX11_now_62 : decode cX11_now 62 = .ok (.aload_n 2, 1) := by decide +kernel
theorem dX11_now_63 : decode cX11_now 63 = .ok (.getfield 147, 3) := by decide +kernel
theorem dX11_now_66 : decode cX11_now 66 = .ok (.invokevirtual 157, 3) := by decide +kernel
theorem dX11_now_69 : decode cX11_now 69 = .ok (.ireturn, 1) := by decide +kernel
theorem dX11_now_70 : decode cX11_now 70 = .ok (.aload_n 0, 1) := by decide +kernel
theorem dX11_now_71 : decode cX11_now 71 = .ok (.sipush (-10000), 3) := by decide +kernel
theorem dX11_now_74 : decode cX11_now 74 = .ok (.invokevirtual 95, 3) := by decide +kernel
theorem dX11_now_77 : decode cX11_now 77 = .ok (.ireturn, 1) := by decide +kernel
theorem dX11_then_0 : decode cX11_then 0 = .ok (.iload_n 1, 1) := by decide +kernel
theorem dX11_then_1 : decode cX11_then 1 = .ok (.iconst 0, 1) := by decide +kernel
theorem dX11_then_2 : decode cX11_then 2 = .ok (.bipush 60, 2) := by decide +kernel
theorem dX11_then_4 : decode cX11_then 4 = .ok (.invokestatic 116, 3) := by decide +kernel
theorem dX11_then_7 : decode cX11_then 7 = .ok (.ifCond .eq 12, 3) := by decide +kernel
theorem dX11_then_10 : decode cX11_then 10 = .ok (.iload_n 2, 1) := by decide +kernel
theorem dX11_then_11 : decode cX11_then 11 = .ok (.iconst 0, 1) := by decide +kernel
theorem dX11_then_12 : decode cX11_then 12 = .ok (.iconst 1, 1) := by decide +kernel
theorem dX11_then_13 : decode cX11_then 13 = .ok (.invokestatic 116, 3) := by decide +kernel
theorem dX11_then_16 : decode cX11_then 16 = .ok (.ifCond .ne 11, 3) := by decide +kernel
theorem dX11_then_19 : decode cX11_then 19 = .ok (.aload_n 0, 1) := by decide +kernel
theorem dX11_then_20 : decode cX11_then 20 = .ok (.sipush (-10000), 3) := by decide +kernel
theorem dX11_then_23 : decode cX11_then 23 = .ok (.invokevirtual 95, 3) := by decide +kernel
theorem dX11_then_26 : decode cX11_then 26 = .ok (.ireturn, 1) := by decide +kernel
theorem dX11_then_27 : decode cX11_then 27 = .ok (.aload_n 0, 1) := by decide +kernel
theorem dX11_then_28 : decode cX11_then 28 = .ok (.getfield 57, 3) := by decide +kernel
theorem dX11_then_31 : decode cX11_then 31 = .ok (.aload_n 0, 1) := by decide +kernel
theorem dX11_then_32 : decode cX11_then 32 = .ok (.getfield 32, 3) := by decide +kernel
theorem dX11_then_35 : decode cX11_then 35 = .ok (.getfield 82, 3) := by decide +kernel
theorem dX11_then_38 : decode cX11_then 38 = .ok (.iload_n 1, 1) := by decide +kernel
theorem dX11_then_39 : decode cX11_then 39 = .ok (.invokevirtual 187, 3) := by decide +kernel
theorem dX11_then_42 : decode cX11_then 42 = .ok (.iload_n 2, 1) := by decide +kernel
theorem dX11_then_43 : decode cX11_then 43 = .ok (.ifCond .ne 15, 3) := by decide +kernel
theorem dX11_then_46 : decode cX11_then 46 = .ok (.aload_n 0, 1) := by decide +kernel
theorem dX11_then_47 : decode cX11_then 47 = .ok (.getfield 57, 3) := by decide +kernel
theorem dX11_then_50 : decode cX11_then 50 = .ok (.getfield 191, 3) := by decide +kernel
theorem dX11_then_53 : decode cX11_then 53 = .ok (.iload_n 1, 1) := by decide +kernel
theorem dX11_then_54 : decode cX11_then 54 = .ok (.iaload, 1) := by decide +kernel
theorem dX11_then_55 : decode cX11_then 55 = .ok (.goto 12, 3) := by decide +kernel
theorem dX11_then_58 : decode cX11_then 58 = .ok (.aload_n 0, 1) := by decide +kernel
theorem dX11_then_59 : decode cX11_then 59 = .ok (.getfield 57, 3) := by decide +kernel
theorem dX11_then_62 : decode cX11_then 62 = .ok (.getfield 194, 3) := by decide +kernel
theorem dX11_then_65 : decode cX11_then 65 = .ok (.iload_n 1, 1) := by decide +kernel
theorem dX11_then_66 : decode cX11_then 66 = .ok (.iaload, 1) := by decide +kernel
theorem dX11_then_67 : decode cX11_then 67 = .ok (.ireturn, 1) := by decide +kernel
theorem dX11_strikes_0 : decode cX11_strikes 0 = .ok (.aload_n 0, 1) := by decide +kernel
theorem dX11_strikes_1 : decode cX11_strikes 1 = .ok (.getfield 57, 3) := by decide +kernel
theorem dX11_strikes_4 : decode cX11_strikes 4 = .ok (.aload_n 0, 1) := by decide +kernel
theorem dX11_strikes_5 : decode cX11_strikes 5 = .ok (.getfield 32, 3) := by decide +kernel
theorem dX11_strikes_8 : decode cX11_strikes 8 = .ok (.getfield 82, 3) := by decide +kernel
theorem dX11_strikes_11 : decode cX11_strikes 11 = .ok (.bipush 60, 2) := by decide +kernel
theorem dX11_strikes_13 : decode cX11_strikes 13 = .ok (.invokevirtual 187, 3) := by decide +kernel
theorem dX11_strikes_16 : decode cX11_strikes 16 = .ok (.iconst 1, 1) := by decide +kernel
theorem dX11_strikes_17 : decode cX11_strikes 17 = .ok (.istore_n 1, 1) := by decide +kernel
theorem dX11_strikes_18 : decode cX11_strikes 18 = .ok (.iload_n 1, 1) := by decide +kernel
theorem dX11_strikes_19 : decode cX11_strikes 19 = .ok (.bipush 60, 2) := by decide +kernel
theorem dX11_strikes_21 : decode cX11_strikes 21 = .ok (.if_icmp .gt 30, 3) := by decide +kernel
theorem dX11_strikes_24 : decode cX11_strikes 24 = .ok (.aload_n 0, 1) := by decide +kernel
theorem dX11_strikes_25 : decode cX11_strikes 25 = .ok (.getfield 32, 3) := by decide +kernel
theorem dX11_strikes_28 : decode cX11_strikes 28 = .ok (.aload_n 0, 1) := by decide +kernel
theorem dX11_strikes_29 : decode cX11_strikes 29 = .ok (.getfield 57, 3) := by decide +kernel
theorem dX11_strikes_32 : decode cX11_strikes 32 = .ok (.getfield 191, 3) := by decide +kernel
theorem dX11_strikes_35 : decode cX11_strikes 35 = .ok (.iload_n 1, 1) := by decide +kernel
theorem dX11_strikes_36 : decode cX11_strikes 36 = .ok (.iaload, 1) := by decide +kernel
theorem dX11_strikes_37 : decode cX11_strikes 37 = .ok (.invokevirtual 99, 3) := by decide +kernel
theorem dX11_strikes_40 : decode cX11_strikes 40 = .ok (.ifCond .eq 5, 3) := by decide +kernel
theorem dX11_strikes_43 : decode cX11_strikes 43 = .ok (.iload_n 1, 1) := by decide +kernel
theorem dX11_strikes_44 : decode cX11_strikes 44 = .ok (.ireturn, 1) := by decide +kernel
theorem dX11_strikes_45 : decode cX11_strikes 45 = .ok (.iinc 1 1, 3) := by decide +kernel
theorem dX11_strikes_48 : decode cX11_strikes 48 = .ok (.goto (-30), 3) := by decide +kernel
theorem dX11_strikes_51 : decode cX11_strikes 51 = .ok (.iconst (-1), 1) := by decide +kernel
theorem dX11_strikes_52 : decode cX11_strikes 52 = .ok (.ireturn, 1) := by decide +kernel
theorem dX11_peas_0 : decode cX11_peas 0 = .ok (.iload_n 1, 1) := by decide +kernel
theorem dX11_peas_1 : decode cX11_peas 1 = .ok (.invokestatic 91, 3) := by decide +kernel
theorem dX11_peas_4 : decode cX11_peas 4 = .ok (.ifCond .eq 17, 3) := by decide +kernel
theorem dX11_peas_7 : decode cX11_peas 7 = .ok (.iload_n 2, 1) := by decide +kernel
theorem dX11_peas_8 : decode cX11_peas 8 = .ok (.iconst 1, 1) := by decide +kernel
theorem dX11_peas_9 : decode cX11_peas 9 = .ok (.iconst 4, 1) := by decide +kernel
theorem dX11_peas_10 : decode cX11_peas 10 = .ok (.invokestatic 116, 3) := by decide +kernel
theorem dX11_peas_13 : decode cX11_peas 13 = .ok (.ifCond .eq 8, 3) := by decide +kernel
theorem dX11_peas_16 : decode cX11_peas 16 = .ok (.iload_n 3, 1) := by decide +kernel
theorem dX11_peas_17 : decode cX11_peas 17 = .ok (.iconst (-1), 1) := by decide +kernel
theorem dX11_peas_18 : decode cX11_peas 18 = .ok (.if_icmp .ge 10, 3) := by decide +kernel
theorem dX11_peas_21 : decode cX11_peas 21 = .ok (.aload_n 0, 1) := by decide +kernel
theorem dX11_peas_22 : decode cX11_peas 22 = .ok (.bipush (-10), 2) := by decide +kernel
theorem dX11_peas_24 : decode cX11_peas 24 = .ok (.invokevirtual 95, 3) := by decide +kernel
theorem dX11_peas_27 : decode cX11_peas 27 = .ok (.ireturn, 1) := by decide +kernel
theorem dX11_peas_28 : decode cX11_peas 28 = .ok (.aload_n 0, 1) := by decide +kernel
theorem dX11_peas_29 : decode cX11_peas 29 = .ok (.getfield 64, 3) := by decide +kernel
theorem dX11_peas_32 : decode cX11_peas 32 = .ok (.aload_n 0, 1) := by decide +kernel
theorem dX11_peas_33 : decode cX11_peas 33 = .ok (.getfield 32, 3) := by decide +kernel
theorem dX11_peas_36 : decode cX11_peas 36 = .ok (.getfield 82, 3) := by decide +kernel
theorem dX11_peas_39 : decode cX11_peas 39 = .ok (.iload_n 1, 1) := by decide +kernel
theorem dX11_peas_40 : decode cX11_peas 40 = .ok (.iload_n 2, 1) := by decide +kernel
theorem dX11_peas_41 : decode cX11_peas 41 = .ok (.invokevirtual 197, 3) := by decide +kernel
theorem dX11_peas_44 : decode cX11_peas 44 = .ok (.ifCond .ne 5, 3) := by decide +kernel
theorem dX11_peas_47 : decode cX11_peas 47 = .ok (.iconst (-1), 1) := by decide +kernel
theorem dX11_peas_48 : decode cX11_peas 48 = .ok (.ireturn, 1) := by decide +kernel
theorem dX11_peas_49 : decode cX11_peas 49 = .ok (.iload_n 3, 1) := by decide +kernel
theorem dX11_peas_50 : decode cX11_peas 50 = .ok (.iconst (-1), 1) := by decide +kernel
theorem dX11_peas_51 : decode cX11_peas 51 = .ok (.if_icmp .ne 11, 3) := by decide +kernel
theorem dX11_peas_54 : decode cX11_peas 54 = .ok (.aload_n 0, 1) := by decide +kernel
theorem dX11_peas_55 : decode cX11_peas 55 = .ok (.getfield 64, 3) := by decide +kernel
theorem dX11_peas_58 : decode cX11_peas 58 = .ok (.getfield 201, 3) := by decide +kernel
theorem dX11_peas_61 : decode cX11_peas 61 = .ok (.ireturn, 1) := by decide +kernel
theorem dX11_peas_62 : decode cX11_peas 62 = .ok (.iload_n 3, 1) := by decide +kernel
theorem dX11_peas_63 : decode cX11_peas 63 = .ok (.iload_n 2, 1) := by decide +kernel
theorem dX11_peas_64 : decode cX11_peas 64 = .ok (.if_icmp .ge 15, 3) := by decide +kernel
theorem dX11_peas_67 : decode cX11_peas 67 = .ok (.aload_n 0, 1) := by decide +kernel
theorem dX11_peas_68 : decode cX11_peas 68 = .ok (.getfield 64, 3) := by decide +kernel
theorem dX11_peas_71 : decode cX11_peas 71 = .ok (.getfield 204, 3) := by decide +kernel
theorem dX11_peas_74 : decode cX11_peas 74 = .ok (.iload_n 3, 1) := by decide +kernel
theorem dX11_peas_75 : decode cX11_peas 75 = .ok (.iaload, 1) := by decide +kernel
theorem dX11_peas_76 : decode cX11_peas 76 = .ok (.goto 5, 3) := by decide +kernel
theorem dX11_peas_79 : decode cX11_peas 79 = .ok (.bipush (-5), 2) := by decide +kernel
theorem dX11_peas_81 : decode cX11_peas 81 = .ok (.ireturn, 1) := by decide +kernel
theorem dX11_canNot_0 : decode cX11_canNot 0 = .ok (.aload_n 0, 1) := by decide +kernel
theorem dX11_canNot_1 : decode cX11_canNot 1 = .ok (.iload_n 1, 1) := by decide +kernel
theorem dX11_canNot_2 : decode cX11_canNot 2 = .ok (.invokevirtual 144, 3) := by decide +kernel
theorem dX11_canNot_5 : decode cX11_canNot 5 = .ok (.ifCond .ne 10, 3) := by decide +kernel
theorem dX11_canNot_8 : decode cX11_canNot 8 = .ok (.aload_n 0, 1) := by decide +kernel
theorem dX11_canNot_9 : decode cX11_canNot 9 = .ok (.bipush (-2), 2) := by decide +kernel
theorem dX11_canNot_11 : decode cX11_canNot 11 = .ok (.invokevirtual 95, 3) := by decide +kernel
theorem dX11_canNot_14 : decode cX11_canNot 14 = .ok (.ireturn, 1) := by decide +kernel
theorem dX11_canNot_15 : decode cX11_canNot 15 = .ok (.aload_n 0, 1) := by decide +kernel
theorem dX11_canNot_16 : decode cX11_canNot 16 = .ok (.getfield 50, 3) := by decide +kernel
theorem dX11_canNot_19 : decode cX11_canNot 19 = .ok (.aload_n 0, 1) := by decide +kernel
theorem dX11_canNot_20 : decode cX11_canNot 20 = .ok (.getfield 32, 3) := by decide +kernel
theorem dX11_canNot_23 : decode cX11_canNot 23 = .ok (.getfield 82, 3) := by decide +kernel
theorem dX11_canNot_26 : decode cX11_canNot 26 = .ok (.invokevirtual 207, 3) := by decide +kernel
theorem dX11_canNot_29 : decode cX11_canNot 29 = .ok (.iconst 0, 1) := by decide +kernel
theorem dX11_canNot_30 : decode cX11_canNot 30 = .ok (.istore_n 2, 1) := by decide +kernel
theorem dX11_canNot_31 : decode cX11_canNot 31 = .ok (.iconst 0, 1) := by decide +kernel
theorem dX11_canNot_32 : decode cX11_canNot 32 = .ok (.istore_n 3, 1) := by decide +kernel
theorem dX11_canNot_33 : decode cX11_canNot 33 = .ok (.iload_n 3, 1) := by decide +kernel
theorem dX11_canNot_34 : decode cX11_canNot 34 = .ok (.bipush 8, 2) := by decide +kernel
theorem dX11_canNot_36 : decode cX11_canNot 36 = .ok (.if_icmp .ge 47, 3) := by decide +kernel
theorem dX11_canNot_39 : decode cX11_canNot 39 = .ok (.aload_n 0, 1) := by decide +kernel
theorem dX11_canNot_40 : decode cX11_canNot 40 = .ok (.getfield 50, 3) := by decide +kernel
theorem dX11_canNot_43 : decode cX11_canNot 43 = .ok (.iload_n 1, 1) := by decide +kernel
theorem dX11_canNot_44 : decode cX11_canNot 44 = .ok (.invokevirtual 210, 3) := by decide +kernel
theorem dX11_canNot_47 : decode cX11_canNot 47 = .ok (.ifCond .ne 9, 3) := by decide +kernel
theorem dX11_canNot_50 : decode cX11_canNot 50 = .ok (.iload_n 2, 1) := by decide +kernel
theorem dX11_canNot_51 : decode cX11_canNot 51 = .ok (.iconst 1, 1) := by decide +kernel
theorem dX11_canNot_52 : decode cX11_canNot 52 = .ok (.iload_n 3, 1) := by decide +kernel
theorem dX11_canNot_53 : decode cX11_canNot 53 = .ok (.ishl, 1) := by decide +kernel
theorem dX11_canNot_54 : decode cX11_canNot 54 = .ok (.ior, 1) := by decide +kernel
theorem dX11_canNot_55 : decode cX11_canNot 55 = .ok (.istore_n 2, 1) := by decide +kernel
theorem dX11_canNot_56 : decode cX11_canNot 56 = .ok (.aload_n 0, 1) := by decide +kernel
theorem dX11_canNot_57 : decode cX11_canNot 57 = .ok (.getfield 50, 3) := by decide +kernel
theorem dX11_canNot_60 : decode cX11_canNot 60 = .ok (.aload_n 0, 1) := by decide +kernel
theorem dX11_canNot_61 : decode cX11_canNot 61 = .ok (.getfield 50, 3) := by decide +kernel
theorem dX11_canNot_64 : decode cX11_canNot 64 = .ok (.aload_n 0, 1) := by decide +kernel
theorem dX11_canNot_65 : decode cX11_canNot 65 = .ok (.getfield 50, 3) := by decide +kernel
theorem dX11_canNot_68 : decode cX11_canNot 68 = .ok (.getfield 147, 3) := by decide +kernel
theorem dX11_canNot_71 : decode cX11_canNot 71 = .ok (.invokevirtual 157, 3) := by decide +kernel
theorem dX11_canNot_74 : decode cX11_canNot 74 = .ok (.invokevirtual 160, 3) := by decide +kernel
theorem dX11_canNot_77 : decode cX11_canNot 77 = .ok (.iinc 3 1, 3) := by decide +kernel
theorem dX11_canNot_80 : decode cX11_canNot 80 = .ok (.goto (-47), 3) := by decide +kernel
theorem dX11_canNot_83 : decode cX11_canNot 83 = .ok (.iload_n 2, 1) := by decide +kernel
theorem dX11_canNot_84 : decode cX11_canNot 84 = .ok (.ireturn, 1) := by decide +kernel
theorem dX11_eat_0 : decode cX11_eat 0 = .ok (.aload_n 0, 1) := by decide +kernel
theorem dX11_eat_1 : decode cX11_eat 1 = .ok (.iload_n 1, 1) := by decide +kernel
theorem dX11_eat_2 : decode cX11_eat 2 = .ok (.invokevirtual 144, 3) := by decide +kernel
theorem dX11_eat_5 : decode cX11_eat 5 = .ok (.ifCond .eq 16, 3) := by decide +kernel
theorem dX11_eat_8 : decode cX11_eat 8 = .ok (.aload_n 0, 1) := by decide +kernel
theorem dX11_eat_9 : decode cX11_eat 9 = .ok (.iload_n 2, 1) := by decide +kernel
theorem dX11_eat_10 : decode cX11_eat 10 = .ok (.invokevirtual 144, 3) := by decide +kernel
theorem dX11_eat_13 : decode cX11_eat 13 = .ok (.ifCond .eq 8, 3) := by decide +kernel
theorem dX11_eat_16 : decode cX11_eat 16 = .ok (.iload_n 1, 1) := by decide +kernel
theorem dX11_eat_17 : decode cX11_eat 17 = .ok (.iload_n 2, 1) := by decide +kernel
theorem dX11_eat_18 : decode cX11_eat 18 = .ok (.if_icmp .ne 10, 3) := by decide +kernel
theorem dX11_eat_21 : decode cX11_eat 21 = .ok (.aload_n 0, 1) := by decide +kernel
theorem dX11_eat_22 : decode cX11_eat 22 = .ok (.bipush (-2), 2) := by decide +kernel
theorem dX11_eat_24 : decode cX11_eat 24 = .ok (.invokevirtual 95, 3) := by decide +kernel
theorem dX11_eat_27 : decode cX11_eat 27 = .ok (.ireturn, 1) := by decide +kernel
theorem dX11_eat_28 : decode cX11_eat 28 = .ok (.iconst 0, 1) := by decide +kernel
theorem dX11_eat_29 : decode cX11_eat 29 = .ok (.istore_n 3, 1) := by decide +kernel
theorem dX11_eat_30 : decode cX11_eat 30 = .ok (.iconst 0, 1) := by decide +kernel
theorem dX11_eat_31 : decode cX11_eat 31 = .ok (.istore 4, 2) := by decide +kernel
theorem dX11_eat_33 : decode cX11_eat 33 = .ok (.iload 4, 2) := by decide +kernel
theorem dX11_eat_35 : decode cX11_eat 35 = .ok (.iconst 4, 1) := by decide +kernel
theorem dX11_eat_36 : decode cX11_eat 36 = .ok (.if_icmp .ge 33, 3) := by decide +kernel
theorem dX11_eat_39 : decode cX11_eat 39 = .ok (.aload_n 0, 1) := by decide +kernel
theorem dX11_eat_40 : decode cX11_eat 40 = .ok (.getfield 32, 3) := by decide +kernel
theorem dX11_eat_43 : decode cX11_eat 43 = .ok (.getfield 82, 3) := by decide +kernel
theorem dX11_eat_46 : decode cX11_eat 46 = .ok (.iload_n 1, 1) := by decide +kernel
theorem dX11_eat_47 : decode cX11_eat 47 = .ok (.iload_n 2, 1) := by decide +kernel
theorem dX11_eat_48 : decode cX11_eat 48 = .ok (.iload 4, 2) := by decide +kernel
theorem dX11_eat_50 : decode cX11_eat 50 = .ok (.invokevirtual 213, 3) := by decide +kernel
theorem dX11_eat_53 : decode cX11_eat 53 = .ok (.ifCond .eq 10, 3) := by decide +kernel
theorem dX11_eat_56 : decode cX11_eat 56 = .ok (.iload_n 3, 1) := by decide +kernel
theorem dX11_eat_57 : decode cX11_eat 57 = .ok (.iconst 1, 1) := by decide +kernel
theorem dX11_eat_58 : decode cX11_eat 58 = .ok (.iload 4, 2) := by decide +kernel
theorem dX11_eat_60 : decode cX11_eat 60 = .ok (.ishl, 1) := by decide +kernel
theorem dX11_eat_61 : decode cX11_eat 61 = .ok (.ior, 1) := by decide +kernel
theorem dX11_eat_62 : decode cX11_eat 62 = .ok (.istore_n 3, 1) := by decide +kernel
theorem dX11_eat_63 : decode cX11_eat 63 = .ok (.iinc 4 1, 3) := by decide +kernel
theorem dX11_eat_66 : decode cX11_eat 66 = .ok (.goto (-33), 3) := by decide +kernel
theorem dX11_eat_69 : decode cX11_eat 69 = .ok (.iload_n 3, 1) := by decide +kernel
theorem dX11_eat_70 : decode cX11_eat 70 = .ok (.ireturn, 1) := by decide +kernel
theorem dX11_seen_0 : decode cX11_seen 0 = .ok (.iload_n 1, 1) := by decide +kernel
theorem dX11_seen_1 : decode cX11_seen 1 = .ok (.iconst 0, 1) := by decide +kernel
theorem dX11_seen_2 : decode cX11_seen 2 = .ok (.bipush 20, 2) := by decide +kernel
theorem dX11_seen_4 : decode cX11_seen 4 = .ok (.invokestatic 116, 3) := by decide +kernel
theorem dX11_seen_7 : decode cX11_seen 7 = .ok (.ifCond .eq 10, 3) := by decide +kernel
theorem dX11_seen_10 : decode cX11_seen 10 = .ok (.iload_n 2, 1) := by decide +kernel
theorem dX11_seen_11 : decode cX11_seen 11 = .ok (.invokestatic 91, 3) := by decide +kernel
theorem dX11_seen_14 : decode cX11_seen 14 = .ok (.ifCond .ne 10, 3) := by decide +kernel
theorem dX11_seen_17 : decode cX11_seen 17 = .ok (.aload_n 0, 1) := by decide +kernel
theorem dX11_seen_18 : decode cX11_seen 18 = .ok (.bipush (-2), 2) := by decide +kernel
theorem dX11_seen_20 : decode cX11_seen 20 = .ok (.invokevirtual 95, 3) := by decide +kernel
theorem dX11_seen_23 : decode cX11_seen 23 = .ok (.ireturn, 1) := by decide +kernel
theorem dX11_seen_24 : decode cX11_seen 24 = .ok (.aload_n 0, 1) := by decide +kernel
theorem dX11_seen_25 : decode cX11_seen 25 = .ok (.getfield 32, 3) := by decide +kernel
theorem dX11_seen_28 : decode cX11_seen 28 = .ok (.getfield 216, 3) := by decide +kernel
theorem dX11_seen_31 : decode cX11_seen 31 = .ok (.bipush 6, 2) := by decide +kernel
theorem dX11_seen_33 : decode cX11_seen 33 = .ok (.if_icmp .lt 8, 3) := by decide +kernel
theorem dX11_seen_36 : decode cX11_seen 36 = .ok (.aload_n 0, 1) := by decide +kernel
theorem dX11_seen_37 : decode cX11_seen 37 = .ok (.invokevirtual 109, 3) := by decide +kernel
theorem dX11_seen_40 : decode cX11_seen 40 = .ok (.ireturn, 1) := by decide +kernel
theorem dX11_seen_41 : decode cX11_seen 41 = .ok (.aload_n 0, 1) := by decide +kernel
theorem dX11_seen_42 : decode cX11_seen 42 = .ok (.getfield 32, 3) := by decide +kernel
theorem dX11_seen_45 : decode cX11_seen 45 = .ok (.iload_n 1, 1) := by decide +kernel
theorem dX11_seen_46 : decode cX11_seen 46 = .ok (.iload_n 2, 1) := by decide +kernel
theorem dX11_seen_47 : decode cX11_seen 47 = .ok (.invokevirtual 219, 3) := by decide +kernel
theorem dX11_seen_50 : decode cX11_seen 50 = .ok (.aload_n 0, 1) := by decide +kernel
theorem dX11_seen_51 : decode cX11_seen 51 = .ok (.getfield 32, 3) := by decide +kernel
theorem dX11_seen_54 : decode cX11_seen 54 = .ok (.getfield 216, 3) := by decide +kernel
theorem dX11_seen_57 : decode cX11_seen 57 = .ok (.ireturn, 1) := by decide +kernel
theorem dX11_forget_0 : decode cX11_forget 0 = .ok (.aload_n 0, 1) := by decide +kernel
theorem dX11_forget_1 : decode cX11_forget 1 = .ok (.getfield 32, 3) := by decide +kernel
theorem dX11_forget_4 : decode cX11_forget 4 = .ok (.getfield 216, 3) := by decide +kernel
theorem dX11_forget_7 : decode cX11_forget 7 = .ok (.istore_n 1, 1) := by decide +kernel
theorem dX11_forget_8 : decode cX11_forget 8 = .ok (.aload_n 0, 1) := by decide +kernel
theorem dX11_forget_9 : decode cX11_forget 9 = .ok (.getfield 32, 3) := by decide +kernel
theorem dX11_forget_12 : decode cX11_forget 12 = .ok (.iconst 0, 1) := by decide +kernel
theorem dX11_forget_13 : decode cX11_forget 13 = .ok (.putfield 216, 3) := by decide +kernel
theorem dX11_forget_16 : decode cX11_forget 16 = .ok (.iload_n 1, 1) := by decide +kernel
theorem dX11_forget_17 : decode cX11_forget 17 = .ok (.ireturn, 1) := by decide +kernel
theorem dX11_nod_0 : decode cX11_nod 0 = .ok (.aload_n 0, 1) := by decide +kernel
theorem dX11_nod_1 : decode cX11_nod 1 = .ok (.iload_n 1, 1) := by decide +kernel
theorem dX11_nod_2 : decode cX11_nod 2 = .ok (.invokevirtual 144, 3) := by decide +kernel
theorem dX11_nod_5 : decode cX11_nod 5 = .ok (.ifCond .ne 10, 3) := by decide +kernel
theorem dX11_nod_8 : decode cX11_nod 8 = .ok (.aload_n 0, 1) := by decide +kernel
theorem dX11_nod_9 : decode cX11_nod 9 = .ok (.bipush (-2), 2) := by decide +kernel
theorem dX11_nod_11 : decode cX11_nod 11 = .ok (.invokevirtual 95, 3) := by decide +kernel
theorem dX11_nod_14 : decode cX11_nod 14 = .ok (.ireturn, 1) := by decide +kernel
theorem dX11_nod_15 : decode cX11_nod 15 = .ok (.aload_n 0, 1) := by decide +kernel
theorem dX11_nod_16 : decode cX11_nod 16 = .ok (.getfield 57, 3) := by decide +kernel
theorem dX11_nod_19 : decode cX11_nod 19 = .ok (.aload_n 0, 1) := by decide +kernel
theorem dX11_nod_20 : decode cX11_nod 20 = .ok (.getfield 32, 3) := by decide +kernel
theorem dX11_nod_23 : decode cX11_nod 23 = .ok (.getfield 82, 3) := by decide +kernel
theorem dX11_nod_26 : decode cX11_nod 26 = .ok (.bipush 20, 2) := by decide +kernel
theorem dX11_nod_28 : decode cX11_nod 28 = .ok (.invokevirtual 187, 3) := by decide +kernel
theorem dX11_nod_31 : decode cX11_nod 31 = .ok (.aload_n 0, 1) := by decide +kernel
theorem dX11_nod_32 : decode cX11_nod 32 = .ok (.iload_n 1, 1) := by decide +kernel
theorem dX11_nod_33 : decode cX11_nod 33 = .ok (.invokevirtual 223, 3) := by decide +kernel
theorem dX11_nod_36 : decode cX11_nod 36 = .ok (.ireturn, 1) := by decide +kernel
theorem dX11_is_0 : decode cX11_is 0 = .ok (.aload_n 0, 1) := by decide +kernel
theorem dX11_is_1 : decode cX11_is 1 = .ok (.iload_n 1, 1) := by decide +kernel
theorem dX11_is_2 : decode cX11_is 2 = .ok (.invokevirtual 144, 3) := by decide +kernel
theorem dX11_is_5 : decode cX11_is 5 = .ok (.ifCond .ne 10, 3) := by decide +kernel
theorem dX11_is_8 : decode cX11_is 8 = .ok (.aload_n 0, 1) := by decide +kernel
theorem dX11_is_9 : decode cX11_is 9 = .ok (.bipush (-2), 2) := by decide +kernel
theorem dX11_is_11 : decode cX11_is 11 = .ok (.invokevirtual 95, 3) := by decide +kernel
theorem dX11_is_14 : decode cX11_is 14 = .ok (.ireturn, 1) := by decide +kernel
theorem dX11_is_15 : decode cX11_is 15 = .ok (.iconst 0, 1) := by decide +kernel
theorem dX11_is_16 : decode cX11_is 16 = .ok (.istore_n 2, 1) := by decide +kernel
theorem dX11_is_17 : decode cX11_is 17 = .ok (.iconst 0, 1) := by decide +kernel
theorem dX11_is_18 : decode cX11_is 18 = .ok (.istore_n 3, 1) := by decide +kernel
theorem dX11_is_19 : decode cX11_is 19 = .ok (.iload_n 3, 1) := by decide +kernel
theorem dX11_is_20 : decode cX11_is 20 = .ok (.bipush 6, 2) := by decide +kernel
theorem dX11_is_22 : decode cX11_is 22 = .ok (.if_icmp .ge 61, 3) := by decide +kernel
theorem dX11_is_25 : decode cX11_is 25 = .ok (.aload_n 0, 1) := by decide +kernel
theorem dX11_is_26 : decode cX11_is 26 = .ok (.getfield 50, 3) := by decide +kernel
theorem dX11_is_29 : decode cX11_is 29 = .ok (.aload_n 0, 1) := by decide +kernel
theorem dX11_is_30 : decode cX11_is 30 = .ok (.getfield 32, 3) := by decide +kernel
theorem dX11_is_33 : decode cX11_is 33 = .ok (.getfield 82, 3) := by decide +kernel
theorem dX11_is_36 : decode cX11_is 36 = .ok (.invokevirtual 207, 3) := by decide +kernel
theorem dX11_is_39 : decode cX11_is 39 = .ok (.aload_n 0, 1) := by decide +kernel
theorem dX11_is_40 : decode cX11_is 40 = .ok (.getfield 50, 3) := by decide +kernel
theorem dX11_is_43 : decode cX11_is 43 = .ok (.getfield 170, 3) := by decide +kernel
theorem dX11_is_46 : decode cX11_is 46 = .ok (.iload_n 1, 1) := by decide +kernel
theorem dX11_is_47 : decode cX11_is 47 = .ok (.iload_n 3, 1) := by decide +kernel
theorem dX11_is_48 : decode cX11_is 48 = .ok (.iastore, 1) := by decide +kernel
theorem dX11_is_49 : decode cX11_is 49 = .ok (.aload_n 0, 1) := by decide +kernel
theorem dX11_is_50 : decode cX11_is 50 = .ok (.getfield 57, 3) := by decide +kernel
theorem dX11_is_53 : decode cX11_is 53 = .ok (.aload_n 0, 1) := by decide +kernel
theorem dX11_is_54 : decode cX11_is 54 = .ok (.getfield 50, 3) := by decide +kernel
theorem dX11_is_57 : decode cX11_is 57 = .ok (.bipush 20, 2) := by decide +kernel
theorem dX11_is_59 : decode cX11_is 59 = .ok (.invokevirtual 187, 3) := by decide +kernel
theorem dX11_is_62 : decode cX11_is 62 = .ok (.aload_n 0, 1) := by decide +kernel
theorem dX11_is_63 : decode cX11_is 63 = .ok (.iconst 0, 1) := by decide +kernel
theorem dX11_is_64 : decode cX11_is 64 = .ok (.iconst 0, 1) := by decide +kernel
theorem dX11_is_65 : decode cX11_is 65 = .ok (.invokevirtual 226, 3) := by decide +kernel
theorem dX11_is_68 : decode cX11_is 68 = .ok (.ifCond .eq 9, 3) := by decide +kernel
theorem dX11_is_71 : decode cX11_is 71 = .ok (.iload_n 2, 1) := by decide +kernel
theorem dX11_is_72 : decode cX11_is 72 = .ok (.iconst 1, 1) := by decide +kernel
theorem dX11_is_73 : decode cX11_is 73 = .ok (.iload_n 3, 1) := by decide +kernel
theorem dX11_is_74 : decode cX11_is 74 = .ok (.ishl, 1) := by decide +kernel
theorem dX11_is_75 : decode cX11_is 75 = .ok (.ior, 1) := by decide +kernel
theorem dX11_is_76 : decode cX11_is 76 = .ok (.istore_n 2, 1) := by decide +kernel
theorem dX11_is_77 : decode cX11_is 77 = .ok (.iinc 3 1, 3) := by decide +kernel
theorem dX11_is_80 : decode cX11_is 80 = .ok (.goto (-61), 3) := by decide +kernel
theorem dX11_is_83 : decode cX11_is 83 = .ok (.iload_n 2, 1) := by decide +kernel
theorem dX11_is_84 : decode cX11_is 84 = .ok (.ireturn, 1) := by decide +kernel
theorem dX11_look_0 : decode cX11_look 0 = .ok (.aload_n 0, 1) := by decide +kernel
theorem dX11_look_1 : decode cX11_look 1 = .ok (.iload_n 1, 1) := by decide +kernel
theorem dX11_look_2 : decode cX11_look 2 = .ok (.invokevirtual 144, 3) := by decide +kernel
theorem dX11_look_5 : decode cX11_look 5 = .ok (.ifCond .ne 10, 3) := by decide +kernel
theorem dX11_look_8 : decode cX11_look 8 = .ok (.aload_n 0, 1) := by decide +kernel
theorem dX11_look_9 : decode cX11_look 9 = .ok (.bipush (-2), 2) := by decide +kernel
theorem dX11_look_11 : decode cX11_look 11 = .ok (.invokevirtual 95, 3) := by decide +kernel
theorem dX11_look_14 : decode cX11_look 14 = .ok (.ireturn, 1) := by decide +kernel
theorem dX11_look_15 : decode cX11_look 15 = .ok (.aload_n 0, 1) := by decide +kernel
theorem dX11_look_16 : decode cX11_look 16 = .ok (.getfield 57, 3) := by decide +kernel
theorem dX11_look_19 : decode cX11_look 19 = .ok (.aload_n 0, 1) := by decide +kernel
theorem dX11_look_20 : decode cX11_look 20 = .ok (.getfield 32, 3) := by decide +kernel
theorem dX11_look_23 : decode cX11_look 23 = .ok (.getfield 82, 3) := by decide +kernel
theorem dX11_look_26 : decode cX11_look 26 = .ok (.bipush 20, 2) := by decide +kernel
theorem dX11_look_28 : decode cX11_look 28 = .ok (.invokevirtual 187, 3) := by decide +kernel
theorem dX11_look_31 : decode cX11_look 31 = .ok (.aload_n 0, 1) := by decide +kernel
theorem dX11_look_32 : decode cX11_look 32 = .ok (.iload_n 1, 1) := by decide +kernel
theorem dX11_look_33 : decode cX11_look 33 = .ok (.invokevirtual 223, 3) := by decide +kernel
theorem dX11_look_36 : decode cX11_look 36 = .ok (.invokestatic 229, 3) := by decide +kernel
theorem dX11_look_39 : decode cX11_look 39 = .ok (.istore_n 2, 1) := by decide +kernel
theorem dX11_look_40 : decode cX11_look 40 = .ok (.iload_n 2, 1) := by decide +kernel
theorem dX11_look_41 : decode cX11_look 41 = .ok (.ifCond .ne 5, 3) := by decide +kernel
theorem dX11_look_44 : decode cX11_look 44 = .ok (.iconst (-1), 1) := by decide +kernel
theorem dX11_look_45 : decode cX11_look 45 = .ok (.ireturn, 1) := by decide +kernel
theorem dX11_look_46 : decode cX11_look 46 = .ok (.iconst 0, 1) := by decide +kernel
theorem dX11_look_47 : decode cX11_look 47 = .ok (.istore_n 3, 1) := by decide +kernel
theorem dX11_look_48 : decode cX11_look 48 = .ok (.iload_n 2, 1) := by decide +kernel
theorem dX11_look_49 : decode cX11_look 49 = .ok (.istore 4, 2) := by decide +kernel
theorem dX11_look_51 : decode cX11_look 51 = .ok (.iconst 1, 1) := by decide +kernel
theorem dX11_look_52 : decode cX11_look 52 = .ok (.istore 5, 2) := by decide +kernel
theorem dX11_look_54 : decode cX11_look 54 = .ok (.iload 5, 2) := by decide +kernel
theorem dX11_look_56 : decode cX11_look 56 = .ok (.bipush 20, 2) := by decide +kernel
theorem dX11_look_58 : decode cX11_look 58 = .ok (.if_icmp .gt 43, 3) := by decide +kernel
theorem dX11_look_61 : decode cX11_look 61 = .ok (.aload_n 0, 1) := by decide +kernel
theorem dX11_look_62 : decode cX11_look 62 = .ok (.getfield 57, 3) := by decide +kernel
theorem dX11_look_65 : decode cX11_look 65 = .ok (.iload_n 1, 1) := by decide +kernel
theorem dX11_look_66 : decode cX11_look 66 = .ok (.iload 5, 2) := by decide +kernel
theorem dX11_look_68 : decode cX11_look 68 = .ok (.invokevirtual 234, 3) := by decide +kernel
theorem dX11_look_71 : decode cX11_look 71 = .ok (.ifCond .le 7, 3) := by decide +kernel
theorem dX11_look_74 : decode cX11_look 74 = .ok (.iconst 1, 1) := by decide +kernel
theorem dX11_look_75 : decode cX11_look 75 = .ok (.goto 4, 3) := by decide +kernel
theorem dX11_look_78 : decode cX11_look 78 = .ok (.iload_n 2, 1) := by decide +kernel
theorem dX11_look_79 : decode cX11_look 79 = .ok (.istore 6, 2) := by decide +kernel
theorem dX11_look_81 : decode cX11_look 81 = .ok (.iload 6, 2) := by decide +kernel
theorem dX11_look_83 : decode cX11_look 83 = .ok (.iload 4, 2) := by decide +kernel
theorem dX11_look_85 : decode cX11_look 85 = .ok (.if_icmp .ge 10, 3) := by decide +kernel
theorem dX11_look_88 : decode cX11_look 88 = .ok (.iload 6, 2) := by decide +kernel
theorem dX11_look_90 : decode cX11_look 90 = .ok (.istore 4, 2) := by decide +kernel
theorem dX11_look_92 : decode cX11_look 92 = .ok (.iload 5, 2) := by decide +kernel
theorem dX11_look_94 : decode cX11_look 94 = .ok (.istore_n 3, 1) := by decide +kernel
theorem dX11_look_95 : decode cX11_look 95 = .ok (.iinc 5 1, 3) := by decide +kernel
theorem dX11_look_98 : decode cX11_look 98 = .ok (.goto (-44), 3) := by decide +kernel
theorem dX11_look_101 : decode cX11_look 101 = .ok (.iload_n 3, 1) := by decide +kernel
theorem dX11_look_102 : decode cX11_look 102 = .ok (.ireturn, 1) := by decide +kernel
theorem dX11_pulled_0 : decode cX11_pulled 0 = .ok (.iload_n 1, 1) := by decide +kernel
theorem dX11_pulled_1 : decode cX11_pulled 1 = .ok (.bipush (-9), 2) := by decide +kernel
theorem dX11_pulled_3 : decode cX11_pulled 3 = .ok (.bipush 9, 2) := by decide +kernel
theorem dX11_pulled_5 : decode cX11_pulled 5 = .ok (.invokestatic 116, 3) := by decide +kernel
theorem dX11_pulled_8 : decode cX11_pulled 8 = .ok (.ifCond .ne 10, 3) := by decide +kernel
theorem dX11_pulled_11 : decode cX11_pulled 11 = .ok (.aload_n 0, 1) := by decide +kernel
theorem dX11_pulled_12 : decode cX11_pulled 12 = .ok (.bipush (-2), 2) := by decide +kernel
theorem dX11_pulled_14 : decode cX11_pulled 14 = .ok (.invokevirtual 95, 3) := by decide +kernel
theorem dX11_pulled_17 : decode cX11_pulled 17 = .ok (.ireturn, 1) := by decide +kernel
theorem dX11_pulled_18 : decode cX11_pulled 18 = .ok (.aload_n 0, 1) := by decide +kernel
theorem dX11_pulled_19 : decode cX11_pulled 19 = .ok (.getfield 57, 3) := by decide +kernel
theorem dX11_pulled_22 : decode cX11_pulled 22 = .ok (.aload_n 0, 1) := by decide +kernel
theorem dX11_pulled_23 : decode cX11_pulled 23 = .ok (.getfield 32, 3) := by decide +kernel
theorem dX11_pulled_26 : decode cX11_pulled 26 = .ok (.getfield 82, 3) := by decide +kernel
theorem dX11_pulled_29 : decode cX11_pulled 29 = .ok (.bipush 20, 2) := by decide +kernel
theorem dX11_pulled_31 : decode cX11_pulled 31 = .ok (.invokevirtual 187, 3) := by decide +kernel
theorem dX11_pulled_34 : decode cX11_pulled 34 = .ok (.iconst 0, 1) := by decide +kernel
theorem dX11_pulled_35 : decode cX11_pulled 35 = .ok (.istore_n 2, 1) := by decide +kernel
theorem dX11_pulled_36 : decode cX11_pulled 36 = .ok (.iconst 0, 1) := by decide +kernel
theorem dX11_pulled_37 : decode cX11_pulled 37 = .ok (.istore_n 3, 1) := by decide +kernel
theorem dX11_pulled_38 : decode cX11_pulled 38 = .ok (.iload_n 3, 1) := by decide +kernel
theorem dX11_pulled_39 : decode cX11_pulled 39 = .ok (.bipush 20, 2) := by decide +kernel
theorem dX11_pulled_41 : decode cX11_pulled 41 = .ok (.if_icmp .ge 24, 3) := by decide +kernel
theorem dX11_pulled_44 : decode cX11_pulled 44 = .ok (.aload_n 0, 1) := by decide +kernel
theorem dX11_pulled_45 : decode cX11_pulled 45 = .ok (.iload_n 3, 1) := by decide +kernel
theorem dX11_pulled_46 : decode cX11_pulled 46 = .ok (.iload_n 1, 1) := by decide +kernel
theorem dX11_pulled_47 : decode cX11_pulled 47 = .ok (.invokevirtual 226, 3) := by decide +kernel
theorem dX11_pulled_50 : decode cX11_pulled 50 = .ok (.ifCond .eq 9, 3) := by decide +kernel
theorem dX11_pulled_53 : decode cX11_pulled 53 = .ok (.iload_n 2, 1) := by decide +kernel
theorem dX11_pulled_54 : decode cX11_pulled 54 = .ok (.iconst 1, 1) := by decide +kernel
theorem dX11_pulled_55 : decode cX11_pulled 55 = .ok (.iload_n 3, 1) := by decide +kernel
theorem dX11_pulled_56 : decode cX11_pulled 56 = .ok (.ishl, 1) := by decide +kernel
theorem dX11_pulled_57 : decode cX11_pulled 57 = .ok (.ior, 1) := by decide +kernel
theorem dX11_pulled_58 : decode cX11_pulled 58 = .ok (.istore_n 2, 1) := by decide +kernel
theorem dX11_pulled_59 : decode cX11_pulled 59 = .ok (.iinc 3 1, 3) := by decide +kernel
theorem dX11_pulled_62 : decode cX11_pulled 62 = .ok (.goto (-24), 3) := by decide +kernel
theorem dX11_pulled_65 : decode cX11_pulled 65 = .ok (.iload_n 2, 1) := by decide +kernel
theorem dX11_pulled_66 : decode cX11_pulled 66 = .ok (.ireturn, 1) := by decide +kernel
theorem dX11_meet_0 : decode cX11_meet 0 = .ok (.iload_n 1, 1) := by decide +kernel
theorem dX11_meet_1 : decode cX11_meet 1 = .ok (.invokestatic 91, 3) := by decide +kernel
theorem dX11_meet_4 : decode cX11_meet 4 = .ok (.ifCond .eq 19, 3) := by decide +kernel
theorem dX11_meet_7 : decode cX11_meet 7 = .ok (.iload_n 2, 1) := by decide +kernel
theorem dX11_meet_8 : decode cX11_meet 8 = .ok (.invokestatic 120, 3) := by decide +kernel
theorem dX11_meet_11 : decode cX11_meet 11 = .ok (.ifCond .eq 12, 3) := by decide +kernel
theorem dX11_meet_14 : decode cX11_meet 14 = .ok (.iload_n 3, 1) := by decide +kernel
theorem dX11_meet_15 : decode cX11_meet 15 = .ok (.iconst 0, 1) := by decide +kernel
theorem dX11_meet_16 : decode cX11_meet 16 = .ok (.iconst 1, 1) := by decide +kernel
theorem dX11_meet_17 : decode cX11_meet 17 = .ok (.invokestatic 116, 3) := by decide +kernel
theorem dX11_meet_20 : decode cX11_meet 20 = .ok (.ifCond .ne 10, 3) := by decide +kernel
theorem dX11_meet_23 : decode cX11_meet 23 = .ok (.aload_n 0, 1) := by decide +kernel
theorem dX11_meet_24 : decode cX11_meet 24 = .ok (.bipush (-2), 2) := by decide +kernel
theorem dX11_meet_26 : decode cX11_meet 26 = .ok (.invokevirtual 95, 3) := by decide +kernel
theorem dX11_meet_29 : decode cX11_meet 29 = .ok (.ireturn, 1) := by decide +kernel
theorem dX11_meet_30 : decode cX11_meet 30 = .ok (.aload_n 0, 1) := by decide +kernel
theorem dX11_meet_31 : decode cX11_meet 31 = .ok (.getfield 57, 3) := by decide +kernel
theorem dX11_meet_34 : decode cX11_meet 34 = .ok (.aload_n 0, 1) := by decide +kernel
theorem dX11_meet_35 : decode cX11_meet 35 = .ok (.getfield 32, 3) := by decide +kernel
theorem dX11_meet_38 : decode cX11_meet 38 = .ok (.getfield 82, 3) := by decide +kernel
theorem dX11_meet_41 : decode cX11_meet 41 = .ok (.bipush 60, 2) := by decide +kernel
theorem dX11_meet_43 : decode cX11_meet 43 = .ok (.invokevirtual 187, 3) := by decide +kernel
theorem dX11_meet_46 : decode cX11_meet 46 = .ok (.aload_n 0, 1) := by decide +kernel
theorem dX11_meet_47 : decode cX11_meet 47 = .ok (.getfield 57, 3) := by decide +kernel
theorem dX11_meet_50 : decode cX11_meet 50 = .ok (.getfield 191, 3) := by decide +kernel
theorem dX11_meet_53 : decode cX11_meet 53 = .ok (.iconst 0, 1) := by decide +kernel
theorem dX11_meet_54 : decode cX11_meet 54 = .ok (.iaload, 1) := by decide +kernel
theorem dX11_meet_55 : decode cX11_meet 55 = .ok (.iload_n 1, 1) := by decide +kernel
theorem dX11_meet_56 : decode cX11_meet 56 = .ok (.invokestatic 238, 3) := by decide +kernel
theorem dX11_meet_59 : decode cX11_meet 59 = .ok (.istore 4, 2) := by decide +kernel
theorem dX11_meet_61 : decode cX11_meet 61 = .ok (.iconst 0, 1) := by decide +kernel
theorem dX11_meet_62 : decode cX11_meet 62 = .ok (.istore 5, 2) := by decide +kernel
theorem dX11_meet_64 : decode cX11_meet 64 = .ok (.iload 5, 2) := by decide +kernel
theorem dX11_meet_66 : decode cX11_meet 66 = .ok (.bipush 60, 2) := by decide +kernel
theorem dX11_meet_68 : decode cX11_meet 68 = .ok (.if_icmp .gt 50, 3) := by decide +kernel
theorem dX11_meet_71 : decode cX11_meet 71 = .ok (.aload_n 0, 1) := by decide +kernel
theorem dX11_meet_72 : decode cX11_meet 72 = .ok (.getfield 57, 3) := by decide +kernel
theorem dX11_meet_75 : decode cX11_meet 75 = .ok (.getfield 191, 3) := by decide +kernel
theorem dX11_meet_78 : decode cX11_meet 78 = .ok (.iload 5, 2) := by decide +kernel
theorem dX11_meet_80 : decode cX11_meet 80 = .ok (.iaload, 1) := by decide +kernel
theorem dX11_meet_81 : decode cX11_meet 81 = .ok (.iload_n 1, 1) := by decide +kernel
theorem dX11_meet_82 : decode cX11_meet 82 = .ok (.iload_n 2, 1) := by decide +kernel
theorem dX11_meet_83 : decode cX11_meet 83 = .ok (.iload 5, 2) := by decide +kernel
theorem dX11_meet_85 : decode cX11_meet 85 = .ok (.imul, 1) := by decide +kernel
theorem dX11_meet_86 : decode cX11_meet 86 = .ok (.iadd, 1) := by decide +kernel
theorem dX11_meet_87 : decode cX11_meet 87 = .ok (.invokestatic 238, 3) := by decide +kernel
theorem dX11_meet_90 : decode cX11_meet 90 = .ok (.istore 6, 2) := by decide +kernel
theorem dX11_meet_92 : decode cX11_meet 92 = .ok (.iload 6, 2) := by decide +kernel
theorem dX11_meet_94 : decode cX11_meet 94 = .ok (.ifCond .eq 15, 3) := by decide +kernel
theorem dX11_meet_97 : decode cX11_meet 97 = .ok (.iload_n 3, 1) := by decide +kernel
theorem dX11_meet_98 : decode cX11_meet 98 = .ok (.iconst 1, 1) := by decide +kernel
theorem dX11_meet_99 : decode cX11_meet 99 = .ok (.if_icmp .ne 13, 3) := by decide +kernel
theorem dX11_meet_102 : decode cX11_meet 102 = .ok (.iload 6, 2) := by decide +kernel
theorem dX11_meet_104 : decode cX11_meet 104 = .ok (.iload 4, 2) := by decide +kernel
theorem dX11_meet_106 : decode cX11_meet 106 = .ok (.if_icmp .eq 6, 3) := by decide +kernel
theorem dX11_meet_109 : decode cX11_meet 109 = .ok (.iload 5, 2) := by decide +kernel
theorem dX11_meet_111 : decode cX11_meet 111 = .ok (.ireturn, 1) := by decide +kernel
theorem dX11_meet_112 : decode cX11_meet 112 = .ok (.iinc 5 1, 3) := by decide +kernel
theorem dX11_meet_115 : decode cX11_meet 115 = .ok (.goto (-51), 3) := by decide +kernel
theorem dX11_meet_118 : decode cX11_meet 118 = .ok (.iconst (-1), 1) := by decide +kernel
theorem dX11_meet_119 : decode cX11_meet 119 = .ok (.ireturn, 1) := by decide +kernel
theorem dX11_odds_0 : decode cX11_odds 0 = .ok (.aload_n 0, 1) := by decide +kernel
theorem dX11_odds_1 : decode cX11_odds 1 = .ok (.iload_n 1, 1) := by decide +kernel
theorem dX11_odds_2 : decode cX11_odds 2 = .ok (.invokevirtual 144, 3) := by decide +kernel
theorem dX11_odds_5 : decode cX11_odds 5 = .ok (.ifCond .eq 13, 3) := by decide +kernel
theorem dX11_odds_8 : decode cX11_odds 8 = .ok (.iload_n 2, 1) := by decide +kernel
theorem dX11_odds_9 : decode cX11_odds 9 = .ok (.iconst 0, 1) := by decide +kernel
theorem dX11_odds_10 : decode cX11_odds 10 = .ok (.bipush 10, 2) := by decide +kernel
theorem dX11_odds_12 : decode cX11_odds 12 = .ok (.invokestatic 116, 3) := by decide +kernel
theorem dX11_odds_15 : decode cX11_odds 15 = .ok (.ifCond .ne 10, 3) := by decide +kernel
theorem dX11_odds_18 : decode cX11_odds 18 = .ok (.aload_n 0, 1) := by decide +kernel
theorem dX11_odds_19 : decode cX11_odds 19 = .ok (.bipush (-2), 2) := by decide +kernel
theorem dX11_odds_21 : decode cX11_odds 21 = .ok (.invokevirtual 95, 3) := by decide +kernel
theorem dX11_odds_24 : decode cX11_odds 24 = .ok (.ireturn, 1) := by decide +kernel
theorem dX11_odds_25 : decode cX11_odds 25 = .ok (.iconst 1, 1) := by decide +kernel
theorem dX11_odds_26 : decode cX11_odds 26 = .ok (.istore_n 3, 1) := by decide +kernel
theorem dX11_odds_27 : decode cX11_odds 27 = .ok (.iconst 0, 1) := by decide +kernel
theorem dX11_odds_28 : decode cX11_odds 28 = .ok (.istore 4, 2) := by decide +kernel
theorem dX11_odds_30 : decode cX11_odds 30 = .ok (.iload 4, 2) := by decide +kernel
theorem dX11_odds_32 : decode cX11_odds 32 = .ok (.aload_n 0, 1) := by decide +kernel
theorem dX11_odds_33 : decode cX11_odds 33 = .ok (.getfield 32, 3) := by decide +kernel
theorem dX11_odds_36 : decode cX11_odds 36 = .ok (.getfield 82, 3) := by decide +kernel
theorem dX11_odds_39 : decode cX11_odds 39 = .ok (.getfield 85, 3) := by decide +kernel
theorem dX11_odds_42 : decode cX11_odds 42 = .ok (.if_icmp .ge 14, 3) := by decide +kernel
theorem dX11_odds_45 : decode cX11_odds 45 = .ok (.iload_n 3, 1) := by decide +kernel
theorem dX11_odds_46 : decode cX11_odds 46 = .ok (.bipush 10, 2) := by decide +kernel
theorem dX11_odds_48 : decode cX11_odds 48 = .ok (.imul, 1) := by decide +kernel
theorem dX11_odds_49 : decode cX11_odds 49 = .ok (.istore_n 3, 1) := by decide +kernel
theorem dX11_odds_50 : decode cX11_odds 50 = .ok (.iinc 4 1, 3) := by decide +kernel
theorem dX11_odds_53 : decode cX11_odds 53 = .ok (.goto (-23), 3) := by decide +kernel
theorem dX11_odds_56 : decode cX11_odds 56 = .ok (.aload_n 0, 1) := by decide +kernel
theorem dX11_odds_57 : decode cX11_odds 57 = .ok (.aload_n 0, 1) := by decide +kernel
theorem dX11_odds_58 : decode cX11_odds 58 = .ok (.getfield 32, 3) := by decide +kernel
theorem dX11_odds_61 : decode cX11_odds 61 = .ok (.getfield 82, 3) := by decide +kernel
theorem dX11_odds_64 : decode cX11_odds 64 = .ok (.iload_n 1, 1) := by decide +kernel
theorem dX11_odds_65 : decode cX11_odds 65 = .ok (.iload_n 2, 1) := by decide +kernel
theorem dX11_odds_66 : decode cX11_odds 66 = .ok (.invokevirtual 241, 3) := by decide +kernel
theorem dX11_odds_69 : decode cX11_odds 69 = .ok (.iload_n 3, 1) := by decide +kernel
theorem dX11_odds_70 : decode cX11_odds 70 = .ok (.invokevirtual 244, 3) := by decide +kernel
theorem dX11_odds_73 : decode cX11_odds 73 = .ok (.iconst 1, 1) := by decide +kernel
theorem dX11_odds_74 : decode cX11_odds 74 = .ok (.ireturn, 1) := by decide +kernel
theorem dX11_voyages_0 : decode cX11_voyages 0 = .ok (.iload_n 1, 1) := by decide +kernel
theorem dX11_voyages_1 : decode cX11_voyages 1 = .ok (.iconst 0, 1) := by decide +kernel
theorem dX11_voyages_2 : decode cX11_voyages 2 = .ok (.ldc 247, 2) := by decide +kernel
theorem dX11_voyages_4 : decode cX11_voyages 4 = .ok (.invokestatic 116, 3) := by decide +kernel
theorem dX11_voyages_7 : decode cX11_voyages 7 = .ok (.ifCond .eq 13, 3) := by decide +kernel
theorem dX11_voyages_10 : decode cX11_voyages 10 = .ok (.iload_n 2, 1) := by decide +kernel
theorem dX11_voyages_11 : decode cX11_voyages 11 = .ok (.iconst 0, 1) := by decide +kernel
theorem dX11_voyages_12 : decode cX11_voyages 12 = .ok (.bipush 60, 2) := by decide +kernel
theorem dX11_voyages_14 : decode cX11_voyages 14 = .ok (.invokestatic 116, 3) := by decide +kernel
theorem dX11_voyages_17 : decode cX11_voyages 17 = .ok (.ifCond .ne 11, 3) := by decide +kernel
theorem dX11_voyages_20 : decode cX11_voyages 20 = .ok (.aload_n 0, 1) := by decide +kernel
theorem dX11_voyages_21 : decode cX11_voyages 21 = .ok (.sipush (-10000), 3) := by decide +kernel
theorem dX11_voyages_24 : decode cX11_voyages 24 = .ok (.invokevirtual 95, 3) := by decide +kernel
theorem dX11_voyages_27 : decode cX11_voyages 27 = .ok (.ireturn, 1) := by decide +kernel
theorem dX11_voyages_28 : decode cX11_voyages 28 = .ok (.aload_n 0, 1) := by decide +kernel
theorem dX11_voyages_29 : decode cX11_voyages 29 = .ok (.getfield 50, 3) := by decide +kernel
theorem dX11_voyages_32 : decode cX11_voyages 32 = .ok (.aload_n 0, 1) := by decide +kernel
theorem dX11_voyages_33 : decode cX11_voyages 33 = .ok (.getfield 32, 3) := by decide +kernel
theorem dX11_voyages_36 : decode cX11_voyages 36 = .ok (.getfield 82, 3) := by decide +kernel
theorem dX11_voyages_39 : decode cX11_voyages 39 = .ok (.invokevirtual 207, 3) := by decide +kernel
theorem dX11_voyages_42 : decode cX11_voyages 42 = .ok (.iload_n 1, 1) := by decide +kernel
theorem dX11_voyages_43 : decode cX11_voyages 43 = .ok (.i2l, 1) := by decide +kernel
theorem dX11_voyages_44 : decode cX11_voyages 44 = .ok (.lstore_n 3, 1) := by decide +kernel
theorem dX11_voyages_45 : decode cX11_voyages 45 = .ok (.iconst 0, 1) := by decide +kernel
theorem dX11_voyages_46 : decode cX11_voyages 46 = .ok (.istore 5, 2) := by decide +kernel
theorem dX11_voyages_48 : decode cX11_voyages 48 = .ok (.iload 5, 2) := by decide +kernel
theorem dX11_voyages_50 : decode cX11_voyages 50 = .ok (.iload_n 2, 1) := by decide +kernel
theorem dX11_voyages_51 : decode cX11_voyages 51 = .ok (.if_icmp .ge 53, 3) := by decide +kernel
theorem dX11_voyages_54 : decode cX11_voyages 54 = .ok (.lload_n 3, 1) := by decide +kernel
theorem dX11_voyages_55 : decode cX11_voyages 55 = .ok (.ldc2_w 248, 3) := by decide +kernel
theorem dX11_voyages_58 : decode cX11_voyages 58 = .ok (.lmul, 1) := by decide +kernel
theorem dX11_voyages_59 : decode cX11_voyages 59 = .ok (.ldc2_w 250, 3) := by decide +kernel
theorem dX11_voyages_62 : decode cX11_voyages 62 = .ok (.ladd, 1) := by decide +kernel
theorem dX11_voyages_63 : decode cX11_voyages 63 = .ok (.ldc2_w 252, 3) := by decide +kernel
theorem dX11_voyages_66 : decode cX11_voyages 66 = .ok (.lrem, 1) := by decide +kernel
theorem dX11_voyages_67 : decode cX11_voyages 67 = .ok (.lstore_n 3, 1) := by decide +kernel
theorem dX11_voyages_68 : decode cX11_voyages 68 = .ok (.lload_n 3, 1) := by decide +kernel
theorem dX11_voyages_69 : decode cX11_voyages 69 = .ok (.ldc2_w 254, 3) := by decide +kernel
theorem dX11_voyages_72 : decode cX11_voyages 72 = .ok (.ldiv, 1) := by decide +kernel
theorem dX11_voyages_73 : decode cX11_voyages 73 = .ok (.ldc2_w 256, 3) := by decide +kernel
theorem dX11_voyages_76 : decode cX11_voyages 76 = .ok (.lrem, 1) := by decide +kernel
theorem dX11_voyages_77 : decode cX11_voyages 77 = .ok (.l2i, 1) := by decide +kernel
theorem dX11_voyages_78 : decode cX11_voyages 78 = .ok (.istore 6, 2) := by decide +kernel
theorem dX11_voyages_80 : decode cX11_voyages 80 = .ok (.aload_n 0, 1) := by decide +kernel
theorem dX11_voyages_81 : decode cX11_voyages 81 = .ok (.getfield 50, 3) := by decide +kernel
theorem dX11_voyages_84 : decode cX11_voyages 84 = .ok (.aload_n 0, 1) := by decide +kernel
theorem dX11_voyages_85 : decode cX11_voyages 85 = .ok (.getfield 50, 3) := by decide +kernel
theorem dX11_voyages_88 : decode cX11_voyages 88 = .ok (.iconst 1, 1) := by decide +kernel
theorem dX11_voyages_89 : decode cX11_voyages 89 = .ok (.iload 6, 2) := by decide +kernel
theorem dX11_voyages_91 : decode cX11_voyages 91 = .ok (.ishl, 1) := by decide +kernel
theorem dX11_voyages_92 : decode cX11_voyages 92 = .ok (.invokevirtual 157, 3) := by decide +kernel
theorem dX11_voyages_95 : decode cX11_voyages 95 = .ok (.invokevirtual 160, 3) := by decide +kernel
theorem dX11_voyages_98 : decode cX11_voyages 98 = .ok (.iinc 5 1, 3) := by decide +kernel
theorem dX11_voyages_101 : decode cX11_voyages 101 = .ok (.goto (-53), 3) := by decide +kernel
theorem dX11_voyages_104 : decode cX11_voyages 104 = .ok (.aload_n 0, 1) := by decide +kernel
theorem dX11_voyages_105 : decode cX11_voyages 105 = .ok (.getfield 50, 3) := by decide +kernel
theorem dX11_voyages_108 : decode cX11_voyages 108 = .ok (.getfield 184, 3) := by decide +kernel
theorem dX11_voyages_111 : decode cX11_voyages 111 = .ok (.ireturn, 1) := by decide +kernel
theorem dX11_part_0 : decode cX11_part 0 = .ok (.iload_n 1, 1) := by decide +kernel
theorem dX11_part_1 : decode cX11_part 1 = .ok (.lookupswitch 39 #[(0, 27), (1, 33)], 27) := by decide +kernel
theorem dX11_part_28 : decode cX11_part 28 = .ok (.aload_n 0, 1) := by decide +kernel
theorem dX11_part_29 : decode cX11_part 29 = .ok (.getfield 75, 3) := by decide +kernel
theorem dX11_part_32 : decode cX11_part 32 = .ok (.i2l, 1) := by decide +kernel
theorem dX11_part_33 : decode cX11_part 33 = .ok (.lreturn, 1) := by decide +kernel
theorem dX11_part_34 : decode cX11_part 34 = .ok (.aload_n 0, 1) := by decide +kernel
theorem dX11_part_35 : decode cX11_part 35 = .ok (.getfield 79, 3) := by decide +kernel
theorem dX11_part_38 : decode cX11_part 38 = .ok (.i2l, 1) := by decide +kernel
theorem dX11_part_39 : decode cX11_part 39 = .ok (.lreturn, 1) := by decide +kernel
theorem dX11_part_40 : decode cX11_part 40 = .ok (.aload_n 0, 1) := by decide +kernel
theorem dX11_part_41 : decode cX11_part 41 = .ok (.bipush (-2), 2) := by decide +kernel
theorem dX11_part_43 : decode cX11_part 43 = .ok (.invokevirtual 95, 3) := by decide +kernel
theorem dX11_part_46 : decode cX11_part 46 = .ok (.i2l, 1) := by decide +kernel
theorem dX11_part_47 : decode cX11_part 47 = .ok (.lreturn, 1) := by decide +kernel
theorem dX11_image_0 : decode cX11_image 0 = .ok (.iload_n 1, 1) := by decide +kernel
theorem dX11_image_1 : decode cX11_image 1 = .ok (.iconst 0, 1) := by decide +kernel
theorem dX11_image_2 : decode cX11_image 2 = .ok (.iconst 1, 1) := by decide +kernel
theorem dX11_image_3 : decode cX11_image 3 = .ok (.invokestatic 116, 3) := by decide +kernel
theorem dX11_image_6 : decode cX11_image 6 = .ok (.ifCond .ne 10, 3) := by decide +kernel
theorem dX11_image_9 : decode cX11_image 9 = .ok (.aload_n 0, 1) := by decide +kernel
theorem dX11_image_10 : decode cX11_image 10 = .ok (.bipush (-2), 2) := by decide +kernel
theorem dX11_image_12 : decode cX11_image 12 = .ok (.invokevirtual 95, 3) := by decide +kernel
theorem dX11_image_15 : decode cX11_image 15 = .ok (.ireturn, 1) := by decide +kernel
theorem dX11_image_16 : decode cX11_image 16 = .ok (.aload_n 0, 1) := by decide +kernel
theorem dX11_image_17 : decode cX11_image 17 = .ok (.getfield 39, 3) := by decide +kernel
theorem dX11_image_20 : decode cX11_image 20 = .ok (.iload_n 1, 1) := by decide +kernel
theorem dX11_image_21 : decode cX11_image 21 = .ok (.aaload, 1) := by decide +kernel
theorem dX11_image_22 : decode cX11_image 22 = .ok (.aload_n 0, 1) := by decide +kernel
theorem dX11_image_23 : decode cX11_image 23 = .ok (.getfield 32, 3) := by decide +kernel
theorem dX11_image_26 : decode cX11_image 26 = .ok (.invokevirtual 140, 3) := by decide +kernel
theorem dX11_image_29 : decode cX11_image 29 = .ok (.aload_n 0, 1) := by decide +kernel
theorem dX11_image_30 : decode cX11_image 30 = .ok (.getfield 43, 3) := by decide +kernel
theorem dX11_image_33 : decode cX11_image 33 = .ok (.iload_n 1, 1) := by decide +kernel
theorem dX11_image_34 : decode cX11_image 34 = .ok (.iconst 1, 1) := by decide +kernel
theorem dX11_image_35 : decode cX11_image 35 = .ok (.bastore, 1) := by decide +kernel
theorem dX11_image_36 : decode cX11_image 36 = .ok (.iconst 1, 1) := by decide +kernel
theorem dX11_image_37 : decode cX11_image 37 = .ok (.ireturn, 1) := by decide +kernel
theorem dX11_from_0 : decode cX11_from 0 = .ok (.iload_n 1, 1) := by decide +kernel
theorem dX11_from_1 : decode cX11_from 1 = .ok (.iconst 0, 1) := by decide +kernel
theorem dX11_from_2 : decode cX11_from 2 = .ok (.iconst 1, 1) := by decide +kernel
theorem dX11_from_3 : decode cX11_from 3 = .ok (.invokestatic 116, 3) := by decide +kernel
theorem dX11_from_6 : decode cX11_from 6 = .ok (.ifCond .ne 10, 3) := by decide +kernel
theorem dX11_from_9 : decode cX11_from 9 = .ok (.aload_n 0, 1) := by decide +kernel
theorem dX11_from_10 : decode cX11_from 10 = .ok (.bipush (-2), 2) := by decide +kernel
theorem dX11_from_12 : decode cX11_from 12 = .ok (.invokevirtual 95, 3) := by decide +kernel
theorem dX11_from_15 : decode cX11_from 15 = .ok (.ireturn, 1) := by decide +kernel
theorem dX11_from_16 : decode cX11_from 16 = .ok (.aload_n 0, 1) := by decide +kernel
theorem dX11_from_17 : decode cX11_from 17 = .ok (.getfield 43, 3) := by decide +kernel
theorem dX11_from_20 : decode cX11_from 20 = .ok (.iload_n 1, 1) := by decide +kernel
theorem dX11_from_21 : decode cX11_from 21 = .ok (.baload, 1) := by decide +kernel
theorem dX11_from_22 : decode cX11_from 22 = .ok (.ifCond .ne 8, 3) := by decide +kernel
theorem dX11_from_25 : decode cX11_from 25 = .ok (.aload_n 0, 1) := by decide +kernel
theorem dX11_from_26 : decode cX11_from 26 = .ok (.invokevirtual 102, 3) := by decide +kernel
theorem dX11_from_29 : decode cX11_from 29 = .ok (.ireturn, 1) := by decide +kernel
theorem dX11_from_30 : decode cX11_from 30 = .ok (.aload_n 0, 1) := by decide +kernel
theorem dX11_from_31 : decode cX11_from 31 = .ok (.getfield 32, 3) := by decide +kernel
theorem dX11_from_34 : decode cX11_from 34 = .ok (.aload_n 0, 1) := by decide +kernel
theorem dX11_from_35 : decode cX11_from 35 = .ok (.getfield 39, 3) := by decide +kernel
theorem dX11_from_38 : decode cX11_from 38 = .ok (.iload_n 1, 1) := by decide +kernel
theorem dX11_from_39 : decode cX11_from 39 = .ok (.aaload, 1) := by decide +kernel
theorem dX11_from_40 : decode cX11_from 40 = .ok (.invokevirtual 140, 3) := by decide +kernel
theorem dX11_from_43 : decode cX11_from 43 = .ok (.iconst 1, 1) := by decide +kernel
theorem dX11_from_44 : decode cX11_from 44 = .ok (.ireturn, 1) := by decide +kernel
theorem dX11_status_0 : decode cX11_status 0 = .ok (.iload_n 1, 1) := by decide +kernel
theorem dX11_status_1 : decode cX11_status 1 = .ok (.tableswitch 42 0 2 #[27, 32, 37], 27) := by decide +kernel
theorem dX11_status_28 : decode cX11_status 28 = .ok (.aload_n 0, 1) := by decide +kernel
theorem dX11_status_29 : decode cX11_status 29 = .ok (.getfield 258, 3) := by decide +kernel
theorem dX11_status_32 : decode cX11_status 32 = .ok (.ireturn, 1) := by decide +kernel
theorem dX11_status_33 : decode cX11_status 33 = .ok (.aload_n 0, 1) := by decide +kernel
theorem dX11_status_34 : decode cX11_status 34 = .ok (.getfield 261, 3) := by decide +kernel
theorem dX11_status_37 : decode cX11_status 37 = .ok (.ireturn, 1) := by decide +kernel
theorem dX11_status_38 : decode cX11_status 38 = .ok (.aload_n 0, 1) := by decide +kernel
theorem dX11_status_39 : decode cX11_status 39 = .ok (.getfield 264, 3) := by decide +kernel
theorem dX11_status_42 : decode cX11_status 42 = .ok (.ireturn, 1) := by decide +kernel
theorem dX11_status_43 : decode cX11_status 43 = .ok (.aload_n 0, 1) := by decide +kernel
theorem dX11_status_44 : decode cX11_status 44 = .ok (.iconst (-1), 1) := by decide +kernel
theorem dX11_status_45 : decode cX11_status 45 = .ok (.invokevirtual 95, 3) := by decide +kernel
theorem dX11_status_48 : decode cX11_status 48 = .ok (.ireturn, 1) := by decide +kernel
theorem dX11_count_0 : decode cX11_count 0 = .ok (.iload_n 1, 1) := by decide +kernel
theorem dX11_count_1 : decode cX11_count 1 = .ok (.iconst 0, 1) := by decide +kernel
theorem dX11_count_2 : decode cX11_count 2 = .ok (.bipush 6, 2) := by decide +kernel
theorem dX11_count_4 : decode cX11_count 4 = .ok (.invokestatic 116, 3) := by decide +kernel
theorem dX11_count_7 : decode cX11_count 7 = .ok (.ifCond .eq 11, 3) := by decide +kernel
theorem dX11_count_10 : decode cX11_count 10 = .ok (.aload_n 0, 1) := by decide +kernel
theorem dX11_count_11 : decode cX11_count 11 = .ok (.iload_n 1, 1) := by decide +kernel
theorem dX11_count_12 : decode cX11_count 12 = .ok (.invokevirtual 267, 3) := by decide +kernel
theorem dX11_count_15 : decode cX11_count 15 = .ok (.goto 9, 3) := by decide +kernel
theorem dX11_count_18 : decode cX11_count 18 = .ok (.aload_n 0, 1) := by decide +kernel
theorem dX11_count_19 : decode cX11_count 19 = .ok (.bipush (-2), 2) := by decide +kernel
theorem dX11_count_21 : decode cX11_count 21 = .ok (.invokevirtual 95, 3) := by decide +kernel
theorem dX11_count_24 : decode cX11_count 24 = .ok (.ireturn, 1) := by decide +kernel
theorem dX11_digest_0 : decode cX11_digest 0 = .ok (.ldc2_w 270, 3) := by decide +kernel
theorem dX11_digest_3 : decode cX11_digest 3 = .ok (.lstore_n 1, 1) := by decide +kernel
theorem dX11_digest_4 : decode cX11_digest 4 = .ok (.iconst 0, 1) := by decide +kernel
theorem dX11_digest_5 : decode cX11_digest 5 = .ok (.istore_n 3, 1) := by decide +kernel
theorem dX11_digest_6 : decode cX11_digest 6 = .ok (.iload_n 3, 1) := by decide +kernel
theorem dX11_digest_7 : decode cX11_digest 7 = .ok (.bipush 6, 2) := by decide +kernel
theorem dX11_digest_9 : decode cX11_digest 9 = .ok (.if_icmp .gt 22, 3) := by decide +kernel
theorem dX11_digest_12 : decode cX11_digest 12 = .ok (.ldc2_w 272, 3) := by decide +kernel
theorem dX11_digest_15 : decode cX11_digest 15 = .ok (.lload_n 1, 1) := by decide +kernel
theorem dX11_digest_16 : decode cX11_digest 16 = .ok (.lmul, 1) := by decide +kernel
theorem dX11_digest_17 : decode cX11_digest 17 = .ok (.aload_n 0, 1) := by decide +kernel
theorem dX11_digest_18 : decode cX11_digest 18 = .ok (.iload_n 3, 1) := by decide +kernel
theorem dX11_digest_19 : decode cX11_digest 19 = .ok (.invokevirtual 267, 3) := by decide +kernel
theorem dX11_digest_22 : decode cX11_digest 22 = .ok (.i2l, 1) := by decide +kernel
theorem dX11_digest_23 : decode cX11_digest 23 = .ok (.ladd, 1) := by decide +kernel
theorem dX11_digest_24 : decode cX11_digest 24 = .ok (.lstore_n 1, 1) := by decide +kernel
theorem dX11_digest_25 : decode cX11_digest 25 = .ok (.iinc 3 1, 3) := by decide +kernel
theorem dX11_digest_28 : decode cX11_digest 28 = .ok (.goto (-22), 3) := by decide +kernel
theorem dX11_digest_31 : decode cX11_digest 31 = .ok (.aload_n 0, 1) := by decide +kernel
theorem dX11_digest_32 : decode cX11_digest 32 = .ok (.getfield 32, 3) := by decide +kernel
theorem dX11_digest_35 : decode cX11_digest 35 = .ok (.lload_n 1, 1) := by decide +kernel
theorem dX11_digest_36 : decode cX11_digest 36 = .ok (.invokevirtual 274, 3) := by decide +kernel
theorem dX11_digest_39 : decode cX11_digest 39 = .ok (.lstore_n 1, 1) := by decide +kernel
theorem dX11_digest_40 : decode cX11_digest 40 = .ok (.ldc2_w 272, 3) := by decide +kernel
theorem dX11_digest_43 : decode cX11_digest 43 = .ok (.lload_n 1, 1) := by decide +kernel
theorem dX11_digest_44 : decode cX11_digest 44 = .ok (.lmul, 1) := by decide +kernel
theorem dX11_digest_45 : decode cX11_digest 45 = .ok (.aload_n 0, 1) := by decide +kernel
theorem dX11_digest_46 : decode cX11_digest 46 = .ok (.getfield 75, 3) := by decide +kernel
theorem dX11_digest_49 : decode cX11_digest 49 = .ok (.i2l, 1) := by decide +kernel
theorem dX11_digest_50 : decode cX11_digest 50 = .ok (.ladd, 1) := by decide +kernel
theorem dX11_digest_51 : decode cX11_digest 51 = .ok (.lstore_n 1, 1) := by decide +kernel
theorem dX11_digest_52 : decode cX11_digest 52 = .ok (.ldc2_w 272, 3) := by decide +kernel
theorem dX11_digest_55 : decode cX11_digest 55 = .ok (.lload_n 1, 1) := by decide +kernel
theorem dX11_digest_56 : decode cX11_digest 56 = .ok (.lmul, 1) := by decide +kernel
theorem dX11_digest_57 : decode cX11_digest 57 = .ok (.aload_n 0, 1) := by decide +kernel
theorem dX11_digest_58 : decode cX11_digest 58 = .ok (.getfield 79, 3) := by decide +kernel
theorem dX11_digest_61 : decode cX11_digest 61 = .ok (.i2l, 1) := by decide +kernel
theorem dX11_digest_62 : decode cX11_digest 62 = .ok (.ladd, 1) := by decide +kernel
theorem dX11_digest_63 : decode cX11_digest 63 = .ok (.lreturn, 1) := by decide +kernel
theorem dX11_amount_0 : decode cX11_amount 0 = .ok (.iload_n 1, 1) := by decide +kernel
theorem dX11_amount_1 : decode cX11_amount 1 = .ok (.tableswitch 99 0 5 #[39, 50, 58, 69, 83, 91], 39) := by decide +kernel
theorem dX11_amount_40 : decode cX11_amount 40 = .ok (.aload_n 0, 1) := by decide +kernel
theorem dX11_amount_41 : decode cX11_amount 41 = .ok (.getfield 32, 3) := by decide +kernel
theorem dX11_amount_44 : decode cX11_amount 44 = .ok (.getfield 82, 3) := by decide +kernel
theorem dX11_amount_47 : decode cX11_amount 47 = .ok (.getfield 85, 3) := by decide +kernel
theorem dX11_amount_50 : decode cX11_amount 50 = .ok (.ireturn, 1) := by decide +kernel
theorem dX11_amount_51 : decode cX11_amount 51 = .ok (.aload_n 0, 1) := by decide +kernel
theorem dX11_amount_52 : decode cX11_amount 52 = .ok (.getfield 32, 3) := by decide +kernel
theorem dX11_amount_55 : decode cX11_amount 55 = .ok (.getfield 106, 3) := by decide +kernel
theorem dX11_amount_58 : decode cX11_amount 58 = .ok (.ireturn, 1) := by decide +kernel
theorem dX11_amount_59 : decode cX11_amount 59 = .ok (.aload_n 0, 1) := by decide +kernel
theorem dX11_amount_60 : decode cX11_amount 60 = .ok (.getfield 32, 3) := by decide +kernel
theorem dX11_amount_63 : decode cX11_amount 63 = .ok (.getfield 82, 3) := by decide +kernel
theorem dX11_amount_66 : decode cX11_amount 66 = .ok (.getfield 167, 3) := by decide +kernel
theorem dX11_amount_69 : decode cX11_amount 69 = .ok (.ireturn, 1) := by decide +kernel
theorem dX11_amount_70 : decode cX11_amount 70 = .ok (.aload_n 0, 1) := by decide +kernel
theorem dX11_amount_71 : decode cX11_amount 71 = .ok (.getfield 32, 3) := by decide +kernel
theorem dX11_amount_74 : decode cX11_amount 74 = .ok (.getfield 82, 3) := by decide +kernel
theorem dX11_amount_77 : decode cX11_amount 77 = .ok (.getfield 147, 3) := by decide +kernel
theorem dX11_amount_80 : decode cX11_amount 80 = .ok (.invokestatic 229, 3) := by decide +kernel
theorem dX11_amount_83 : decode cX11_amount 83 = .ok (.ireturn, 1) := by decide +kernel
theorem dX11_amount_84 : decode cX11_amount 84 = .ok (.aload_n 0, 1) := by decide +kernel
theorem dX11_amount_85 : decode cX11_amount 85 = .ok (.getfield 32, 3) := by decide +kernel
theorem dX11_amount_88 : decode cX11_amount 88 = .ok (.getfield 216, 3) := by decide +kernel
theorem dX11_amount_91 : decode cX11_amount 91 = .ok (.ireturn, 1) := by decide +kernel
theorem dX11_amount_92 : decode cX11_amount 92 = .ok (.aload_n 0, 1) := by decide +kernel
theorem dX11_amount_93 : decode cX11_amount 93 = .ok (.getfield 32, 3) := by decide +kernel
theorem dX11_amount_96 : decode cX11_amount 96 = .ok (.getfield 278, 3) := by decide +kernel
theorem dX11_amount_99 : decode cX11_amount 99 = .ok (.ireturn, 1) := by decide +kernel
theorem dX11_amount_100 : decode cX11_amount 100 = .ok (.aload_n 0, 1) := by decide +kernel
theorem dX11_amount_101 : decode cX11_amount 101 = .ok (.getfield 71, 3) := by decide +kernel
theorem dX11_amount_104 : decode cX11_amount 104 = .ok (.getfield 127, 3) := by decide +kernel
theorem dX11_amount_107 : decode cX11_amount 107 = .ok (.ireturn, 1) := by decide +kernel
theorem dX11_refuseBad_0 : decode cX11_refuseBad 0 = .ok (.aload_n 0, 1) := by decide +kernel
theorem dX11_refuseBad_1 : decode cX11_refuseBad 1 = .ok (.dup, 1) := by decide +kernel
theorem dX11_refuseBad_2 : decode cX11_refuseBad 2 = .ok (.getfield 258, 3) := by decide +kernel
theorem dX11_refuseBad_5 : decode cX11_refuseBad 5 = .ok (.iconst 1, 1) := by decide +kernel
theorem dX11_refuseBad_6 : decode cX11_refuseBad 6 = .ok (.iadd, 1) := by decide +kernel
theorem dX11_refuseBad_7 : decode cX11_refuseBad 7 = .ok (.putfield 258, 3) := by decide +kernel
theorem dX11_refuseBad_10 : decode cX11_refuseBad 10 = .ok (.iload_n 1, 1) := by decide +kernel
theorem dX11_refuseBad_11 : decode cX11_refuseBad 11 = .ok (.ireturn, 1) := by decide +kernel
theorem dX11_refuseNo_0 : decode cX11_refuseNo 0 = .ok (.aload_n 0, 1) := by decide +kernel
theorem dX11_refuseNo_1 : decode cX11_refuseNo 1 = .ok (.dup, 1) := by decide +kernel
theorem dX11_refuseNo_2 : decode cX11_refuseNo 2 = .ok (.getfield 261, 3) := by decide +kernel
theorem dX11_refuseNo_5 : decode cX11_refuseNo 5 = .ok (.iconst 1, 1) := by decide +kernel
theorem dX11_refuseNo_6 : decode cX11_refuseNo 6 = .ok (.iadd, 1) := by decide +kernel
theorem dX11_refuseNo_7 : decode cX11_refuseNo 7 = .ok (.putfield 261, 3) := by decide +kernel
theorem dX11_refuseNo_10 : decode cX11_refuseNo 10 = .ok (.bipush (-3), 2) := by decide +kernel
theorem dX11_refuseNo_12 : decode cX11_refuseNo 12 = .ok (.ireturn, 1) := by decide +kernel
theorem dX11_refuseFull_0 : decode cX11_refuseFull 0 = .ok (.aload_n 0, 1) := by decide +kernel
theorem dX11_refuseFull_1 : decode cX11_refuseFull 1 = .ok (.dup, 1) := by decide +kernel
theorem dX11_refuseFull_2 : decode cX11_refuseFull 2 = .ok (.getfield 264, 3) := by decide +kernel
theorem dX11_refuseFull_5 : decode cX11_refuseFull 5 = .ok (.iconst 1, 1) := by decide +kernel
theorem dX11_refuseFull_6 : decode cX11_refuseFull 6 = .ok (.iadd, 1) := by decide +kernel
theorem dX11_refuseFull_7 : decode cX11_refuseFull 7 = .ok (.putfield 264, 3) := by decide +kernel
theorem dX11_refuseFull_10 : decode cX11_refuseFull 10 = .ok (.bipush (-4), 2) := by decide +kernel
theorem dX11_refuseFull_12 : decode cX11_refuseFull 12 = .ok (.ireturn, 1) := by decide +kernel
theorem dX11_isHand_0 : decode cX11_isHand 0 = .ok (.iload_n 1, 1) := by decide +kernel
theorem dX11_isHand_1 : decode cX11_isHand 1 = .ok (.iconst 0, 1) := by decide +kernel
theorem dX11_isHand_2 : decode cX11_isHand 2 = .ok (.aload_n 0, 1) := by decide +kernel
theorem dX11_isHand_3 : decode cX11_isHand 3 = .ok (.getfield 32, 3) := by decide +kernel
theorem dX11_isHand_6 : decode cX11_isHand 6 = .ok (.getfield 82, 3) := by decide +kernel
theorem dX11_isHand_9 : decode cX11_isHand 9 = .ok (.getfield 85, 3) := by decide +kernel
theorem dX11_isHand_12 : decode cX11_isHand 12 = .ok (.iconst 1, 1) := by decide +kernel
theorem dX11_isHand_13 : decode cX11_isHand 13 = .ok (.isub, 1) := by decide +kernel
theorem dX11_isHand_14 : decode cX11_isHand 14 = .ok (.invokestatic 116, 3) := by decide +kernel
theorem dX11_isHand_17 : decode cX11_isHand 17 = .ok (.ireturn, 1) := by decide +kernel
theorem dX11_fittingNods_0 : decode cX11_fittingNods 0 = .ok (.iconst 0, 1) := by decide +kernel
theorem dX11_fittingNods_1 : decode cX11_fittingNods 1 = .ok (.istore_n 2, 1) := by decide +kernel
theorem dX11_fittingNods_2 : decode cX11_fittingNods 2 = .ok (.bipush (-3), 2) := by decide +kernel
theorem dX11_fittingNods_4 : decode cX11_fittingNods 4 = .ok (.istore_n 3, 1) := by decide +kernel
theorem dX11_fittingNods_5 : decode cX11_fittingNods 5 = .ok (.iload_n 3, 1) := by decide +kernel
theorem dX11_fittingNods_6 : decode cX11_fittingNods 6 = .ok (.iconst 3, 1) := by decide +kernel
theorem dX11_fittingNods_7 : decode cX11_fittingNods 7 = .ok (.if_icmp .gt 39, 3) := by decide +kernel
theorem dX11_fittingNods_10 : decode cX11_fittingNods 10 = .ok (.aload_n 0, 1) := by decide +kernel
theorem dX11_fittingNods_11 : decode cX11_fittingNods 11 = .ok (.iload_n 1, 1) := by decide +kernel
theorem dX11_fittingNods_12 : decode cX11_fittingNods 12 = .ok (.iload_n 3, 1) := by decide +kernel
theorem dX11_fittingNods_13 : decode cX11_fittingNods 13 = .ok (.aload_n 0, 1) := by decide +kernel
theorem dX11_fittingNods_14 : decode cX11_fittingNods 14 = .ok (.getfield 32, 3) := by decide +kernel
theorem dX11_fittingNods_17 : decode cX11_fittingNods 17 = .ok (.getfield 82, 3) := by decide +kernel
theorem dX11_fittingNods_20 : decode cX11_fittingNods 20 = .ok (.getfield 177, 3) := by decide +kernel
theorem dX11_fittingNods_23 : decode cX11_fittingNods 23 = .ok (.iload_n 1, 1) := by decide +kernel
theorem dX11_fittingNods_24 : decode cX11_fittingNods 24 = .ok (.iaload, 1) := by decide +kernel
theorem dX11_fittingNods_25 : decode cX11_fittingNods 25 = .ok (.isub, 1) := by decide +kernel
theorem dX11_fittingNods_26 : decode cX11_fittingNods 26 = .ok (.invokevirtual 281, 3) := by decide +kernel
theorem dX11_fittingNods_29 : decode cX11_fittingNods 29 = .ok (.ifCond .eq 11, 3) := by decide +kernel
theorem dX11_fittingNods_32 : decode cX11_fittingNods 32 = .ok (.iload_n 2, 1) := by decide +kernel
theorem dX11_fittingNods_33 : decode cX11_fittingNods 33 = .ok (.iconst 1, 1) := by decide +kernel
theorem dX11_fittingNods_34 : decode cX11_fittingNods 34 = .ok (.iload_n 3, 1) := by decide +kernel
theorem dX11_fittingNods_35 : decode cX11_fittingNods 35 = .ok (.iconst 3, 1) := by decide +kernel
theorem dX11_fittingNods_36 : decode cX11_fittingNods 36 = .ok (.iadd, 1) := by decide +kernel
theorem dX11_fittingNods_37 : decode cX11_fittingNods 37 = .ok (.ishl, 1) := by decide +kernel
theorem dX11_fittingNods_38 : decode cX11_fittingNods 38 = .ok (.ior, 1) := by decide +kernel
theorem dX11_fittingNods_39 : decode cX11_fittingNods 39 = .ok (.istore_n 2, 1) := by decide +kernel
theorem dX11_fittingNods_40 : decode cX11_fittingNods 40 = .ok (.iinc 3 1, 3) := by decide +kernel
theorem dX11_fittingNods_43 : decode cX11_fittingNods 43 = .ok (.goto (-38), 3) := by decide +kernel
theorem dX11_fittingNods_46 : decode cX11_fittingNods 46 = .ok (.iload_n 2, 1) := by decide +kernel
theorem dX11_fittingNods_47 : decode cX11_fittingNods 47 = .ok (.ireturn, 1) := by decide +kernel
theorem dX11_fitsNods_0 : decode cX11_fitsNods 0 = .ok (.iconst 0, 1) := by decide +kernel
theorem dX11_fitsNods_1 : decode cX11_fitsNods 1 = .ok (.istore_n 3, 1) := by decide +kernel
theorem dX11_fitsNods_2 : decode cX11_fitsNods 2 = .ok (.iload_n 3, 1) := by decide +kernel
theorem dX11_fitsNods_3 : decode cX11_fitsNods 3 = .ok (.aload_n 0, 1) := by decide +kernel
theorem dX11_fitsNods_4 : decode cX11_fitsNods 4 = .ok (.getfield 32, 3) := by decide +kernel
theorem dX11_fitsNods_7 : decode cX11_fitsNods 7 = .ok (.getfield 216, 3) := by decide +kernel
theorem dX11_fitsNods_10 : decode cX11_fitsNods 10 = .ok (.if_icmp .ge 57, 3) := by decide +kernel
theorem dX11_fitsNods_13 : decode cX11_fitsNods 13 = .ok (.aload_n 0, 1) := by decide +kernel
theorem dX11_fitsNods_14 : decode cX11_fitsNods 14 = .ok (.getfield 32, 3) := by decide +kernel
theorem dX11_fitsNods_17 : decode cX11_fitsNods 17 = .ok (.getfield 284, 3) := by decide +kernel
theorem dX11_fitsNods_20 : decode cX11_fitsNods 20 = .ok (.iload_n 3, 1) := by decide +kernel
theorem dX11_fitsNods_21 : decode cX11_fitsNods 21 = .ok (.iaload, 1) := by decide +kernel
theorem dX11_fitsNods_22 : decode cX11_fitsNods 22 = .ok (.istore 4, 2) := by decide +kernel
theorem dX11_fitsNods_24 : decode cX11_fitsNods 24 = .ok (.aload_n 0, 1) := by decide +kernel
theorem dX11_fitsNods_25 : decode cX11_fitsNods 25 = .ok (.getfield 57, 3) := by decide +kernel
theorem dX11_fitsNods_28 : decode cX11_fitsNods 28 = .ok (.getfield 191, 3) := by decide +kernel
theorem dX11_fitsNods_31 : decode cX11_fitsNods 31 = .ok (.iload 4, 2) := by decide +kernel
theorem dX11_fitsNods_33 : decode cX11_fitsNods 33 = .ok (.iaload, 1) := by decide +kernel
theorem dX11_fitsNods_34 : decode cX11_fitsNods 34 = .ok (.iload_n 2, 1) := by decide +kernel
theorem dX11_fitsNods_35 : decode cX11_fitsNods 35 = .ok (.aload_n 0, 1) := by decide +kernel
theorem dX11_fitsNods_36 : decode cX11_fitsNods 36 = .ok (.getfield 57, 3) := by decide +kernel
theorem dX11_fitsNods_39 : decode cX11_fitsNods 39 = .ok (.iload_n 1, 1) := by decide +kernel
theorem dX11_fitsNods_40 : decode cX11_fitsNods 40 = .ok (.iload 4, 2) := by decide +kernel
theorem dX11_fitsNods_42 : decode cX11_fitsNods 42 = .ok (.invokevirtual 234, 3) := by decide +kernel
theorem dX11_fitsNods_45 : decode cX11_fitsNods 45 = .ok (.imul, 1) := by decide +kernel
theorem dX11_fitsNods_46 : decode cX11_fitsNods 46 = .ok (.iadd, 1) := by decide +kernel
theorem dX11_fitsNods_47 : decode cX11_fitsNods 47 = .ok (.aload_n 0, 1) := by decide +kernel
theorem dX11_fitsNods_48 : decode cX11_fitsNods 48 = .ok (.getfield 32, 3) := by decide +kernel
theorem dX11_fitsNods_51 : decode cX11_fitsNods 51 = .ok (.getfield 287, 3) := by decide +kernel
theorem dX11_fitsNods_54 : decode cX11_fitsNods 54 = .ok (.iload_n 3, 1) := by decide +kernel
theorem dX11_fitsNods_55 : decode cX11_fitsNods 55 = .ok (.iaload, 1) := by decide +kernel
theorem dX11_fitsNods_56 : decode cX11_fitsNods 56 = .ok (.if_icmp .eq 5, 3) := by decide +kernel
theorem dX11_fitsNods_59 : decode cX11_fitsNods 59 = .ok (.iconst 0, 1) := by decide +kernel
theorem dX11_fitsNods_60 : decode cX11_fitsNods 60 = .ok (.ireturn, 1) := by decide +kernel
theorem dX11_fitsNods_61 : decode cX11_fitsNods 61 = .ok (.iinc 3 1, 3) := by decide +kernel
theorem dX11_fitsNods_64 : decode cX11_fitsNods 64 = .ok (.goto (-62), 3) := by decide +kernel
theorem dX11_fitsNods_67 : decode cX11_fitsNods 67 = .ok (.iconst 1, 1) := by decide +kernel
theorem dX11_fitsNods_68 : decode cX11_fitsNods 68 = .ok (.ireturn, 1) := by decide +kernel
theorem dX11_fitsPulled_0 : decode cX11_fitsPulled 0 = .ok (.iconst 0, 1) := by decide +kernel
theorem dX11_fitsPulled_1 : decode cX11_fitsPulled 1 = .ok (.istore_n 3, 1) := by decide +kernel
theorem dX11_fitsPulled_2 : decode cX11_fitsPulled 2 = .ok (.iload_n 3, 1) := by decide +kernel
theorem dX11_fitsPulled_3 : decode cX11_fitsPulled 3 = .ok (.aload_n 0, 1) := by decide +kernel
theorem dX11_fitsPulled_4 : decode cX11_fitsPulled 4 = .ok (.getfield 32, 3) := by decide +kernel
theorem dX11_fitsPulled_7 : decode cX11_fitsPulled 7 = .ok (.getfield 216, 3) := by decide +kernel
theorem dX11_fitsPulled_10 : decode cX11_fitsPulled 10 = .ok (.if_icmp .ge 60, 3) := by decide +kernel
theorem dX11_fitsPulled_13 : decode cX11_fitsPulled 13 = .ok (.aload_n 0, 1) := by decide +kernel
theorem dX11_fitsPulled_14 : decode cX11_fitsPulled 14 = .ok (.getfield 32, 3) := by decide +kernel
theorem dX11_fitsPulled_17 : decode cX11_fitsPulled 17 = .ok (.getfield 284, 3) := by decide +kernel
theorem dX11_fitsPulled_20 : decode cX11_fitsPulled 20 = .ok (.iload_n 3, 1) := by decide +kernel
theorem dX11_fitsPulled_21 : decode cX11_fitsPulled 21 = .ok (.iaload, 1) := by decide +kernel
theorem dX11_fitsPulled_22 : decode cX11_fitsPulled 22 = .ok (.istore 4, 2) := by decide +kernel
theorem dX11_fitsPulled_24 : decode cX11_fitsPulled 24 = .ok (.aload_n 0, 1) := by decide +kernel
theorem dX11_fitsPulled_25 : decode cX11_fitsPulled 25 = .ok (.getfield 57, 3) := by decide +kernel
theorem dX11_fitsPulled_28 : decode cX11_fitsPulled 28 = .ok (.getfield 191, 3) := by decide +kernel
theorem dX11_fitsPulled_31 : decode cX11_fitsPulled 31 = .ok (.iload 4, 2) := by decide +kernel
theorem dX11_fitsPulled_33 : decode cX11_fitsPulled 33 = .ok (.iaload, 1) := by decide +kernel
theorem dX11_fitsPulled_34 : decode cX11_fitsPulled 34 = .ok (.iload 4, 2) := by decide +kernel
theorem dX11_fitsPulled_36 : decode cX11_fitsPulled 36 = .ok (.iload_n 1, 1) := by decide +kernel
theorem dX11_fitsPulled_37 : decode cX11_fitsPulled 37 = .ok (.if_icmp .le 7, 3) := by decide +kernel
theorem dX11_fitsPulled_40 : decode cX11_fitsPulled 40 = .ok (.iload_n 2, 1) := by decide +kernel
theorem dX11_fitsPulled_41 : decode cX11_fitsPulled 41 = .ok (.goto 4, 3) := by decide +kernel
theorem dX11_fitsPulled_44 : decode cX11_fitsPulled 44 = .ok (.iconst 0, 1) := by decide +kernel
theorem dX11_fitsPulled_45 : decode cX11_fitsPulled 45 = .ok (.iadd, 1) := by decide +kernel
theorem dX11_fitsPulled_46 : decode cX11_fitsPulled 46 = .ok (.istore 5, 2) := by decide +kernel
theorem dX11_fitsPulled_48 : decode cX11_fitsPulled 48 = .ok (.iload 5, 2) := by decide +kernel
theorem dX11_fitsPulled_50 : decode cX11_fitsPulled 50 = .ok (.aload_n 0, 1) := by decide +kernel
theorem dX11_fitsPulled_51 : decode cX11_fitsPulled 51 = .ok (.getfield 32, 3) := by decide +kernel
theorem dX11_fitsPulled_54 : decode cX11_fitsPulled 54 = .ok (.getfield 287, 3) := by decide +kernel
theorem dX11_fitsPulled_57 : decode cX11_fitsPulled 57 = .ok (.iload_n 3, 1) := by decide +kernel
theorem dX11_fitsPulled_58 : decode cX11_fitsPulled 58 = .ok (.iaload, 1) := by decide +kernel
theorem dX11_fitsPulled_59 : decode cX11_fitsPulled 59 = .ok (.if_icmp .eq 5, 3) := by decide +kernel
theorem dX11_fitsPulled_62 : decode cX11_fitsPulled 62 = .ok (.iconst 0, 1) := by decide +kernel
theorem dX11_fitsPulled_63 : decode cX11_fitsPulled 63 = .ok (.ireturn, 1) := by decide +kernel
theorem dX11_fitsPulled_64 : decode cX11_fitsPulled 64 = .ok (.iinc 3 1, 3) := by decide +kernel
theorem dX11_fitsPulled_67 : decode cX11_fitsPulled 67 = .ok (.goto (-65), 3) := by decide +kernel
theorem dX11_fitsPulled_70 : decode cX11_fitsPulled 70 = .ok (.iconst 1, 1) := by decide +kernel
theorem dX11_fitsPulled_71 : decode cX11_fitsPulled 71 = .ok (.ireturn, 1) := by decide +kernel
theorem dX11_setFraction_0 : decode cX11_setFraction 0 = .ok (.iload_n 1, 1) := by decide +kernel
theorem dX11_setFraction_1 : decode cX11_setFraction 1 = .ok (.iload_n 2, 1) := by decide +kernel
theorem dX11_setFraction_2 : decode cX11_setFraction 2 = .ok (.invokestatic 290, 3) := by decide +kernel
theorem dX11_setFraction_5 : decode cX11_setFraction 5 = .ok (.istore_n 3, 1) := by decide +kernel
theorem dX11_setFraction_6 : decode cX11_setFraction 6 = .ok (.iload_n 3, 1) := by decide +kernel
theorem dX11_setFraction_7 : decode cX11_setFraction 7 = .ok (.ifCond .le 17, 3) := by decide +kernel
theorem dX11_setFraction_10 : decode cX11_setFraction 10 = .ok (.aload_n 0, 1) := by decide +kernel
theorem dX11_setFraction_11 : decode cX11_setFraction 11 = .ok (.iload_n 1, 1) := by decide +kernel
theorem dX11_setFraction_12 : decode cX11_setFraction 12 = .ok (.iload_n 3, 1) := by decide +kernel
theorem dX11_setFraction_13 : decode cX11_setFraction 13 = .ok (.idiv, 1) := by decide +kernel
theorem dX11_setFraction_14 : decode cX11_setFraction 14 = .ok (.putfield 75, 3) := by decide +kernel
theorem dX11_setFraction_17 : decode cX11_setFraction 17 = .ok (.aload_n 0, 1) := by decide +kernel
theorem dX11_setFraction_18 : decode cX11_setFraction 18 = .ok (.iload_n 2, 1) := by decide +kernel
theorem dX11_setFraction_19 : decode cX11_setFraction 19 = .ok (.iload_n 3, 1) := by decide +kernel
theorem dX11_setFraction_20 : decode cX11_setFraction 20 = .ok (.idiv, 1) := by decide +kernel
theorem dX11_setFraction_21 : decode cX11_setFraction 21 = .ok (.putfield 79, 3) := by decide +kernel
theorem dX11_setFraction_24 : decode cX11_setFraction 24 = .ok (.return_, 1) := by decide +kernel
theorem dX11_greatestDivisor_0 : decode cX11_greatestDivisor 0 = .ok (.iload_n 0, 1) := by decide +kernel
theorem dX11_greatestDivisor_1 : decode cX11_greatestDivisor 1 = .ok (.istore_n 2, 1) := by decide +kernel
theorem dX11_greatestDivisor_2 : decode cX11_greatestDivisor 2 = .ok (.iload_n 1, 1) := by decide +kernel
theorem dX11_greatestDivisor_3 : decode cX11_greatestDivisor 3 = .ok (.istore_n 3, 1) := by decide +kernel
theorem dX11_greatestDivisor_4 : decode cX11_greatestDivisor 4 = .ok (.iconst 0, 1) := by decide +kernel
theorem dX11_greatestDivisor_5 : decode cX11_greatestDivisor 5 = .ok (.istore 4, 2) := by decide +kernel
theorem dX11_greatestDivisor_7 : decode cX11_greatestDivisor 7 = .ok (.iload 4, 2) := by decide +kernel
theorem dX11_greatestDivisor_9 : decode cX11_greatestDivisor 9 = .ok (.bipush 100, 2) := by decide +kernel
theorem dX11_greatestDivisor_11 : decode cX11_greatestDivisor 11 = .ok (.if_icmp .ge 23, 3) := by decide +kernel
theorem dX11_greatestDivisor_14 : decode cX11_greatestDivisor 14 = .ok (.iload_n 2, 1) := by decide +kernel
theorem dX11_greatestDivisor_15 : decode cX11_greatestDivisor 15 = .ok (.ifCond .eq 19, 3) := by decide +kernel
theorem dX11_greatestDivisor_18 : decode cX11_greatestDivisor 18 = .ok (.iload_n 3, 1) := by decide +kernel
theorem dX11_greatestDivisor_19 : decode cX11_greatestDivisor 19 = .ok (.iload_n 2, 1) := by decide +kernel
theorem dX11_greatestDivisor_20 : decode cX11_greatestDivisor 20 = .ok (.irem, 1) := by decide +kernel
theorem dX11_greatestDivisor_21 : decode cX11_greatestDivisor 21 = .ok (.istore 5, 2) := by decide +kernel
theorem dX11_greatestDivisor_23 : decode cX11_greatestDivisor 23 = .ok (.iload_n 2, 1) := by decide +kernel
theorem dX11_greatestDivisor_24 : decode cX11_greatestDivisor 24 = .ok (.istore_n 3, 1) := by decide +kernel
theorem dX11_greatestDivisor_25 : decode cX11_greatestDivisor 25 = .ok (.iload 5, 2) := by decide +kernel
theorem dX11_greatestDivisor_27 : decode cX11_greatestDivisor 27 = .ok (.istore_n 2, 1) := by decide +kernel
theorem dX11_greatestDivisor_28 : decode cX11_greatestDivisor 28 = .ok (.iinc 4 1, 3) := by decide +kernel
theorem dX11_greatestDivisor_31 : decode cX11_greatestDivisor 31 = .ok (.goto (-24), 3) := by decide +kernel
theorem dX11_greatestDivisor_34 : decode cX11_greatestDivisor 34 = .ok (.iload_n 3, 1) := by decide +kernel
theorem dX11_greatestDivisor_35 : decode cX11_greatestDivisor 35 = .ok (.ireturn, 1) := by decide +kernel
theorem dX11_isWithin_0 : decode cX11_isWithin 0 = .ok (.iload_n 0, 1) := by decide +kernel
theorem dX11_isWithin_1 : decode cX11_isWithin 1 = .ok (.iload_n 1, 1) := by decide +kernel
theorem dX11_isWithin_2 : decode cX11_isWithin 2 = .ok (.if_icmp .lt 12, 3) := by decide +kernel
theorem dX11_isWithin_5 : decode cX11_isWithin 5 = .ok (.iload_n 0, 1) := by decide +kernel
theorem dX11_isWithin_6 : decode cX11_isWithin 6 = .ok (.iload_n 2, 1) := by decide +kernel
theorem dX11_isWithin_7 : decode cX11_isWithin 7 = .ok (.if_icmp .gt 7, 3) := by decide +kernel
theorem dX11_isWithin_10 : decode cX11_isWithin 10 = .ok (.iconst 1, 1) := by decide +kernel
theorem dX11_isWithin_11 : decode cX11_isWithin 11 = .ok (.goto 4, 3) := by decide +kernel
theorem dX11_isWithin_14 : decode cX11_isWithin 14 = .ok (.iconst 0, 1) := by decide +kernel
theorem dX11_isWithin_15 : decode cX11_isWithin 15 = .ok (.ireturn, 1) := by decide +kernel
theorem dX11_isPlace_0 : decode cX11_isPlace 0 = .ok (.iload_n 0, 1) := by decide +kernel
theorem dX11_isPlace_1 : decode cX11_isPlace 1 = .ok (.bipush (-60), 2) := by decide +kernel
theorem dX11_isPlace_3 : decode cX11_isPlace 3 = .ok (.bipush 60, 2) := by decide +kernel
theorem dX11_isPlace_5 : decode cX11_isPlace 5 = .ok (.invokestatic 116, 3) := by decide +kernel
theorem dX11_isPlace_8 : decode cX11_isPlace 8 = .ok (.ireturn, 1) := by decide +kernel
theorem dX11_isNods_0 : decode cX11_isNods 0 = .ok (.iload_n 0, 1) := by decide +kernel
theorem dX11_isNods_1 : decode cX11_isNods 1 = .ok (.bipush (-3), 2) := by decide +kernel
theorem dX11_isNods_3 : decode cX11_isNods 3 = .ok (.iconst 3, 1) := by decide +kernel
theorem dX11_isNods_4 : decode cX11_isNods 4 = .ok (.invokestatic 116, 3) := by decide +kernel
theorem dX11_isNods_7 : decode cX11_isNods 7 = .ok (.ireturn, 1) := by decide +kernel
theorem dX11_holds_0 : decode cX11_holds 0 = .ok (.iload_n 0, 1) := by decide +kernel
theorem dX11_holds_1 : decode cX11_holds 1 = .ok (.iload_n 1, 1) := by decide +kernel
theorem dX11_holds_2 : decode cX11_holds 2 = .ok (.ishr, 1) := by decide +kernel
theorem dX11_holds_3 : decode cX11_holds 3 = .ok (.iconst 1, 1) := by decide +kernel
theorem dX11_holds_4 : decode cX11_holds 4 = .ok (.iand, 1) := by decide +kernel
theorem dX11_holds_5 : decode cX11_holds 5 = .ok (.iconst 1, 1) := by decide +kernel
theorem dX11_holds_6 : decode cX11_holds 6 = .ok (.if_icmp .ne 7, 3) := by decide +kernel
theorem dX11_holds_9 : decode cX11_holds 9 = .ok (.iconst 1, 1) := by decide +kernel
theorem dX11_holds_10 : decode cX11_holds 10 = .ok (.goto 4, 3) := by decide +kernel
theorem dX11_holds_13 : decode cX11_holds 13 = .ok (.iconst 0, 1) := by decide +kernel
theorem dX11_holds_14 : decode cX11_holds 14 = .ok (.ireturn, 1) := by decide +kernel
theorem dX12_bad_0 : decode cX12_bad 0 = .ok (.aload_n 0, 1) := by decide +kernel
theorem dX12_bad_1 : decode cX12_bad 1 = .ok (.getfield 1, 3) := by decide +kernel
theorem dX12_bad_4 : decode cX12_bad 4 = .ok (.iconst 0, 1) := by decide +kernel
theorem dX12_bad_5 : decode cX12_bad 5 = .ok (.dup2, 1) := by decide +kernel
theorem dX12_bad_6 : decode cX12_bad 6 = .ok (.iaload, 1) := by decide +kernel
theorem dX12_bad_7 : decode cX12_bad 7 = .ok (.iconst 1, 1) := by decide +kernel
theorem dX12_bad_8 : decode cX12_bad 8 = .ok (.iadd, 1) := by decide +kernel
theorem dX12_bad_9 : decode cX12_bad 9 = .ok (.iastore, 1) := by decide +kernel
theorem dX12_bad_10 : decode cX12_bad 10 = .ok (.bipush (-2), 2) := by decide +kernel
theorem dX12_bad_12 : decode cX12_bad 12 = .ok (.ireturn, 1) := by decide +kernel
theorem dX12_ten_0 : decode cX12_ten 0 = .ok (.aload_n 0, 1) := by decide +kernel
theorem dX12_ten_1 : decode cX12_ten 1 = .ok (.getfield 1, 3) := by decide +kernel
theorem dX12_ten_4 : decode cX12_ten 4 = .ok (.iconst 0, 1) := by decide +kernel
theorem dX12_ten_5 : decode cX12_ten 5 = .ok (.dup2, 1) := by decide +kernel
theorem dX12_ten_6 : decode cX12_ten 6 = .ok (.iaload, 1) := by decide +kernel
theorem dX12_ten_7 : decode cX12_ten 7 = .ok (.iconst 1, 1) := by decide +kernel
theorem dX12_ten_8 : decode cX12_ten 8 = .ok (.iadd, 1) := by decide +kernel
theorem dX12_ten_9 : decode cX12_ten 9 = .ok (.iastore, 1) := by decide +kernel
theorem dX12_ten_10 : decode cX12_ten 10 = .ok (.bipush (-10), 2) := by decide +kernel
theorem dX12_ten_12 : decode cX12_ten 12 = .ok (.ireturn, 1) := by decide +kernel
theorem dX12_no_0 : decode cX12_no 0 = .ok (.aload_n 0, 1) := by decide +kernel
theorem dX12_no_1 : decode cX12_no 1 = .ok (.getfield 1, 3) := by decide +kernel
theorem dX12_no_4 : decode cX12_no 4 = .ok (.iconst 1, 1) := by decide +kernel
theorem dX12_no_5 : decode cX12_no 5 = .ok (.dup2, 1) := by decide +kernel
theorem dX12_no_6 : decode cX12_no 6 = .ok (.iaload, 1) := by decide +kernel
theorem dX12_no_7 : decode cX12_no 7 = .ok (.iconst 1, 1) := by decide +kernel
theorem dX12_no_8 : decode cX12_no 8 = .ok (.iadd, 1) := by decide +kernel
theorem dX12_no_9 : decode cX12_no 9 = .ok (.iastore, 1) := by decide +kernel
theorem dX12_no_10 : decode cX12_no 10 = .ok (.bipush (-3), 2) := by decide +kernel
theorem dX12_no_12 : decode cX12_no 12 = .ok (.ireturn, 1) := by decide +kernel
theorem dX12_full_0 : decode cX12_full 0 = .ok (.aload_n 0, 1) := by decide +kernel
theorem dX12_full_1 : decode cX12_full 1 = .ok (.getfield 1, 3) := by decide +kernel
theorem dX12_full_4 : decode cX12_full 4 = .ok (.iconst 2, 1) := by decide +kernel
theorem dX12_full_5 : decode cX12_full 5 = .ok (.dup2, 1) := by decide +kernel
theorem dX12_full_6 : decode cX12_full 6 = .ok (.iaload, 1) := by decide +kernel
theorem dX12_full_7 : decode cX12_full 7 = .ok (.iconst 1, 1) := by decide +kernel
theorem dX12_full_8 : decode cX12_full 8 = .ok (.iadd, 1) := by decide +kernel
theorem dX12_full_9 : decode cX12_full 9 = .ok (.iastore, 1) := by decide +kernel
theorem dX12_full_10 : decode cX12_full 10 = .ok (.bipush (-4), 2) := by decide +kernel
theorem dX12_full_12 : decode cX12_full 12 = .ok (.ireturn, 1) := by decide +kernel
theorem dX12_in_0 : decode cX12_in 0 = .ok (.iload_n 0, 1) := by decide +kernel
theorem dX12_in_1 : decode cX12_in 1 = .ok (.iload_n 1, 1) := by decide +kernel
theorem dX12_in_2 : decode cX12_in 2 = .ok (.if_icmp .lt 12, 3) := by decide +kernel
theorem dX12_in_5 : decode cX12_in 5 = .ok (.iload_n 0, 1) := by decide +kernel
theorem dX12_in_6 : decode cX12_in 6 = .ok (.iload_n 2, 1) := by decide +kernel
theorem dX12_in_7 : decode cX12_in 7 = .ok (.if_icmp .gt 7, 3) := by decide +kernel
theorem dX12_in_10 : decode cX12_in 10 = .ok (.iconst 1, 1) := by decide +kernel
theorem dX12_in_11 : decode cX12_in 11 = .ok (.goto 4, 3) := by decide +kernel
theorem dX12_in_14 : decode cX12_in 14 = .ok (.iconst 0, 1) := by decide +kernel
theorem dX12_in_15 : decode cX12_in 15 = .ok (.ireturn, 1) := by decide +kernel
theorem dX12_manyBad_0 : decode cX12_manyBad 0 = .ok (.aload_n 0, 1) := by decide +kernel
theorem dX12_manyBad_1 : decode cX12_manyBad 1 = .ok (.getfield 1, 3) := by decide +kernel
theorem dX12_manyBad_4 : decode cX12_manyBad 4 = .ok (.iconst 0, 1) := by decide +kernel
theorem dX12_manyBad_5 : decode cX12_manyBad 5 = .ok (.dup2, 1) := by decide +kernel
theorem dX12_manyBad_6 : decode cX12_manyBad 6 = .ok (.iaload, 1) := by decide +kernel
theorem dX12_manyBad_7 : decode cX12_manyBad 7 = .ok (.iconst 1, 1) := by decide +kernel
theorem dX12_manyBad_8 : decode cX12_manyBad 8 = .ok (.iadd, 1) := by decide +kernel
theorem dX12_manyBad_9 : decode cX12_manyBad 9 = .ok (.iastore, 1) := by decide +kernel
theorem dX12_manyBad_10 : decode cX12_manyBad 10 = .ok (.sipush (-10000), 3) := by decide +kernel
theorem dX12_manyBad_13 : decode cX12_manyBad 13 = .ok (.ireturn, 1) := by decide +kernel
theorem dX12_has_0 : decode cX12_has 0 = .ok (.iload_n 0, 1) := by decide +kernel
theorem dX12_has_1 : decode cX12_has 1 = .ok (.iload_n 1, 1) := by decide +kernel
theorem dX12_has_2 : decode cX12_has 2 = .ok (.ishr, 1) := by decide +kernel
theorem dX12_has_3 : decode cX12_has 3 = .ok (.iconst 1, 1) := by decide +kernel
theorem dX12_has_4 : decode cX12_has 4 = .ok (.iand, 1) := by decide +kernel
theorem dX12_has_5 : decode cX12_has 5 = .ok (.iconst 1, 1) := by decide +kernel
theorem dX12_has_6 : decode cX12_has 6 = .ok (.if_icmp .ne 7, 3) := by decide +kernel
theorem dX12_has_9 : decode cX12_has 9 = .ok (.iconst 1, 1) := by decide +kernel
theorem dX12_has_10 : decode cX12_has 10 = .ok (.goto 4, 3) := by decide +kernel
theorem dX12_has_13 : decode cX12_has 13 = .ok (.iconst 0, 1) := by decide +kernel
theorem dX12_has_14 : decode cX12_has 14 = .ok (.ireturn, 1) := by decide +kernel
theorem dX12_init_0 : decode cX12_init 0 = .ok (.aload_n 0, 1) := by decide +kernel
theorem dX12_init_1 : decode cX12_init 1 = .ok (.invokespecial 7, 3) := by decide +kernel
theorem dX12_init_4 : decode cX12_init 4 = .ok (.aload_n 0, 1) := by decide +kernel
theorem dX12_init_5 : decode cX12_init 5 = .ok (.iconst 3, 1) := by decide +kernel
theorem dX12_init_6 : decode cX12_init 6 = .ok (.newarray .int, 2) := by decide +kernel
theorem dX12_init_8 : decode cX12_init 8 = .ok (.putfield 1, 3) := by decide +kernel
theorem dX12_init_11 : decode cX12_init 11 = .ok (.aload_n 0, 1) := by decide +kernel
theorem dX12_init_12 : decode cX12_init 12 = .ok (.bipush 6, 2) := by decide +kernel
theorem dX12_init_14 : decode cX12_init 14 = .ok (.newarray .int, 2) := by decide +kernel
theorem dX12_init_16 : decode cX12_init 16 = .ok (.putfield 13, 3) := by decide +kernel
theorem dX12_init_19 : decode cX12_init 19 = .ok (.aload_n 0, 1) := by decide +kernel
theorem dX12_init_20 : decode cX12_init 20 = .ok (.bipush 6, 2) := by decide +kernel
theorem dX12_init_22 : decode cX12_init 22 = .ok (.newarray .int, 2) := by decide +kernel
theorem dX12_init_24 : decode cX12_init 24 = .ok (.putfield 16, 3) := by decide +kernel
theorem dX12_init_27 : decode cX12_init 27 = .ok (.aload_n 0, 1) := by decide +kernel
theorem dX12_init_28 : decode cX12_init 28 = .ok (.bipush 6, 2) := by decide +kernel
theorem dX12_init_30 : decode cX12_init 30 = .ok (.newarray .int, 2) := by decide +kernel
theorem dX12_init_32 : decode cX12_init 32 = .ok (.putfield 19, 3) := by decide +kernel
theorem dX12_init_35 : decode cX12_init 35 = .ok (.aload_n 0, 1) := by decide +kernel
theorem dX12_init_36 : decode cX12_init 36 = .ok (.bipush 6, 2) := by decide +kernel
theorem dX12_init_38 : decode cX12_init 38 = .ok (.newarray .int, 2) := by decide +kernel
theorem dX12_init_40 : decode cX12_init 40 = .ok (.putfield 22, 3) := by decide +kernel
theorem dX12_init_43 : decode cX12_init 43 = .ok (.aload_n 0, 1) := by decide +kernel
theorem dX12_init_44 : decode cX12_init 44 = .ok (.bipush 6, 2) := by decide +kernel
theorem dX12_init_46 : decode cX12_init 46 = .ok (.newarray .int, 2) := by decide +kernel
theorem dX12_init_48 : decode cX12_init 48 = .ok (.putfield 25, 3) := by decide +kernel
theorem dX12_init_51 : decode cX12_init 51 = .ok (.aload_n 0, 1) := by decide +kernel
theorem dX12_init_52 : decode cX12_init 52 = .ok (.bipush 6, 2) := by decide +kernel
theorem dX12_init_54 : decode cX12_init 54 = .ok (.newarray .int, 2) := by decide +kernel
theorem dX12_init_56 : decode cX12_init 56 = .ok (.putfield 28, 3) := by decide +kernel
theorem dX12_init_59 : decode cX12_init 59 = .ok (.aload_n 0, 1) := by decide +kernel
theorem dX12_init_60 : decode cX12_init 60 = .ok (.bipush 6, 2) := by decide +kernel
theorem dX12_init_62 : decode cX12_init 62 = .ok (.newarray .int, 2) := by decide +kernel
theorem dX12_init_64 : decode cX12_init 64 = .ok (.putfield 31, 3) := by decide +kernel
theorem dX12_init_67 : decode cX12_init 67 = .ok (.aload_n 0, 1) := by decide +kernel
theorem dX12_init_68 : decode cX12_init 68 = .ok (.sipush 150, 3) := by decide +kernel
theorem dX12_init_71 : decode cX12_init 71 = .ok (.newarray .int, 2) := by decide +kernel
theorem dX12_init_73 : decode cX12_init 73 = .ok (.putfield 34, 3) := by decide +kernel
theorem dX12_init_76 : decode cX12_init 76 = .ok (.aload_n 0, 1) := by decide +kernel
theorem dX12_init_77 : decode cX12_init 77 = .ok (.bipush 6, 2) := by decide +kernel
theorem dX12_init_79 : decode cX12_init 79 = .ok (.newarray .int, 2) := by decide +kernel
theorem dX12_init_81 : decode cX12_init 81 = .ok (.putfield 37, 3) := by decide +kernel
theorem dX12_init_84 : decode cX12_init 84 = .ok (.aload_n 0, 1) := by decide +kernel
theorem dX12_init_85 : decode cX12_init 85 = .ok (.bipush 18, 2) := by decide +kernel
theorem dX12_init_87 : decode cX12_init 87 = .ok (.newarray .int, 2) := by decide +kernel
theorem dX12_init_89 : decode cX12_init 89 = .ok (.putfield 40, 3) := by decide +kernel
theorem dX12_init_92 : decode cX12_init 92 = .ok (.aload_n 0, 1) := by decide +kernel
theorem dX12_init_93 : decode cX12_init 93 = .ok (.bipush 112, 2) := by decide +kernel
theorem dX12_init_95 : decode cX12_init 95 = .ok (.newarray .int, 2) := by decide +kernel
theorem dX12_init_97 : decode cX12_init 97 = .ok (.putfield 43, 3) := by decide +kernel
theorem dX12_init_100 : decode cX12_init 100 = .ok (.aload_n 0, 1) := by decide +kernel
theorem dX12_init_101 : decode cX12_init 101 = .ok (.bipush 14, 2) := by decide +kernel
theorem dX12_init_103 : decode cX12_init 103 = .ok (.newarray .int, 2) := by decide +kernel
theorem dX12_init_105 : decode cX12_init 105 = .ok (.putfield 46, 3) := by decide +kernel
theorem dX12_init_108 : decode cX12_init 108 = .ok (.aload_n 0, 1) := by decide +kernel
theorem dX12_init_109 : decode cX12_init 109 = .ok (.iconst 4, 1) := by decide +kernel
theorem dX12_init_110 : decode cX12_init 110 = .ok (.newarray .int, 2) := by decide +kernel
theorem dX12_init_112 : decode cX12_init 112 = .ok (.putfield 49, 3) := by decide +kernel
theorem dX12_init_115 : decode cX12_init 115 = .ok (.aload_n 0, 1) := by decide +kernel
theorem dX12_init_116 : decode cX12_init 116 = .ok (.iconst 4, 1) := by decide +kernel
theorem dX12_init_117 : decode cX12_init 117 = .ok (.newarray .int, 2) := by decide +kernel
theorem dX12_init_119 : decode cX12_init 119 = .ok (.putfield 52, 3) := by decide +kernel
theorem dX12_init_122 : decode cX12_init 122 = .ok (.aload_n 0, 1) := by decide +kernel
theorem dX12_init_123 : decode cX12_init 123 = .ok (.bipush 21, 2) := by decide +kernel
theorem dX12_init_125 : decode cX12_init 125 = .ok (.newarray .int, 2) := by decide +kernel
theorem dX12_init_127 : decode cX12_init 127 = .ok (.putfield 55, 3) := by decide +kernel
theorem dX12_init_130 : decode cX12_init 130 = .ok (.aload_n 0, 1) := by decide +kernel
theorem dX12_init_131 : decode cX12_init 131 = .ok (.sipush 147, 3) := by decide +kernel
theorem dX12_init_134 : decode cX12_init 134 = .ok (.newarray .int, 2) := by decide +kernel
theorem dX12_init_136 : decode cX12_init 136 = .ok (.putfield 58, 3) := by decide +kernel
theorem dX12_init_139 : decode cX12_init 139 = .ok (.aload_n 0, 1) := by decide +kernel
theorem dX12_init_140 : decode cX12_init 140 = .ok (.lconst 1, 1) := by decide +kernel
theorem dX12_init_141 : decode cX12_init 141 = .ok (.putfield 61, 3) := by decide +kernel
theorem dX12_init_144 : decode cX12_init 144 = .ok (.aload_n 0, 1) := by decide +kernel
theorem dX12_init_145 : decode cX12_init 145 = .ok (.sipush 320, 3) := by decide +kernel
theorem dX12_init_148 : decode cX12_init 148 = .ok (.newarray .int, 2) := by decide +kernel
theorem dX12_init_150 : decode cX12_init 150 = .ok (.putfield 65, 3) := by decide +kernel
theorem dX12_init_153 : decode cX12_init 153 = .ok (.aload_n 0, 1) := by decide +kernel
theorem dX12_init_154 : decode cX12_init 154 = .ok (.iconst 2, 1) := by decide +kernel
theorem dX12_init_155 : decode cX12_init 155 = .ok (.newarray .int, 2) := by decide +kernel
theorem dX12_init_157 : decode cX12_init 157 = .ok (.putfield 68, 3) := by decide +kernel
theorem dX12_init_160 : decode cX12_init 160 = .ok (.aload_n 0, 1) := by decide +kernel
theorem dX12_init_161 : decode cX12_init 161 = .ok (.invokevirtual 71, 3) := by decide +kernel
theorem dX12_init_164 : decode cX12_init 164 = .ok (.return_, 1) := by decide +kernel
theorem dX12_begin_0 : decode cX12_begin 0 = .ok (.aload_n 0, 1) := by decide +kernel
theorem dX12_begin_1 : decode cX12_begin 1 = .ok (.iconst 0, 1) := by decide +kernel
theorem dX12_begin_2 : decode cX12_begin 2 = .ok (.putfield 74, 3) := by decide +kernel
theorem dX12_begin_5 : decode cX12_begin 5 = .ok (.aload_n 0, 1) := by decide +kernel
theorem dX12_begin_6 : decode cX12_begin 6 = .ok (.iconst 0, 1) := by decide +kernel
theorem dX12_begin_7 : decode cX12_begin 7 = .ok (.putfield 78, 3) := by decide +kernel
theorem dX12_begin_10 : decode cX12_begin 10 = .ok (.aload_n 0, 1) := by decide +kernel
theorem dX12_begin_11 : decode cX12_begin 11 = .ok (.iconst 0, 1) := by decide +kernel
theorem dX12_begin_12 : decode cX12_begin 12 = .ok (.putfield 81, 3) := by decide +kernel
theorem dX12_begin_15 : decode cX12_begin 15 = .ok (.aload_n 0, 1) := by decide +kernel
theorem dX12_begin_16 : decode cX12_begin 16 = .ok (.iconst 0, 1) := by decide +kernel
theorem dX12_begin_17 : decode cX12_begin 17 = .ok (.putfield 84, 3) := by decide +kernel
theorem dX12_begin_20 : decode cX12_begin 20 = .ok (.aload_n 0, 1) := by decide +kernel
theorem dX12_begin_21 : decode cX12_begin 21 = .ok (.iconst 0, 1) := by decide +kernel
theorem dX12_begin_22 : decode cX12_begin 22 = .ok (.putfield 87, 3) := by decide +kernel
theorem dX12_begin_25 : decode cX12_begin 25 = .ok (.aload_n 0, 1) := by decide +kernel
theorem dX12_begin_26 : decode cX12_begin 26 = .ok (.iconst 0, 1) := by decide +kernel
theorem dX12_begin_27 : decode cX12_begin 27 = .ok (.putfield 90, 3) := by decide +kernel
theorem dX12_begin_30 : decode cX12_begin 30 = .ok (.return_, 1) := by decide +kernel
theorem dX12_isHand_0 : decode cX12_isHand 0 = .ok (.iload_n 1, 1) := by decide +kernel
theorem dX12_isHand_1 : decode cX12_isHand 1 = .ok (.iconst 0, 1) := by decide +kernel
theorem dX12_isHand_2 : decode cX12_isHand 2 = .ok (.aload_n 0, 1) := by decide +kernel
theorem dX12_isHand_3 : decode cX12_isHand 3 = .ok (.getfield 74, 3) := by decide +kernel
theorem dX12_isHand_6 : decode cX12_isHand 6 = .ok (.iconst 1, 1) := by decide +kernel
theorem dX12_isHand_7 : decode cX12_isHand 7 = .ok (.isub, 1) := by decide +kernel
theorem dX12_isHand_8 : decode cX12_isHand 8 = .ok (.invokestatic 93, 3) := by decide +kernel
theorem dX12_isHand_11 : decode cX12_isHand 11 = .ok (.ireturn, 1) := by decide +kernel
theorem dX12_isRock_0 : decode cX12_isRock 0 = .ok (.iconst 0, 1) := by decide +kernel
theorem dX12_isRock_1 : decode cX12_isRock 1 = .ok (.istore_n 2, 1) := by decide +kernel
theorem dX12_isRock_2 : decode cX12_isRock 2 = .ok (.iconst 0, 1) := by decide +kernel
theorem dX12_isRock_3 : decode cX12_isRock 3 = .ok (.istore_n 3, 1) := by decide +kernel
theorem dX12_isRock_4 : decode cX12_isRock 4 = .ok (.iload_n 3, 1) := by decide +kernel
theorem dX12_isRock_5 : decode cX12_isRock 5 = .ok (.aload_n 0, 1) := by decide +kernel
theorem dX12_isRock_6 : decode cX12_isRock 6 = .ok (.getfield 84, 3) := by decide +kernel
theorem dX12_isRock_9 : decode cX12_isRock 9 = .ok (.if_icmp .ge 29, 3) := by decide +kernel
theorem dX12_isRock_12 : decode cX12_isRock 12 = .ok (.iload_n 2, 1) := by decide +kernel
theorem dX12_isRock_13 : decode cX12_isRock 13 = .ok (.ifCond .ne 13, 3) := by decide +kernel
theorem dX12_isRock_16 : decode cX12_isRock 16 = .ok (.aload_n 0, 1) := by decide +kernel
theorem dX12_isRock_17 : decode cX12_isRock 17 = .ok (.getfield 25, 3) := by decide +kernel
theorem dX12_isRock_20 : decode cX12_isRock 20 = .ok (.iload_n 3, 1) := by decide +kernel
theorem dX12_isRock_21 : decode cX12_isRock 21 = .ok (.iaload, 1) := by decide +kernel
theorem dX12_isRock_22 : decode cX12_isRock 22 = .ok (.iload_n 1, 1) := by decide +kernel
theorem dX12_isRock_23 : decode cX12_isRock 23 = .ok (.if_icmp .ne 7, 3) := by decide +kernel
theorem dX12_isRock_26 : decode cX12_isRock 26 = .ok (.iconst 1, 1) := by decide +kernel
theorem dX12_isRock_27 : decode cX12_isRock 27 = .ok (.goto 4, 3) := by decide +kernel
theorem dX12_isRock_30 : decode cX12_isRock 30 = .ok (.iconst 0, 1) := by decide +kernel
theorem dX12_isRock_31 : decode cX12_isRock 31 = .ok (.istore_n 2, 1) := by decide +kernel
theorem dX12_isRock_32 : decode cX12_isRock 32 = .ok (.iinc 3 1, 3) := by decide +kernel
theorem dX12_isRock_35 : decode cX12_isRock 35 = .ok (.goto (-31), 3) := by decide +kernel
theorem dX12_isRock_38 : decode cX12_isRock 38 = .ok (.iload_n 2, 1) := by decide +kernel
theorem dX12_isRock_39 : decode cX12_isRock 39 = .ok (.ireturn, 1) := by decide +kernel
theorem dX12_ship_0 : decode cX12_ship 0 = .ok (.aload_n 0, 1) := by decide +kernel
theorem dX12_ship_1 : decode cX12_ship 1 = .ok (.getfield 74, 3) := by decide +kernel
theorem dX12_ship_4 : decode cX12_ship 4 = .ok (.istore_n 1, 1) := by decide +kernel
theorem dX12_ship_5 : decode cX12_ship 5 = .ok (.aload_n 0, 1) := by decide +kernel
theorem dX12_ship_6 : decode cX12_ship 6 = .ok (.invokevirtual 71, 3) := by decide +kernel
theorem dX12_ship_9 : decode cX12_ship 9 = .ok (.iload_n 1, 1) := by decide +kernel
theorem dX12_ship_10 : decode cX12_ship 10 = .ok (.ireturn, 1) := by decide +kernel
theorem dX12_addRock_0 : decode cX12_addRock 0 = .ok (.aload_n 0, 1) := by decide +kernel
theorem dX12_addRock_1 : decode cX12_addRock 1 = .ok (.getfield 25, 3) := by decide +kernel
theorem dX12_addRock_4 : decode cX12_addRock 4 = .ok (.aload_n 0, 1) := by decide +kernel
theorem dX12_addRock_5 : decode cX12_addRock 5 = .ok (.getfield 84, 3) := by decide +kernel
theorem dX12_addRock_8 : decode cX12_addRock 8 = .ok (.iload_n 1, 1) := by decide +kernel
theorem dX12_addRock_9 : decode cX12_addRock 9 = .ok (.iastore, 1) := by decide +kernel
theorem dX12_addRock_10 : decode cX12_addRock 10 = .ok (.aload_n 0, 1) := by decide +kernel
theorem dX12_addRock_11 : decode cX12_addRock 11 = .ok (.dup, 1) := by decide +kernel
theorem dX12_addRock_12 : decode cX12_addRock 12 = .ok (.getfield 84, 3) := by decide +kernel
theorem dX12_addRock_15 : decode cX12_addRock 15 = .ok (.iconst 1, 1) := by decide +kernel
theorem dX12_addRock_16 : decode cX12_addRock 16 = .ok (.iadd, 1) := by decide +kernel
theorem dX12_addRock_17 : decode cX12_addRock 17 = .ok (.putfield 84, 3) := by decide +kernel
theorem dX12_addRock_20 : decode cX12_addRock 20 = .ok (.aload_n 0, 1) := by decide +kernel
theorem dX12_addRock_21 : decode cX12_addRock 21 = .ok (.getfield 84, 3) := by decide +kernel
theorem dX12_addRock_24 : decode cX12_addRock 24 = .ok (.ireturn, 1) := by decide +kernel
theorem dX12_rock_0 : decode cX12_rock 0 = .ok (.iload_n 1, 1) := by decide +kernel
theorem dX12_rock_1 : decode cX12_rock 1 = .ok (.bipush (-60), 2) := by decide +kernel
theorem dX12_rock_3 : decode cX12_rock 3 = .ok (.bipush 60, 2) := by decide +kernel
theorem dX12_rock_5 : decode cX12_rock 5 = .ok (.invokestatic 93, 3) := by decide +kernel
theorem dX12_rock_8 : decode cX12_rock 8 = .ok (.ifCond .ne 8, 3) := by decide +kernel
theorem dX12_rock_11 : decode cX12_rock 11 = .ok (.aload_n 0, 1) := by decide +kernel
theorem dX12_rock_12 : decode cX12_rock 12 = .ok (.invokevirtual 97, 3) := by decide +kernel
theorem dX12_rock_15 : decode cX12_rock 15 = .ok (.ireturn, 1) := by decide +kernel
theorem dX12_rock_16 : decode cX12_rock 16 = .ok (.aload_n 0, 1) := by decide +kernel
theorem dX12_rock_17 : decode cX12_rock 17 = .ok (.iload_n 1, 1) := by decide +kernel
theorem dX12_rock_18 : decode cX12_rock 18 = .ok (.invokevirtual 101, 3) := by decide +kernel
theorem dX12_rock_21 : decode cX12_rock 21 = .ok (.ifCond .eq 8, 3) := by decide +kernel
theorem dX12_rock_24 : decode cX12_rock 24 = .ok (.aload_n 0, 1) := by decide +kernel
theorem dX12_rock_25 : decode cX12_rock 25 = .ok (.invokevirtual 105, 3) := by decide +kernel
theorem dX12_rock_28 : decode cX12_rock 28 = .ok (.ireturn, 1) := by decide +kernel
theorem dX12_rock_29 : decode cX12_rock 29 = .ok (.aload_n 0, 1) := by decide +kernel
theorem dX12_rock_30 : decode cX12_rock 30 = .ok (.getfield 84, 3) := by decide +kernel
theorem dX12_rock_33 : decode cX12_rock 33 = .ok (.bipush 6, 2) := by decide +kernel
theorem dX12_rock_35 : decode cX12_rock 35 = .ok (.if_icmp .ne 10, 3) := by decide +kernel
theorem dX12_rock_38 : decode cX12_rock 38 = .ok (.aload_n 0, 1) := by decide +kernel
theorem dX12_rock_39 : decode cX12_rock 39 = .ok (.invokevirtual 108, 3) := by decide +kernel
theorem dX12_rock_42 : decode cX12_rock 42 = .ok (.goto 8, 3) := by decide +kernel
theorem dX12_rock_45 : decode cX12_rock 45 = .ok (.aload_n 0, 1) := by decide +kernel
theorem dX12_rock_46 : decode cX12_rock 46 = .ok (.iload_n 1, 1) := by decide +kernel
theorem dX12_rock_47 : decode cX12_rock 47 = .ok (.invokevirtual 111, 3) := by decide +kernel
theorem dX12_rock_50 : decode cX12_rock 50 = .ok (.ireturn, 1) := by decide +kernel
theorem dX12_addHand_0 : decode cX12_addHand 0 = .ok (.aload_n 0, 1) := by decide +kernel
theorem dX12_addHand_1 : decode cX12_addHand 1 = .ok (.getfield 13, 3) := by decide +kernel
theorem dX12_addHand_4 : decode cX12_addHand 4 = .ok (.aload_n 0, 1) := by decide +kernel
theorem dX12_addHand_5 : decode cX12_addHand 5 = .ok (.getfield 74, 3) := by decide +kernel
theorem dX12_addHand_8 : decode cX12_addHand 8 = .ok (.iload_n 1, 1) := by decide +kernel
theorem dX12_addHand_9 : decode cX12_addHand 9 = .ok (.iastore, 1) := by decide +kernel
theorem dX12_addHand_10 : decode cX12_addHand 10 = .ok (.aload_n 0, 1) := by decide +kernel
theorem dX12_addHand_11 : decode cX12_addHand 11 = .ok (.getfield 16, 3) := by decide +kernel
theorem dX12_addHand_14 : decode cX12_addHand 14 = .ok (.aload_n 0, 1) := by decide +kernel
theorem dX12_addHand_15 : decode cX12_addHand 15 = .ok (.getfield 74, 3) := by decide +kernel
theorem dX12_addHand_18 : decode cX12_addHand 18 = .ok (.iload_n 2, 1) := by decide +kernel
theorem dX12_addHand_19 : decode cX12_addHand 19 = .ok (.iastore, 1) := by decide +kernel
theorem dX12_addHand_20 : decode cX12_addHand 20 = .ok (.aload_n 0, 1) := by decide +kernel
theorem dX12_addHand_21 : decode cX12_addHand 21 = .ok (.getfield 19, 3) := by decide +kernel
theorem dX12_addHand_24 : decode cX12_addHand 24 = .ok (.aload_n 0, 1) := by decide +kernel
theorem dX12_addHand_25 : decode cX12_addHand 25 = .ok (.getfield 74, 3) := by decide +kernel
theorem dX12_addHand_28 : decode cX12_addHand 28 = .ok (.iload_n 3, 1) := by decide +kernel
theorem dX12_addHand_29 : decode cX12_addHand 29 = .ok (.iastore, 1) := by decide +kernel
theorem dX12_addHand_30 : decode cX12_addHand 30 = .ok (.aload_n 0, 1) := by decide +kernel
theorem dX12_addHand_31 : decode cX12_addHand 31 = .ok (.getfield 22, 3) := by decide +kernel
theorem dX12_addHand_34 : decode cX12_addHand 34 = .ok (.aload_n 0, 1) := by decide +kernel
theorem dX12_addHand_35 : decode cX12_addHand 35 = .ok (.getfield 74, 3) := by decide +kernel
theorem dX12_addHand_38 : decode cX12_addHand 38 = .ok (.iconst 0, 1) := by decide +kernel
theorem dX12_addHand_39 : decode cX12_addHand 39 = .ok (.iastore, 1) := by decide +kernel
theorem dX12_addHand_40 : decode cX12_addHand 40 = .ok (.aload_n 0, 1) := by decide +kernel
theorem dX12_addHand_41 : decode cX12_addHand 41 = .ok (.dup, 1) := by decide +kernel
theorem dX12_addHand_42 : decode cX12_addHand 42 = .ok (.getfield 74, 3) := by decide +kernel
theorem dX12_addHand_45 : decode cX12_addHand 45 = .ok (.iconst 1, 1) := by decide +kernel
theorem dX12_addHand_46 : decode cX12_addHand 46 = .ok (.iadd, 1) := by decide +kernel
theorem dX12_addHand_47 : decode cX12_addHand 47 = .ok (.putfield 74, 3) := by decide +kernel
theorem dX12_addHand_50 : decode cX12_addHand 50 = .ok (.aload_n 0, 1) := by decide +kernel
theorem dX12_addHand_51 : decode cX12_addHand 51 = .ok (.iconst 0, 1) := by decide +kernel
theorem dX12_addHand_52 : decode cX12_addHand 52 = .ok (.putfield 90, 3) := by decide +kernel
theorem dX12_addHand_55 : decode cX12_addHand 55 = .ok (.aload_n 0, 1) := by decide +kernel
theorem dX12_addHand_56 : decode cX12_addHand 56 = .ok (.getfield 74, 3) := by decide +kernel
theorem dX12_addHand_59 : decode cX12_addHand 59 = .ok (.iconst 1, 1) := by decide +kernel
theorem dX12_addHand_60 : decode cX12_addHand 60 = .ok (.isub, 1) := by decide +kernel
theorem dX12_addHand_61 : decode cX12_addHand 61 = .ok (.ireturn, 1) := by decide +kernel
theorem dX12_hand_0 : decode cX12_hand 0 = .ok (.iload_n 1, 1) := by decide +kernel
theorem dX12_hand_1 : decode cX12_hand 1 = .ok (.iconst 0, 1) := by decide +kernel
theorem dX12_hand_2 : decode cX12_hand 2 = .ok (.iconst 5, 1) := by decide +kernel
theorem dX12_hand_3 : decode cX12_hand 3 = .ok (.invokestatic 93, 3) := by decide +kernel
theorem dX12_hand_6 : decode cX12_hand 6 = .ok (.ifCond .eq 23, 3) := by decide +kernel
theorem dX12_hand_9 : decode cX12_hand 9 = .ok (.iload_n 2, 1) := by decide +kernel
theorem dX12_hand_10 : decode cX12_hand 10 = .ok (.iconst 0, 1) := by decide +kernel
theorem dX12_hand_11 : decode cX12_hand 11 = .ok (.bipush 40, 2) := by decide +kernel
theorem dX12_hand_13 : decode cX12_hand 13 = .ok (.invokestatic 93, 3) := by decide +kernel
theorem dX12_hand_16 : decode cX12_hand 16 = .ok (.ifCond .eq 13, 3) := by decide +kernel
theorem dX12_hand_19 : decode cX12_hand 19 = .ok (.iload_n 3, 1) := by decide +kernel
theorem dX12_hand_20 : decode cX12_hand 20 = .ok (.bipush (-3), 2) := by decide +kernel
theorem dX12_hand_22 : decode cX12_hand 22 = .ok (.iconst 3, 1) := by decide +kernel
theorem dX12_hand_23 : decode cX12_hand 23 = .ok (.invokestatic 93, 3) := by decide +kernel
theorem dX12_hand_26 : decode cX12_hand 26 = .ok (.ifCond .ne 8, 3) := by decide +kernel
theorem dX12_hand_29 : decode cX12_hand 29 = .ok (.aload_n 0, 1) := by decide +kernel
theorem dX12_hand_30 : decode cX12_hand 30 = .ok (.invokevirtual 97, 3) := by decide +kernel
theorem dX12_hand_33 : decode cX12_hand 33 = .ok (.ireturn, 1) := by decide +kernel
theorem dX12_hand_34 : decode cX12_hand 34 = .ok (.aload_n 0, 1) := by decide +kernel
theorem dX12_hand_35 : decode cX12_hand 35 = .ok (.getfield 74, 3) := by decide +kernel
theorem dX12_hand_38 : decode cX12_hand 38 = .ok (.bipush 6, 2) := by decide +kernel
theorem dX12_hand_40 : decode cX12_hand 40 = .ok (.if_icmp .ne 10, 3) := by decide +kernel
theorem dX12_hand_43 : decode cX12_hand 43 = .ok (.aload_n 0, 1) := by decide +kernel
theorem dX12_hand_44 : decode cX12_hand 44 = .ok (.invokevirtual 108, 3) := by decide +kernel
theorem dX12_hand_47 : decode cX12_hand 47 = .ok (.goto 10, 3) := by decide +kernel
theorem dX12_hand_50 : decode cX12_hand 50 = .ok (.aload_n 0, 1) := by decide +kernel
theorem dX12_hand_51 : decode cX12_hand 51 = .ok (.iload_n 1, 1) := by decide +kernel
theorem dX12_hand_52 : decode cX12_hand 52 = .ok (.iload_n 2, 1) := by decide +kernel
theorem dX12_hand_53 : decode cX12_hand 53 = .ok (.iload_n 3, 1) := by decide +kernel
theorem dX12_hand_54 : decode cX12_hand 54 = .ok (.invokevirtual 115, 3) := by decide +kernel
theorem dX12_hand_57 : decode cX12_hand 57 = .ok (.ireturn, 1) := by decide +kernel
theorem dX12_type_0 : decode cX12_type 0 = .ok (.iload_n 1, 1) := by decide +kernel
theorem dX12_type_1 : decode cX12_type 1 = .ok (.iconst 0, 1) := by decide +kernel
theorem dX12_type_2 : decode cX12_type 2 = .ok (.bipush 127, 2) := by decide +kernel
theorem dX12_type_4 : decode cX12_type 4 = .ok (.invokestatic 93, 3) := by decide +kernel
theorem dX12_type_7 : decode cX12_type 7 = .ok (.ifCond .ne 8, 3) := by decide +kernel
theorem dX12_type_10 : decode cX12_type 10 = .ok (.aload_n 0, 1) := by decide +kernel
theorem dX12_type_11 : decode cX12_type 11 = .ok (.invokevirtual 97, 3) := by decide +kernel
theorem dX12_type_14 : decode cX12_type 14 = .ok (.ireturn, 1) := by decide +kernel
theorem dX12_type_15 : decode cX12_type 15 = .ok (.aload_n 0, 1) := by decide +kernel
theorem dX12_type_16 : decode cX12_type 16 = .ok (.getfield 119, 3) := by decide +kernel
theorem dX12_type_19 : decode cX12_type 19 = .ok (.sipush 150, 3) := by decide +kernel
theorem dX12_type_22 : decode cX12_type 22 = .ok (.if_icmp .ne 8, 3) := by decide +kernel
theorem dX12_type_25 : decode cX12_type 25 = .ok (.aload_n 0, 1) := by decide +kernel
theorem dX12_type_26 : decode cX12_type 26 = .ok (.invokevirtual 108, 3) := by decide +kernel
theorem dX12_type_29 : decode cX12_type 29 = .ok (.ireturn, 1) := by decide +kernel
theorem dX12_type_30 : decode cX12_type 30 = .ok (.aload_n 0, 1) := by decide +kernel
theorem dX12_type_31 : decode cX12_type 31 = .ok (.getfield 34, 3) := by decide +kernel
theorem dX12_type_34 : decode cX12_type 34 = .ok (.aload_n 0, 1) := by decide +kernel
theorem dX12_type_35 : decode cX12_type 35 = .ok (.getfield 119, 3) := by decide +kernel
theorem dX12_type_38 : decode cX12_type 38 = .ok (.iload_n 1, 1) := by decide +kernel
theorem dX12_type_39 : decode cX12_type 39 = .ok (.iastore, 1) := by decide +kernel
theorem dX12_type_40 : decode cX12_type 40 = .ok (.aload_n 0, 1) := by decide +kernel
theorem dX12_type_41 : decode cX12_type 41 = .ok (.dup, 1) := by decide +kernel
theorem dX12_type_42 : decode cX12_type 42 = .ok (.getfield 119, 3) := by decide +kernel
theorem dX12_type_45 : decode cX12_type 45 = .ok (.iconst 1, 1) := by decide +kernel
theorem dX12_type_46 : decode cX12_type 46 = .ok (.iadd, 1) := by decide +kernel
theorem dX12_type_47 : decode cX12_type 47 = .ok (.putfield 119, 3) := by decide +kernel
theorem dX12_type_50 : decode cX12_type 50 = .ok (.aload_n 0, 1) := by decide +kernel
theorem dX12_type_51 : decode cX12_type 51 = .ok (.getfield 119, 3) := by decide +kernel
theorem dX12_type_54 : decode cX12_type 54 = .ok (.ireturn, 1) := by decide +kernel
theorem dX12_clear_0 : decode cX12_clear 0 = .ok (.aload_n 0, 1) := by decide +kernel
theorem dX12_clear_1 : decode cX12_clear 1 = .ok (.getfield 119, 3) := by decide +kernel
theorem dX12_clear_4 : decode cX12_clear 4 = .ok (.istore_n 1, 1) := by decide +kernel
theorem dX12_clear_5 : decode cX12_clear 5 = .ok (.aload_n 0, 1) := by decide +kernel
theorem dX12_clear_6 : decode cX12_clear 6 = .ok (.iconst 0, 1) := by decide +kernel
theorem dX12_clear_7 : decode cX12_clear 7 = .ok (.putfield 119, 3) := by decide +kernel
theorem dX12_clear_10 : decode cX12_clear 10 = .ok (.iload_n 1, 1) := by decide +kernel
theorem dX12_clear_11 : decode cX12_clear 11 = .ok (.ireturn, 1) := by decide +kernel
theorem dX12_here_0 : decode cX12_here 0 = .ok (.aload_n 0, 1) := by decide +kernel
theorem dX12_here_1 : decode cX12_here 1 = .ok (.getfield 122, 3) := by decide +kernel
theorem dX12_here_4 : decode cX12_here 4 = .ok (.aload_n 0, 1) := by decide +kernel
theorem dX12_here_5 : decode cX12_here 5 = .ok (.getfield 119, 3) := by decide +kernel
theorem dX12_here_8 : decode cX12_here 8 = .ok (.if_icmp .ge 15, 3) := by decide +kernel
theorem dX12_here_11 : decode cX12_here 11 = .ok (.aload_n 0, 1) := by decide +kernel
theorem dX12_here_12 : decode cX12_here 12 = .ok (.getfield 34, 3) := by decide +kernel
theorem dX12_here_15 : decode cX12_here 15 = .ok (.aload_n 0, 1) := by decide +kernel
theorem dX12_here_16 : decode cX12_here 16 = .ok (.getfield 122, 3) := by decide +kernel
theorem dX12_here_19 : decode cX12_here 19 = .ok (.iaload, 1) := by decide +kernel
theorem dX12_here_20 : decode cX12_here 20 = .ok (.goto 4, 3) := by decide +kernel
theorem dX12_here_23 : decode cX12_here 23 = .ok (.iconst (-1), 1) := by decide +kernel
theorem dX12_here_24 : decode cX12_here 24 = .ok (.ireturn, 1) := by decide +kernel
theorem dX12_skip_0 : decode cX12_skip 0 = .ok (.aload_n 0, 1) := by decide +kernel
theorem dX12_skip_1 : decode cX12_skip 1 = .ok (.invokevirtual 125, 3) := by decide +kernel
theorem dX12_skip_4 : decode cX12_skip 4 = .ok (.bipush 32, 2) := by decide +kernel
theorem dX12_skip_6 : decode cX12_skip 6 = .ok (.if_icmp .ne 16, 3) := by decide +kernel
theorem dX12_skip_9 : decode cX12_skip 9 = .ok (.aload_n 0, 1) := by decide +kernel
theorem dX12_skip_10 : decode cX12_skip 10 = .ok (.dup, 1) := by decide +kernel
theorem dX12_skip_11 : decode cX12_skip 11 = .ok (.getfield 122, 3) := by decide +kernel
theorem dX12_skip_14 : decode cX12_skip 14 = .ok (.iconst 1, 1) := by decide +kernel
theorem dX12_skip_15 : decode cX12_skip 15 = .ok (.iadd, 1) := by decide +kernel
theorem dX12_skip_16 : decode cX12_skip 16 = .ok (.putfield 122, 3) := by decide +kernel
theorem dX12_skip_19 : decode cX12_skip 19 = .ok (.goto (-19), 3) := by decide +kernel
theorem dX12_skip_22 : decode cX12_skip 22 = .ok (.return_, 1) := by decide +kernel
theorem dX12_isLetter_0 : decode cX12_isLetter 0 = .ok (.iload_n 0, 1) := by decide +kernel
theorem dX12_isLetter_1 : decode cX12_isLetter 1 = .ok (.bipush 97, 2) := by decide +kernel
theorem dX12_isLetter_3 : decode cX12_isLetter 3 = .ok (.bipush 122, 2) := by decide +kernel
theorem dX12_isLetter_5 : decode cX12_isLetter 5 = .ok (.invokestatic 93, 3) := by decide +kernel
theorem dX12_isLetter_8 : decode cX12_isLetter 8 = .ok (.ireturn, 1) := by decide +kernel
theorem dX12_isFigure_0 : decode cX12_isFigure 0 = .ok (.iload_n 0, 1) := by decide +kernel
theorem dX12_isFigure_1 : decode cX12_isFigure 1 = .ok (.bipush 48, 2) := by decide +kernel
theorem dX12_isFigure_3 : decode cX12_isFigure 3 = .ok (.bipush 57, 2) := by decide +kernel
theorem dX12_isFigure_5 : decode cX12_isFigure 5 = .ok (.invokestatic 93, 3) := by decide +kernel
theorem dX12_isFigure_8 : decode cX12_isFigure 8 = .ok (.ireturn, 1) := by decide +kernel
theorem dX12_wordSize_0 : decode cX12_wordSize 0 = .ok (.iconst 0, 1) := by decide +kernel
theorem dX12_wordSize_1 : decode cX12_wordSize 1 = .ok (.istore_n 1, 1) := by decide +kernel
theorem dX12_wordSize_2 : decode cX12_wordSize 2 = .ok (.aload_n 0, 1) := by decide +kernel
theorem dX12_wordSize_3 : decode cX12_wordSize 3 = .ok (.getfield 122, 3) := by decide +kernel
theorem dX12_wordSize_6 : decode cX12_wordSize 6 = .ok (.iload_n 1, 1) := by decide +kernel
theorem dX12_wordSize_7 : decode cX12_wordSize 7 = .ok (.iadd, 1) := by decide +kernel
theorem dX12_wordSize_8 : decode cX12_wordSize 8 = .ok (.aload_n 0, 1) := by decide +kernel
theorem dX12_wordSize_9 : decode cX12_wordSize 9 = .ok (.getfield 119, 3) := by decide +kernel
theorem dX12_wordSize_12 : decode cX12_wordSize 12 = .ok (.if_icmp .ge 26, 3) := by decide +kernel
theorem dX12_wordSize_15 : decode cX12_wordSize 15 = .ok (.aload_n 0, 1) := by decide +kernel
theorem dX12_wordSize_16 : decode cX12_wordSize 16 = .ok (.getfield 34, 3) := by decide +kernel
theorem dX12_wordSize_19 : decode cX12_wordSize 19 = .ok (.aload_n 0, 1) := by decide +kernel
theorem dX12_wordSize_20 : decode cX12_wordSize 20 = .ok (.getfield 122, 3) := by decide +kernel
theorem dX12_wordSize_23 : decode cX12_wordSize 23 = .ok (.iload_n 1, 1) := by decide +kernel
theorem dX12_wordSize_24 : decode cX12_wordSize 24 = .ok (.iadd, 1) := by decide +kernel
theorem dX12_wordSize_25 : decode cX12_wordSize 25 = .ok (.iaload, 1) := by decide +kernel
theorem dX12_wordSize_26 : decode cX12_wordSize 26 = .ok (.invokestatic 128, 3) := by decide +kernel
theorem dX12_wordSize_29 : decode cX12_wordSize 29 = .ok (.ifCond .eq 9, 3) := by decide +kernel
theorem dX12_wordSize_32 : decode cX12_wordSize 32 = .ok (.iinc 1 1, 3) := by decide +kernel
theorem dX12_wordSize_35 : decode cX12_wordSize 35 = .ok (.goto (-33), 3) := by decide +kernel
theorem dX12_wordSize_38 : decode cX12_wordSize 38 = .ok (.iload_n 1, 1) := by decide +kernel
theorem dX12_wordSize_39 : decode cX12_wordSize 39 = .ok (.ireturn, 1) := by decide +kernel
theorem dX12_letter_0 : decode cX12_letter 0 = .ok (.aload_n 0, 1) := by decide +kernel
theorem dX12_letter_1 : decode cX12_letter 1 = .ok (.getfield 34, 3) := by decide +kernel
theorem dX12_letter_4 : decode cX12_letter 4 = .ok (.aload_n 0, 1) := by decide +kernel
theorem dX12_letter_5 : decode cX12_letter 5 = .ok (.getfield 122, 3) := by decide +kernel
theorem dX12_letter_8 : decode cX12_letter 8 = .ok (.iload_n 1, 1) := by decide +kernel
theorem dX12_letter_9 : decode cX12_letter 9 = .ok (.iadd, 1) := by decide +kernel
theorem dX12_letter_10 : decode cX12_letter 10 = .ok (.iaload, 1) := by decide +kernel
theorem dX12_letter_11 : decode cX12_letter 11 = .ok (.ireturn, 1) := by decide +kernel
theorem dX12_spells_0 : decode cX12_spells 0 = .ok (.aload_n 0, 1) := by decide +kernel
theorem dX12_spells_1 : decode cX12_spells 1 = .ok (.invokevirtual 131, 3) := by decide +kernel
theorem dX12_spells_4 : decode cX12_spells 4 = .ok (.iconst 4, 1) := by decide +kernel
theorem dX12_spells_5 : decode cX12_spells 5 = .ok (.if_icmp .ne 44, 3) := by decide +kernel
theorem dX12_spells_8 : decode cX12_spells 8 = .ok (.aload_n 0, 1) := by decide +kernel
theorem dX12_spells_9 : decode cX12_spells 9 = .ok (.iconst 0, 1) := by decide +kernel
theorem dX12_spells_10 : decode cX12_spells 10 = .ok (.invokevirtual 134, 3) := by decide +kernel
theorem dX12_spells_13 : decode cX12_spells 13 = .ok (.iload_n 1, 1) := by decide +kernel
theorem dX12_spells_14 : decode cX12_spells 14 = .ok (.if_icmp .ne 35, 3) := by decide +kernel
theorem dX12_spells_17 : decode cX12_spells 17 = .ok (.aload_n 0, 1) := by decide +kernel
theorem dX12_spells_18 : decode cX12_spells 18 = .ok (.iconst 1, 1) := by decide +kernel
theorem dX12_spells_19 : decode cX12_spells 19 = .ok (.invokevirtual 134, 3) := by decide +kernel
theorem dX12_spells_22 : decode cX12_spells 22 = .ok (.iload_n 2, 1) := by decide +kernel
theorem dX12_spells_23 : decode cX12_spells 23 = .ok (.if_icmp .ne 26, 3) := by decide +kernel
theorem dX12_spells_26 : decode cX12_spells 26 = .ok (.aload_n 0, 1) := by decide +kernel
theorem dX12_spells_27 : decode cX12_spells 27 = .ok (.iconst 2, 1) := by decide +kernel
theorem dX12_spells_28 : decode cX12_spells 28 = .ok (.invokevirtual 134, 3) := by decide +kernel
theorem dX12_spells_31 : decode cX12_spells 31 = .ok (.iload_n 3, 1) := by decide +kernel
theorem dX12_spells_32 : decode cX12_spells 32 = .ok (.if_icmp .ne 17, 3) := by decide +kernel
theorem dX12_spells_35 : decode cX12_spells 35 = .ok (.aload_n 0, 1) := by decide +kernel
theorem dX12_spells_36 : decode cX12_spells 36 = .ok (.iconst 3, 1) := by decide +kernel
theorem dX12_spells_37 : decode cX12_spells 37 = .ok (.invokevirtual 134, 3) := by decide +kernel
theorem dX12_spells_40 : decode cX12_spells 40 = .ok (.iload 4, 2) := by decide +kernel
theorem dX12_spells_42 : decode cX12_spells 42 = .ok (.if_icmp .ne 7, 3) := by decide +kernel
theorem dX12_spells_45 : decode cX12_spells 45 = .ok (.iconst 1, 1) := by decide +kernel
theorem dX12_spells_46 : decode cX12_spells 46 = .ok (.goto 4, 3) := by decide +kernel
theorem dX12_spells_49 : decode cX12_spells 49 = .ok (.iconst 0, 1) := by decide +kernel
theorem dX12_spells_50 : decode cX12_spells 50 = .ok (.ireturn, 1) := by decide +kernel
theorem dX12_wordHere_0 : decode cX12_wordHere 0 = .ok (.aload_n 0, 1) := by decide +kernel
theorem dX12_wordHere_1 : decode cX12_wordHere 1 = .ok (.bipush 115, 2) := by decide +kernel
theorem dX12_wordHere_3 : decode cX12_wordHere 3 = .ok (.bipush 104, 2) := by decide +kernel
theorem dX12_wordHere_5 : decode cX12_wordHere 5 = .ok (.bipush 105, 2) := by decide +kernel
theorem dX12_wordHere_7 : decode cX12_wordHere 7 = .ok (.bipush 112, 2) := by decide +kernel
theorem dX12_wordHere_9 : decode cX12_wordHere 9 = .ok (.invokevirtual 137, 3) := by decide +kernel
theorem dX12_wordHere_12 : decode cX12_wordHere 12 = .ok (.ifCond .eq 7, 3) := by decide +kernel
theorem dX12_wordHere_15 : decode cX12_wordHere 15 = .ok (.iconst 0, 1) := by decide +kernel
theorem dX12_wordHere_16 : decode cX12_wordHere 16 = .ok (.goto 80, 3) := by decide +kernel
theorem dX12_wordHere_19 : decode cX12_wordHere 19 = .ok (.aload_n 0, 1) := by decide +kernel
theorem dX12_wordHere_20 : decode cX12_wordHere 20 = .ok (.bipush 114, 2) := by decide +kernel
theorem dX12_wordHere_22 : decode cX12_wordHere 22 = .ok (.bipush 111, 2) := by decide +kernel
theorem dX12_wordHere_24 : decode cX12_wordHere 24 = .ok (.bipush 99, 2) := by decide +kernel
theorem dX12_wordHere_26 : decode cX12_wordHere 26 = .ok (.bipush 107, 2) := by decide +kernel
theorem dX12_wordHere_28 : decode cX12_wordHere 28 = .ok (.invokevirtual 137, 3) := by decide +kernel
theorem dX12_wordHere_31 : decode cX12_wordHere 31 = .ok (.ifCond .eq 7, 3) := by decide +kernel
theorem dX12_wordHere_34 : decode cX12_wordHere 34 = .ok (.iconst 1, 1) := by decide +kernel
theorem dX12_wordHere_35 : decode cX12_wordHere 35 = .ok (.goto 61, 3) := by decide +kernel
theorem dX12_wordHere_38 : decode cX12_wordHere 38 = .ok (.aload_n 0, 1) := by decide +kernel
theorem dX12_wordHere_39 : decode cX12_wordHere 39 = .ok (.bipush 114, 2) := by decide +kernel
theorem dX12_wordHere_41 : decode cX12_wordHere 41 = .ok (.bipush 101, 2) := by decide +kernel
theorem dX12_wordHere_43 : decode cX12_wordHere 43 = .ok (.bipush 101, 2) := by decide +kernel
theorem dX12_wordHere_45 : decode cX12_wordHere 45 = .ok (.bipush 102, 2) := by decide +kernel
theorem dX12_wordHere_47 : decode cX12_wordHere 47 = .ok (.invokevirtual 137, 3) := by decide +kernel
theorem dX12_wordHere_50 : decode cX12_wordHere 50 = .ok (.ifCond .eq 7, 3) := by decide +kernel
theorem dX12_wordHere_53 : decode cX12_wordHere 53 = .ok (.iconst 2, 1) := by decide +kernel
theorem dX12_wordHere_54 : decode cX12_wordHere 54 = .ok (.goto 42, 3) := by decide +kernel
theorem dX12_wordHere_57 : decode cX12_wordHere 57 = .ok (.aload_n 0, 1) := by decide +kernel
theorem dX12_wordHere_58 : decode cX12_wordHere 58 = .ok (.bipush 104, 2) := by decide +kernel
theorem dX12_wordHere_60 : decode cX12_wordHere 60 = .ok (.bipush 97, 2) := by decide +kernel
theorem dX12_wordHere_62 : decode cX12_wordHere 62 = .ok (.bipush 110, 2) := by decide +kernel
theorem dX12_wordHere_64 : decode cX12_wordHere 64 = .ok (.bipush 100, 2) := by decide +kernel
theorem dX12_wordHere_66 : decode cX12_wordHere 66 = .ok (.invokevirtual 137, 3) := by decide +kernel
theorem dX12_wordHere_69 : decode cX12_wordHere 69 = .ok (.ifCond .eq 7, 3) := by decide +kernel
theorem dX12_wordHere_72 : decode cX12_wordHere 72 = .ok (.iconst 3, 1) := by decide +kernel
theorem dX12_wordHere_73 : decode cX12_wordHere 73 = .ok (.goto 23, 3) := by decide +kernel
theorem dX12_wordHere_76 : decode cX12_wordHere 76 = .ok (.aload_n 0, 1) := by decide +kernel
theorem dX12_wordHere_77 : decode cX12_wordHere 77 = .ok (.bipush 108, 2) := by decide +kernel
theorem dX12_wordHere_79 : decode cX12_wordHere 79 = .ok (.bipush 101, 2) := by decide +kernel
theorem dX12_wordHere_81 : decode cX12_wordHere 81 = .ok (.bipush 97, 2) := by decide +kernel
theorem dX12_wordHere_83 : decode cX12_wordHere 83 = .ok (.bipush 110, 2) := by decide +kernel
theorem dX12_wordHere_85 : decode cX12_wordHere 85 = .ok (.invokevirtual 137, 3) := by decide +kernel
theorem dX12_wordHere_88 : decode cX12_wordHere 88 = .ok (.ifCond .eq 7, 3) := by decide +kernel
theorem dX12_wordHere_91 : decode cX12_wordHere 91 = .ok (.iconst 4, 1) := by decide +kernel
theorem dX12_wordHere_92 : decode cX12_wordHere 92 = .ok (.goto 4, 3) := by decide +kernel
theorem dX12_wordHere_95 : decode cX12_wordHere 95 = .ok (.iconst (-1), 1) := by decide +kernel
theorem dX12_wordHere_96 : decode cX12_wordHere 96 = .ok (.ireturn, 1) := by decide +kernel
theorem dX12_number_0 : decode cX12_number 0 = .ok (.aload_n 0, 1) := by decide +kernel
theorem dX12_number_1 : decode cX12_number 1 = .ok (.invokevirtual 141, 3) := by decide +kernel
theorem dX12_number_4 : decode cX12_number 4 = .ok (.iconst 0, 1) := by decide +kernel
theorem dX12_number_5 : decode cX12_number 5 = .ok (.istore_n 3, 1) := by decide +kernel
theorem dX12_number_6 : decode cX12_number 6 = .ok (.iconst 0, 1) := by decide +kernel
theorem dX12_number_7 : decode cX12_number 7 = .ok (.istore 4, 2) := by decide +kernel
theorem dX12_number_9 : decode cX12_number 9 = .ok (.aload_n 0, 1) := by decide +kernel
theorem dX12_number_10 : decode cX12_number 10 = .ok (.getfield 122, 3) := by decide +kernel
theorem dX12_number_13 : decode cX12_number 13 = .ok (.iload_n 3, 1) := by decide +kernel
theorem dX12_number_14 : decode cX12_number 14 = .ok (.iadd, 1) := by decide +kernel
theorem dX12_number_15 : decode cX12_number 15 = .ok (.aload_n 0, 1) := by decide +kernel
theorem dX12_number_16 : decode cX12_number 16 = .ok (.getfield 119, 3) := by decide +kernel
theorem dX12_number_19 : decode cX12_number 19 = .ok (.if_icmp .ge 58, 3) := by decide +kernel
theorem dX12_number_22 : decode cX12_number 22 = .ok (.aload_n 0, 1) := by decide +kernel
theorem dX12_number_23 : decode cX12_number 23 = .ok (.getfield 34, 3) := by decide +kernel
theorem dX12_number_26 : decode cX12_number 26 = .ok (.aload_n 0, 1) := by decide +kernel
theorem dX12_number_27 : decode cX12_number 27 = .ok (.getfield 122, 3) := by decide +kernel
theorem dX12_number_30 : decode cX12_number 30 = .ok (.iload_n 3, 1) := by decide +kernel
theorem dX12_number_31 : decode cX12_number 31 = .ok (.iadd, 1) := by decide +kernel
theorem dX12_number_32 : decode cX12_number 32 = .ok (.iaload, 1) := by decide +kernel
theorem dX12_number_33 : decode cX12_number 33 = .ok (.invokestatic 144, 3) := by decide +kernel
end
section
theorem dX12_number_36 : decode cX12_number 36 = .ok (.ifCond .eq 41, 3) := by decide +kernel
theorem dX12_number_39 : decode cX12_number 39 = .ok (.iload_n 3, 1) := by decide +kernel
theorem dX12_number_40 : decode cX12_number 40 = .ok (.iconst 2, 1) := by decide +kernel
theorem dX12_number_41 : decode cX12_number 41 = .ok (.if_icmp .ge 26, 3) := by decide +kernel
theorem dX12_number_44 : decode cX12_number 44 = .ok (.bipush 10, 2) := by decide +kernel
theorem dX12_number_46 : decode cX12_number 46 = .ok (.iload 4, 2) := by decide +kernel
theorem dX12_number_48 : decode cX12_number 48 = .ok (.imul, 1) := by decide +kernel
theorem dX12_number_49 : decode cX12_number 49 = .ok (.aload_n 0, 1) := by decide +kernel
theorem dX12_number_50 : decode cX12_number 50 = .ok (.getfield 34, 3) := by decide +kernel
theorem dX12_number_53 : decode cX12_number 53 = .ok (.aload_n 0, 1) := by decide +kernel
theorem dX12_number_54 : decode cX12_number 54 = .ok (.getfield 122, 3) := by decide +kernel
theorem dX12_number_57 : decode cX12_number 57 = .ok (.iload_n 3, 1) := by decide +kernel
theorem dX12_number_58 : decode cX12_number 58 = .ok (.iadd, 1) := by decide +kernel
theorem dX12_number_59 : decode cX12_number 59 = .ok (.iaload, 1) := by decide +kernel
theorem dX12_number_60 : decode cX12_number 60 = .ok (.iadd, 1) := by decide +kernel
theorem dX12_number_61 : decode cX12_number 61 = .ok (.bipush 48, 2) := by decide +kernel
theorem dX12_number_63 : decode cX12_number 63 = .ok (.isub, 1) := by decide +kernel
theorem dX12_number_64 : decode cX12_number 64 = .ok (.goto 5, 3) := by decide +kernel
theorem dX12_number_67 : decode cX12_number 67 = .ok (.iload 4, 2) := by decide +kernel
theorem dX12_number_69 : decode cX12_number 69 = .ok (.istore 4, 2) := by decide +kernel
theorem dX12_number_71 : decode cX12_number 71 = .ok (.iinc 3 1, 3) := by decide +kernel
theorem dX12_number_74 : decode cX12_number 74 = .ok (.goto (-65), 3) := by decide +kernel
theorem dX12_number_77 : decode cX12_number 77 = .ok (.iload_n 3, 1) := by decide +kernel
theorem dX12_number_78 : decode cX12_number 78 = .ok (.iconst 1, 1) := by decide +kernel
theorem dX12_number_79 : decode cX12_number 79 = .ok (.iconst 2, 1) := by decide +kernel
theorem dX12_number_80 : decode cX12_number 80 = .ok (.invokestatic 93, 3) := by decide +kernel
theorem dX12_number_83 : decode cX12_number 83 = .ok (.ifCond .eq 13, 3) := by decide +kernel
theorem dX12_number_86 : decode cX12_number 86 = .ok (.iload 4, 2) := by decide +kernel
theorem dX12_number_88 : decode cX12_number 88 = .ok (.iload_n 1, 1) := by decide +kernel
theorem dX12_number_89 : decode cX12_number 89 = .ok (.iload_n 2, 1) := by decide +kernel
theorem dX12_number_90 : decode cX12_number 90 = .ok (.invokestatic 93, 3) := by decide +kernel
theorem dX12_number_93 : decode cX12_number 93 = .ok (.ifCond .ne 5, 3) := by decide +kernel
theorem dX12_number_96 : decode cX12_number 96 = .ok (.iconst 0, 1) := by decide +kernel
theorem dX12_number_97 : decode cX12_number 97 = .ok (.ireturn, 1) := by decide +kernel
theorem dX12_number_98 : decode cX12_number 98 = .ok (.aload_n 0, 1) := by decide +kernel
theorem dX12_number_99 : decode cX12_number 99 = .ok (.iload 4, 2) := by decide +kernel
theorem dX12_number_101 : decode cX12_number 101 = .ok (.putfield 147, 3) := by decide +kernel
theorem dX12_number_104 : decode cX12_number 104 = .ok (.aload_n 0, 1) := by decide +kernel
theorem dX12_number_105 : decode cX12_number 105 = .ok (.dup, 1) := by decide +kernel
theorem dX12_number_106 : decode cX12_number 106 = .ok (.getfield 122, 3) := by decide +kernel
theorem dX12_number_109 : decode cX12_number 109 = .ok (.iload_n 3, 1) := by decide +kernel
theorem dX12_number_110 : decode cX12_number 110 = .ok (.iadd, 1) := by decide +kernel
theorem dX12_number_111 : decode cX12_number 111 = .ok (.putfield 122, 3) := by decide +kernel
theorem dX12_number_114 : decode cX12_number 114 = .ok (.iconst 1, 1) := by decide +kernel
theorem dX12_number_115 : decode cX12_number 115 = .ok (.ireturn, 1) := by decide +kernel
theorem dX12_ends_0 : decode cX12_ends 0 = .ok (.aload_n 0, 1) := by decide +kernel
theorem dX12_ends_1 : decode cX12_ends 1 = .ok (.invokevirtual 141, 3) := by decide +kernel
theorem dX12_ends_4 : decode cX12_ends 4 = .ok (.aload_n 0, 1) := by decide +kernel
theorem dX12_ends_5 : decode cX12_ends 5 = .ok (.invokevirtual 125, 3) := by decide +kernel
theorem dX12_ends_8 : decode cX12_ends 8 = .ok (.bipush 59, 2) := by decide +kernel
theorem dX12_ends_10 : decode cX12_ends 10 = .ok (.if_icmp .eq 5, 3) := by decide +kernel
theorem dX12_ends_13 : decode cX12_ends 13 = .ok (.iconst 0, 1) := by decide +kernel
theorem dX12_ends_14 : decode cX12_ends 14 = .ok (.ireturn, 1) := by decide +kernel
theorem dX12_ends_15 : decode cX12_ends 15 = .ok (.aload_n 0, 1) := by decide +kernel
theorem dX12_ends_16 : decode cX12_ends 16 = .ok (.dup, 1) := by decide +kernel
theorem dX12_ends_17 : decode cX12_ends 17 = .ok (.getfield 122, 3) := by decide +kernel
theorem dX12_ends_20 : decode cX12_ends 20 = .ok (.iconst 1, 1) := by decide +kernel
theorem dX12_ends_21 : decode cX12_ends 21 = .ok (.iadd, 1) := by decide +kernel
theorem dX12_ends_22 : decode cX12_ends 22 = .ok (.putfield 122, 3) := by decide +kernel
theorem dX12_ends_25 : decode cX12_ends 25 = .ok (.iconst 1, 1) := by decide +kernel
theorem dX12_ends_26 : decode cX12_ends 26 = .ok (.ireturn, 1) := by decide +kernel
theorem dX12_readsRock_0 : decode cX12_readsRock 0 = .ok (.aload_n 0, 1) := by decide +kernel
theorem dX12_readsRock_1 : decode cX12_readsRock 1 = .ok (.invokevirtual 141, 3) := by decide +kernel
theorem dX12_readsRock_4 : decode cX12_readsRock 4 = .ok (.aload_n 0, 1) := by decide +kernel
theorem dX12_readsRock_5 : decode cX12_readsRock 5 = .ok (.getfield 122, 3) := by decide +kernel
theorem dX12_readsRock_8 : decode cX12_readsRock 8 = .ok (.istore_n 2, 1) := by decide +kernel
theorem dX12_readsRock_9 : decode cX12_readsRock 9 = .ok (.aload_n 0, 1) := by decide +kernel
theorem dX12_readsRock_10 : decode cX12_readsRock 10 = .ok (.iconst 0, 1) := by decide +kernel
theorem dX12_readsRock_11 : decode cX12_readsRock 11 = .ok (.bipush 60, 2) := by decide +kernel
theorem dX12_readsRock_13 : decode cX12_readsRock 13 = .ok (.invokevirtual 150, 3) := by decide +kernel
theorem dX12_readsRock_16 : decode cX12_readsRock 16 = .ok (.ifCond .ne 5, 3) := by decide +kernel
theorem dX12_readsRock_19 : decode cX12_readsRock 19 = .ok (.iconst 0, 1) := by decide +kernel
theorem dX12_readsRock_20 : decode cX12_readsRock 20 = .ok (.ireturn, 1) := by decide +kernel
theorem dX12_readsRock_21 : decode cX12_readsRock 21 = .ok (.iload_n 1, 1) := by decide +kernel
theorem dX12_readsRock_22 : decode cX12_readsRock 22 = .ok (.aload_n 0, 1) := by decide +kernel
theorem dX12_readsRock_23 : decode cX12_readsRock 23 = .ok (.getfield 147, 3) := by decide +kernel
theorem dX12_readsRock_26 : decode cX12_readsRock 26 = .ok (.imul, 1) := by decide +kernel
theorem dX12_readsRock_27 : decode cX12_readsRock 27 = .ok (.istore_n 3, 1) := by decide +kernel
theorem dX12_readsRock_28 : decode cX12_readsRock 28 = .ok (.iconst 0, 1) := by decide +kernel
theorem dX12_readsRock_29 : decode cX12_readsRock 29 = .ok (.istore 4, 2) := by decide +kernel
theorem dX12_readsRock_31 : decode cX12_readsRock 31 = .ok (.iload 4, 2) := by decide +kernel
theorem dX12_readsRock_33 : decode cX12_readsRock 33 = .ok (.aload_n 0, 1) := by decide +kernel
theorem dX12_readsRock_34 : decode cX12_readsRock 34 = .ok (.getfield 154, 3) := by decide +kernel
theorem dX12_readsRock_37 : decode cX12_readsRock 37 = .ok (.if_icmp .ge 27, 3) := by decide +kernel
theorem dX12_readsRock_40 : decode cX12_readsRock 40 = .ok (.aload_n 0, 1) := by decide +kernel
theorem dX12_readsRock_41 : decode cX12_readsRock 41 = .ok (.getfield 37, 3) := by decide +kernel
theorem dX12_readsRock_44 : decode cX12_readsRock 44 = .ok (.iload 4, 2) := by decide +kernel
theorem dX12_readsRock_46 : decode cX12_readsRock 46 = .ok (.iaload, 1) := by decide +kernel
theorem dX12_readsRock_47 : decode cX12_readsRock 47 = .ok (.iload_n 3, 1) := by decide +kernel
theorem dX12_readsRock_48 : decode cX12_readsRock 48 = .ok (.if_icmp .ne 10, 3) := by decide +kernel
theorem dX12_readsRock_51 : decode cX12_readsRock 51 = .ok (.aload_n 0, 1) := by decide +kernel
theorem dX12_readsRock_52 : decode cX12_readsRock 52 = .ok (.iload_n 2, 1) := by decide +kernel
theorem dX12_readsRock_53 : decode cX12_readsRock 53 = .ok (.putfield 122, 3) := by decide +kernel
theorem dX12_readsRock_56 : decode cX12_readsRock 56 = .ok (.iconst 0, 1) := by decide +kernel
theorem dX12_readsRock_57 : decode cX12_readsRock 57 = .ok (.ireturn, 1) := by decide +kernel
theorem dX12_readsRock_58 : decode cX12_readsRock 58 = .ok (.iinc 4 1, 3) := by decide +kernel
theorem dX12_readsRock_61 : decode cX12_readsRock 61 = .ok (.goto (-30), 3) := by decide +kernel
theorem dX12_readsRock_64 : decode cX12_readsRock 64 = .ok (.aload_n 0, 1) := by decide +kernel
theorem dX12_readsRock_65 : decode cX12_readsRock 65 = .ok (.getfield 37, 3) := by decide +kernel
theorem dX12_readsRock_68 : decode cX12_readsRock 68 = .ok (.aload_n 0, 1) := by decide +kernel
theorem dX12_readsRock_69 : decode cX12_readsRock 69 = .ok (.getfield 154, 3) := by decide +kernel
theorem dX12_readsRock_72 : decode cX12_readsRock 72 = .ok (.iload_n 3, 1) := by decide +kernel
theorem dX12_readsRock_73 : decode cX12_readsRock 73 = .ok (.iastore, 1) := by decide +kernel
theorem dX12_readsRock_74 : decode cX12_readsRock 74 = .ok (.aload_n 0, 1) := by decide +kernel
theorem dX12_readsRock_75 : decode cX12_readsRock 75 = .ok (.dup, 1) := by decide +kernel
theorem dX12_readsRock_76 : decode cX12_readsRock 76 = .ok (.getfield 154, 3) := by decide +kernel
theorem dX12_readsRock_79 : decode cX12_readsRock 79 = .ok (.iconst 1, 1) := by decide +kernel
theorem dX12_readsRock_80 : decode cX12_readsRock 80 = .ok (.iadd, 1) := by decide +kernel
theorem dX12_readsRock_81 : decode cX12_readsRock 81 = .ok (.putfield 154, 3) := by decide +kernel
theorem dX12_readsRock_84 : decode cX12_readsRock 84 = .ok (.aload_n 0, 1) := by decide +kernel
theorem dX12_readsRock_85 : decode cX12_readsRock 85 = .ok (.invokevirtual 157, 3) := by decide +kernel
theorem dX12_readsRock_88 : decode cX12_readsRock 88 = .ok (.ireturn, 1) := by decide +kernel
theorem dX12_readsHand_0 : decode cX12_readsHand 0 = .ok (.iconst 0, 1) := by decide +kernel
theorem dX12_readsHand_1 : decode cX12_readsHand 1 = .ok (.istore_n 2, 1) := by decide +kernel
theorem dX12_readsHand_2 : decode cX12_readsHand 2 = .ok (.iload_n 2, 1) := by decide +kernel
theorem dX12_readsHand_3 : decode cX12_readsHand 3 = .ok (.iconst 3, 1) := by decide +kernel
theorem dX12_readsHand_4 : decode cX12_readsHand 4 = .ok (.if_icmp .ge 69, 3) := by decide +kernel
theorem dX12_readsHand_7 : decode cX12_readsHand 7 = .ok (.aload_n 0, 1) := by decide +kernel
theorem dX12_readsHand_8 : decode cX12_readsHand 8 = .ok (.iconst 0, 1) := by decide +kernel
theorem dX12_readsHand_9 : decode cX12_readsHand 9 = .ok (.iload_n 2, 1) := by decide +kernel
theorem dX12_readsHand_10 : decode cX12_readsHand 10 = .ok (.ifCond .ne 7, 3) := by decide +kernel
theorem dX12_readsHand_13 : decode cX12_readsHand 13 = .ok (.iconst 5, 1) := by decide +kernel
theorem dX12_readsHand_14 : decode cX12_readsHand 14 = .ok (.goto 14, 3) := by decide +kernel
theorem dX12_readsHand_17 : decode cX12_readsHand 17 = .ok (.iload_n 2, 1) := by decide +kernel
theorem dX12_readsHand_18 : decode cX12_readsHand 18 = .ok (.iconst 1, 1) := by decide +kernel
theorem dX12_readsHand_19 : decode cX12_readsHand 19 = .ok (.if_icmp .ne 8, 3) := by decide +kernel
theorem dX12_readsHand_22 : decode cX12_readsHand 22 = .ok (.bipush 40, 2) := by decide +kernel
theorem dX12_readsHand_24 : decode cX12_readsHand 24 = .ok (.goto 4, 3) := by decide +kernel
theorem dX12_readsHand_27 : decode cX12_readsHand 27 = .ok (.iconst 3, 1) := by decide +kernel
theorem dX12_readsHand_28 : decode cX12_readsHand 28 = .ok (.invokevirtual 150, 3) := by decide +kernel
theorem dX12_readsHand_31 : decode cX12_readsHand 31 = .ok (.ifCond .ne 5, 3) := by decide +kernel
theorem dX12_readsHand_34 : decode cX12_readsHand 34 = .ok (.iconst 0, 1) := by decide +kernel
theorem dX12_readsHand_35 : decode cX12_readsHand 35 = .ok (.ireturn, 1) := by decide +kernel
theorem dX12_readsHand_36 : decode cX12_readsHand 36 = .ok (.aload_n 0, 1) := by decide +kernel
theorem dX12_readsHand_37 : decode cX12_readsHand 37 = .ok (.getfield 40, 3) := by decide +kernel
theorem dX12_readsHand_40 : decode cX12_readsHand 40 = .ok (.iconst 3, 1) := by decide +kernel
theorem dX12_readsHand_41 : decode cX12_readsHand 41 = .ok (.aload_n 0, 1) := by decide +kernel
theorem dX12_readsHand_42 : decode cX12_readsHand 42 = .ok (.getfield 161, 3) := by decide +kernel
theorem dX12_readsHand_45 : decode cX12_readsHand 45 = .ok (.imul, 1) := by decide +kernel
theorem dX12_readsHand_46 : decode cX12_readsHand 46 = .ok (.iload_n 2, 1) := by decide +kernel
theorem dX12_readsHand_47 : decode cX12_readsHand 47 = .ok (.iadd, 1) := by decide +kernel
theorem dX12_readsHand_48 : decode cX12_readsHand 48 = .ok (.iload_n 2, 1) := by decide +kernel
theorem dX12_readsHand_49 : decode cX12_readsHand 49 = .ok (.iconst 2, 1) := by decide +kernel
theorem dX12_readsHand_50 : decode cX12_readsHand 50 = .ok (.if_icmp .ne 12, 3) := by decide +kernel
theorem dX12_readsHand_53 : decode cX12_readsHand 53 = .ok (.iload_n 1, 1) := by decide +kernel
theorem dX12_readsHand_54 : decode cX12_readsHand 54 = .ok (.aload_n 0, 1) := by decide +kernel
theorem dX12_readsHand_55 : decode cX12_readsHand 55 = .ok (.getfield 147, 3) := by decide +kernel
theorem dX12_readsHand_58 : decode cX12_readsHand 58 = .ok (.imul, 1) := by decide +kernel
theorem dX12_readsHand_59 : decode cX12_readsHand 59 = .ok (.goto 7, 3) := by decide +kernel
theorem dX12_readsHand_62 : decode cX12_readsHand 62 = .ok (.aload_n 0, 1) := by decide +kernel
theorem dX12_readsHand_63 : decode cX12_readsHand 63 = .ok (.getfield 147, 3) := by decide +kernel
theorem dX12_readsHand_66 : decode cX12_readsHand 66 = .ok (.iastore, 1) := by decide +kernel
theorem dX12_readsHand_67 : decode cX12_readsHand 67 = .ok (.iinc 2 1, 3) := by decide +kernel
theorem dX12_readsHand_70 : decode cX12_readsHand 70 = .ok (.goto (-68), 3) := by decide +kernel
theorem dX12_readsHand_73 : decode cX12_readsHand 73 = .ok (.aload_n 0, 1) := by decide +kernel
theorem dX12_readsHand_74 : decode cX12_readsHand 74 = .ok (.dup, 1) := by decide +kernel
theorem dX12_readsHand_75 : decode cX12_readsHand 75 = .ok (.getfield 161, 3) := by decide +kernel
theorem dX12_readsHand_78 : decode cX12_readsHand 78 = .ok (.iconst 1, 1) := by decide +kernel
theorem dX12_readsHand_79 : decode cX12_readsHand 79 = .ok (.iadd, 1) := by decide +kernel
theorem dX12_readsHand_80 : decode cX12_readsHand 80 = .ok (.putfield 161, 3) := by decide +kernel
theorem dX12_readsHand_83 : decode cX12_readsHand 83 = .ok (.aload_n 0, 1) := by decide +kernel
theorem dX12_readsHand_84 : decode cX12_readsHand 84 = .ok (.invokevirtual 157, 3) := by decide +kernel
theorem dX12_readsHand_87 : decode cX12_readsHand 87 = .ok (.ireturn, 1) := by decide +kernel
theorem dX12_readsItem_0 : decode cX12_readsItem 0 = .ok (.aload_n 0, 1) := by decide +kernel
theorem dX12_readsItem_1 : decode cX12_readsItem 1 = .ok (.invokevirtual 164, 3) := by decide +kernel
theorem dX12_readsItem_4 : decode cX12_readsItem 4 = .ok (.istore_n 1, 1) := by decide +kernel
theorem dX12_readsItem_5 : decode cX12_readsItem 5 = .ok (.iload_n 1, 1) := by decide +kernel
theorem dX12_readsItem_6 : decode cX12_readsItem 6 = .ok (.iconst 1, 1) := by decide +kernel
theorem dX12_readsItem_7 : decode cX12_readsItem 7 = .ok (.if_icmp .lt 31, 3) := by decide +kernel
theorem dX12_readsItem_10 : decode cX12_readsItem 10 = .ok (.iload_n 1, 1) := by decide +kernel
theorem dX12_readsItem_11 : decode cX12_readsItem 11 = .ok (.iconst 3, 1) := by decide +kernel
theorem dX12_readsItem_12 : decode cX12_readsItem 12 = .ok (.if_icmp .ge 12, 3) := by decide +kernel
theorem dX12_readsItem_15 : decode cX12_readsItem 15 = .ok (.aload_n 0, 1) := by decide +kernel
theorem dX12_readsItem_16 : decode cX12_readsItem 16 = .ok (.getfield 154, 3) := by decide +kernel
theorem dX12_readsItem_19 : decode cX12_readsItem 19 = .ok (.bipush 6, 2) := by decide +kernel
theorem dX12_readsItem_21 : decode cX12_readsItem 21 = .ok (.if_icmp .eq 17, 3) := by decide +kernel
theorem dX12_readsItem_24 : decode cX12_readsItem 24 = .ok (.iload_n 1, 1) := by decide +kernel
theorem dX12_readsItem_25 : decode cX12_readsItem 25 = .ok (.iconst 2, 1) := by decide +kernel
theorem dX12_readsItem_26 : decode cX12_readsItem 26 = .ok (.if_icmp .le 16, 3) := by decide +kernel
theorem dX12_readsItem_29 : decode cX12_readsItem 29 = .ok (.aload_n 0, 1) := by decide +kernel
theorem dX12_readsItem_30 : decode cX12_readsItem 30 = .ok (.getfield 161, 3) := by decide +kernel
theorem dX12_readsItem_33 : decode cX12_readsItem 33 = .ok (.bipush 6, 2) := by decide +kernel
theorem dX12_readsItem_35 : decode cX12_readsItem 35 = .ok (.if_icmp .ne 7, 3) := by decide +kernel
theorem dX12_readsItem_38 : decode cX12_readsItem 38 = .ok (.iconst 1, 1) := by decide +kernel
theorem dX12_readsItem_39 : decode cX12_readsItem 39 = .ok (.goto 4, 3) := by decide +kernel
theorem dX12_readsItem_42 : decode cX12_readsItem 42 = .ok (.iconst 0, 1) := by decide +kernel
theorem dX12_readsItem_43 : decode cX12_readsItem 43 = .ok (.istore_n 2, 1) := by decide +kernel
theorem dX12_readsItem_44 : decode cX12_readsItem 44 = .ok (.iload_n 2, 1) := by decide +kernel
theorem dX12_readsItem_45 : decode cX12_readsItem 45 = .ok (.ifCond .eq 5, 3) := by decide +kernel
theorem dX12_readsItem_48 : decode cX12_readsItem 48 = .ok (.iconst 0, 1) := by decide +kernel
theorem dX12_readsItem_49 : decode cX12_readsItem 49 = .ok (.ireturn, 1) := by decide +kernel
theorem dX12_readsItem_50 : decode cX12_readsItem 50 = .ok (.aload_n 0, 1) := by decide +kernel
theorem dX12_readsItem_51 : decode cX12_readsItem 51 = .ok (.dup, 1) := by decide +kernel
theorem dX12_readsItem_52 : decode cX12_readsItem 52 = .ok (.getfield 122, 3) := by decide +kernel
theorem dX12_readsItem_55 : decode cX12_readsItem 55 = .ok (.iconst 4, 1) := by decide +kernel
theorem dX12_readsItem_56 : decode cX12_readsItem 56 = .ok (.iadd, 1) := by decide +kernel
theorem dX12_readsItem_57 : decode cX12_readsItem 57 = .ok (.putfield 122, 3) := by decide +kernel
theorem dX12_readsItem_60 : decode cX12_readsItem 60 = .ok (.iload_n 1, 1) := by decide +kernel
theorem dX12_readsItem_61 : decode cX12_readsItem 61 = .ok (.iconst 2, 1) := by decide +kernel
theorem dX12_readsItem_62 : decode cX12_readsItem 62 = .ok (.irem, 1) := by decide +kernel
theorem dX12_readsItem_63 : decode cX12_readsItem 63 = .ok (.iconst 1, 1) := by decide +kernel
theorem dX12_readsItem_64 : decode cX12_readsItem 64 = .ok (.if_icmp .ne 7, 3) := by decide +kernel
theorem dX12_readsItem_67 : decode cX12_readsItem 67 = .ok (.iconst 1, 1) := by decide +kernel
theorem dX12_readsItem_68 : decode cX12_readsItem 68 = .ok (.goto 4, 3) := by decide +kernel
theorem dX12_readsItem_71 : decode cX12_readsItem 71 = .ok (.iconst (-1), 1) := by decide +kernel
theorem dX12_readsItem_72 : decode cX12_readsItem 72 = .ok (.istore_n 3, 1) := by decide +kernel
theorem dX12_readsItem_73 : decode cX12_readsItem 73 = .ok (.iload_n 1, 1) := by decide +kernel
theorem dX12_readsItem_74 : decode cX12_readsItem 74 = .ok (.iconst 3, 1) := by decide +kernel
theorem dX12_readsItem_75 : decode cX12_readsItem 75 = .ok (.if_icmp .ge 11, 3) := by decide +kernel
theorem dX12_readsItem_78 : decode cX12_readsItem 78 = .ok (.aload_n 0, 1) := by decide +kernel
theorem dX12_readsItem_79 : decode cX12_readsItem 79 = .ok (.iload_n 3, 1) := by decide +kernel
theorem dX12_readsItem_80 : decode cX12_readsItem 80 = .ok (.invokevirtual 167, 3) := by decide +kernel
theorem dX12_readsItem_83 : decode cX12_readsItem 83 = .ok (.goto 8, 3) := by decide +kernel
theorem dX12_readsItem_86 : decode cX12_readsItem 86 = .ok (.aload_n 0, 1) := by decide +kernel
theorem dX12_readsItem_87 : decode cX12_readsItem 87 = .ok (.iload_n 3, 1) := by decide +kernel
theorem dX12_readsItem_88 : decode cX12_readsItem 88 = .ok (.invokevirtual 170, 3) := by decide +kernel
theorem dX12_readsItem_91 : decode cX12_readsItem 91 = .ok (.ireturn, 1) := by decide +kernel
theorem dX12_readsShip_0 : decode cX12_readsShip 0 = .ok (.aload_n 0, 1) := by decide +kernel
theorem dX12_readsShip_1 : decode cX12_readsShip 1 = .ok (.iconst 0, 1) := by decide +kernel
theorem dX12_readsShip_2 : decode cX12_readsShip 2 = .ok (.putfield 122, 3) := by decide +kernel
theorem dX12_readsShip_5 : decode cX12_readsShip 5 = .ok (.aload_n 0, 1) := by decide +kernel
theorem dX12_readsShip_6 : decode cX12_readsShip 6 = .ok (.iconst 0, 1) := by decide +kernel
theorem dX12_readsShip_7 : decode cX12_readsShip 7 = .ok (.putfield 154, 3) := by decide +kernel
theorem dX12_readsShip_10 : decode cX12_readsShip 10 = .ok (.aload_n 0, 1) := by decide +kernel
theorem dX12_readsShip_11 : decode cX12_readsShip 11 = .ok (.iconst 0, 1) := by decide +kernel
theorem dX12_readsShip_12 : decode cX12_readsShip 12 = .ok (.putfield 161, 3) := by decide +kernel
theorem dX12_readsShip_15 : decode cX12_readsShip 15 = .ok (.aload_n 0, 1) := by decide +kernel
theorem dX12_readsShip_16 : decode cX12_readsShip 16 = .ok (.invokevirtual 141, 3) := by decide +kernel
theorem dX12_readsShip_19 : decode cX12_readsShip 19 = .ok (.aload_n 0, 1) := by decide +kernel
theorem dX12_readsShip_20 : decode cX12_readsShip 20 = .ok (.invokevirtual 164, 3) := by decide +kernel
theorem dX12_readsShip_23 : decode cX12_readsShip 23 = .ok (.ifCond .eq 5, 3) := by decide +kernel
theorem dX12_readsShip_26 : decode cX12_readsShip 26 = .ok (.iconst (-1), 1) := by decide +kernel
theorem dX12_readsShip_27 : decode cX12_readsShip 27 = .ok (.ireturn, 1) := by decide +kernel
theorem dX12_readsShip_28 : decode cX12_readsShip 28 = .ok (.aload_n 0, 1) := by decide +kernel
theorem dX12_readsShip_29 : decode cX12_readsShip 29 = .ok (.dup, 1) := by decide +kernel
theorem dX12_readsShip_30 : decode cX12_readsShip 30 = .ok (.getfield 122, 3) := by decide +kernel
theorem dX12_readsShip_33 : decode cX12_readsShip 33 = .ok (.iconst 4, 1) := by decide +kernel
theorem dX12_readsShip_34 : decode cX12_readsShip 34 = .ok (.iadd, 1) := by decide +kernel
theorem dX12_readsShip_35 : decode cX12_readsShip 35 = .ok (.putfield 122, 3) := by decide +kernel
theorem dX12_readsShip_38 : decode cX12_readsShip 38 = .ok (.aload_n 0, 1) := by decide +kernel
theorem dX12_readsShip_39 : decode cX12_readsShip 39 = .ok (.invokevirtual 157, 3) := by decide +kernel
theorem dX12_readsShip_42 : decode cX12_readsShip 42 = .ok (.ifCond .ne 5, 3) := by decide +kernel
theorem dX12_readsShip_45 : decode cX12_readsShip 45 = .ok (.iconst (-1), 1) := by decide +kernel
theorem dX12_readsShip_46 : decode cX12_readsShip 46 = .ok (.ireturn, 1) := by decide +kernel
theorem dX12_readsShip_47 : decode cX12_readsShip 47 = .ok (.iconst 1, 1) := by decide +kernel
theorem dX12_readsShip_48 : decode cX12_readsShip 48 = .ok (.istore_n 1, 1) := by decide +kernel
theorem dX12_readsShip_49 : decode cX12_readsShip 49 = .ok (.aload_n 0, 1) := by decide +kernel
theorem dX12_readsShip_50 : decode cX12_readsShip 50 = .ok (.invokevirtual 141, 3) := by decide +kernel
theorem dX12_readsShip_53 : decode cX12_readsShip 53 = .ok (.aload_n 0, 1) := by decide +kernel
theorem dX12_readsShip_54 : decode cX12_readsShip 54 = .ok (.getfield 122, 3) := by decide +kernel
theorem dX12_readsShip_57 : decode cX12_readsShip 57 = .ok (.aload_n 0, 1) := by decide +kernel
theorem dX12_readsShip_58 : decode cX12_readsShip 58 = .ok (.getfield 119, 3) := by decide +kernel
theorem dX12_readsShip_61 : decode cX12_readsShip 61 = .ok (.if_icmp .ge 22, 3) := by decide +kernel
theorem dX12_readsShip_64 : decode cX12_readsShip 64 = .ok (.aload_n 0, 1) := by decide +kernel
theorem dX12_readsShip_65 : decode cX12_readsShip 65 = .ok (.invokevirtual 173, 3) := by decide +kernel
theorem dX12_readsShip_68 : decode cX12_readsShip 68 = .ok (.ifCond .ne 5, 3) := by decide +kernel
theorem dX12_readsShip_71 : decode cX12_readsShip 71 = .ok (.iconst (-1), 1) := by decide +kernel
theorem dX12_readsShip_72 : decode cX12_readsShip 72 = .ok (.ireturn, 1) := by decide +kernel
theorem dX12_readsShip_73 : decode cX12_readsShip 73 = .ok (.iinc 1 1, 3) := by decide +kernel
theorem dX12_readsShip_76 : decode cX12_readsShip 76 = .ok (.aload_n 0, 1) := by decide +kernel
theorem dX12_readsShip_77 : decode cX12_readsShip 77 = .ok (.invokevirtual 141, 3) := by decide +kernel
theorem dX12_readsShip_80 : decode cX12_readsShip 80 = .ok (.goto (-27), 3) := by decide +kernel
theorem dX12_readsShip_83 : decode cX12_readsShip 83 = .ok (.iload_n 1, 1) := by decide +kernel
theorem dX12_readsShip_84 : decode cX12_readsShip 84 = .ok (.ireturn, 1) := by decide +kernel
theorem dX12_read_0 : decode cX12_read 0 = .ok (.aload_n 0, 1) := by decide +kernel
theorem dX12_read_1 : decode cX12_read 1 = .ok (.invokevirtual 176, 3) := by decide +kernel
theorem dX12_read_4 : decode cX12_read 4 = .ok (.istore_n 1, 1) := by decide +kernel
theorem dX12_read_5 : decode cX12_read 5 = .ok (.iload_n 1, 1) := by decide +kernel
theorem dX12_read_6 : decode cX12_read 6 = .ok (.ifCond .ge 11, 3) := by decide +kernel
theorem dX12_read_9 : decode cX12_read 9 = .ok (.bipush (-10), 2) := by decide +kernel
theorem dX12_read_11 : decode cX12_read 11 = .ok (.aload_n 0, 1) := by decide +kernel
theorem dX12_read_12 : decode cX12_read 12 = .ok (.getfield 122, 3) := by decide +kernel
theorem dX12_read_15 : decode cX12_read 15 = .ok (.isub, 1) := by decide +kernel
theorem dX12_read_16 : decode cX12_read 16 = .ok (.ireturn, 1) := by decide +kernel
theorem dX12_read_17 : decode cX12_read 17 = .ok (.aload_n 0, 1) := by decide +kernel
theorem dX12_read_18 : decode cX12_read 18 = .ok (.invokevirtual 71, 3) := by decide +kernel
theorem dX12_read_21 : decode cX12_read 21 = .ok (.iconst 0, 1) := by decide +kernel
theorem dX12_read_22 : decode cX12_read 22 = .ok (.istore_n 2, 1) := by decide +kernel
theorem dX12_read_23 : decode cX12_read 23 = .ok (.iload_n 2, 1) := by decide +kernel
theorem dX12_read_24 : decode cX12_read 24 = .ok (.aload_n 0, 1) := by decide +kernel
theorem dX12_read_25 : decode cX12_read 25 = .ok (.getfield 154, 3) := by decide +kernel
theorem dX12_read_28 : decode cX12_read 28 = .ok (.if_icmp .ge 20, 3) := by decide +kernel
theorem dX12_read_31 : decode cX12_read 31 = .ok (.aload_n 0, 1) := by decide +kernel
theorem dX12_read_32 : decode cX12_read 32 = .ok (.aload_n 0, 1) := by decide +kernel
theorem dX12_read_33 : decode cX12_read 33 = .ok (.getfield 37, 3) := by decide +kernel
theorem dX12_read_36 : decode cX12_read 36 = .ok (.iload_n 2, 1) := by decide +kernel
theorem dX12_read_37 : decode cX12_read 37 = .ok (.iaload, 1) := by decide +kernel
theorem dX12_read_38 : decode cX12_read 38 = .ok (.invokevirtual 111, 3) := by decide +kernel
theorem dX12_read_41 : decode cX12_read 41 = .ok (.pop, 1) := by decide +kernel
theorem dX12_read_42 : decode cX12_read 42 = .ok (.iinc 2 1, 3) := by decide +kernel
theorem dX12_read_45 : decode cX12_read 45 = .ok (.goto (-22), 3) := by decide +kernel
theorem dX12_read_48 : decode cX12_read 48 = .ok (.iconst 0, 1) := by decide +kernel
theorem dX12_read_49 : decode cX12_read 49 = .ok (.istore_n 2, 1) := by decide +kernel
theorem dX12_read_50 : decode cX12_read 50 = .ok (.iload_n 2, 1) := by decide +kernel
theorem dX12_read_51 : decode cX12_read 51 = .ok (.aload_n 0, 1) := by decide +kernel
theorem dX12_read_52 : decode cX12_read 52 = .ok (.getfield 161, 3) := by decide +kernel
theorem dX12_read_55 : decode cX12_read 55 = .ok (.if_icmp .ge 42, 3) := by decide +kernel
theorem dX12_read_58 : decode cX12_read 58 = .ok (.aload_n 0, 1) := by decide +kernel
theorem dX12_read_59 : decode cX12_read 59 = .ok (.aload_n 0, 1) := by decide +kernel
theorem dX12_read_60 : decode cX12_read 60 = .ok (.getfield 40, 3) := by decide +kernel
theorem dX12_read_63 : decode cX12_read 63 = .ok (.iconst 3, 1) := by decide +kernel
theorem dX12_read_64 : decode cX12_read 64 = .ok (.iload_n 2, 1) := by decide +kernel
theorem dX12_read_65 : decode cX12_read 65 = .ok (.imul, 1) := by decide +kernel
theorem dX12_read_66 : decode cX12_read 66 = .ok (.iaload, 1) := by decide +kernel
theorem dX12_read_67 : decode cX12_read 67 = .ok (.aload_n 0, 1) := by decide +kernel
theorem dX12_read_68 : decode cX12_read 68 = .ok (.getfield 40, 3) := by decide +kernel
theorem dX12_read_71 : decode cX12_read 71 = .ok (.iconst 3, 1) := by decide +kernel
theorem dX12_read_72 : decode cX12_read 72 = .ok (.iload_n 2, 1) := by decide +kernel
theorem dX12_read_73 : decode cX12_read 73 = .ok (.imul, 1) := by decide +kernel
theorem dX12_read_74 : decode cX12_read 74 = .ok (.iconst 1, 1) := by decide +kernel
theorem dX12_read_75 : decode cX12_read 75 = .ok (.iadd, 1) := by decide +kernel
theorem dX12_read_76 : decode cX12_read 76 = .ok (.iaload, 1) := by decide +kernel
theorem dX12_read_77 : decode cX12_read 77 = .ok (.aload_n 0, 1) := by decide +kernel
theorem dX12_read_78 : decode cX12_read 78 = .ok (.getfield 40, 3) := by decide +kernel
theorem dX12_read_81 : decode cX12_read 81 = .ok (.iconst 3, 1) := by decide +kernel
theorem dX12_read_82 : decode cX12_read 82 = .ok (.iload_n 2, 1) := by decide +kernel
theorem dX12_read_83 : decode cX12_read 83 = .ok (.imul, 1) := by decide +kernel
theorem dX12_read_84 : decode cX12_read 84 = .ok (.iconst 2, 1) := by decide +kernel
theorem dX12_read_85 : decode cX12_read 85 = .ok (.iadd, 1) := by decide +kernel
theorem dX12_read_86 : decode cX12_read 86 = .ok (.iaload, 1) := by decide +kernel
theorem dX12_read_87 : decode cX12_read 87 = .ok (.invokevirtual 115, 3) := by decide +kernel
theorem dX12_read_90 : decode cX12_read 90 = .ok (.pop, 1) := by decide +kernel
theorem dX12_read_91 : decode cX12_read 91 = .ok (.iinc 2 1, 3) := by decide +kernel
theorem dX12_read_94 : decode cX12_read 94 = .ok (.goto (-44), 3) := by decide +kernel
theorem dX12_read_97 : decode cX12_read 97 = .ok (.iload_n 1, 1) := by decide +kernel
theorem dX12_read_98 : decode cX12_read 98 = .ok (.ireturn, 1) := by decide +kernel
theorem dX12_sleepyBy_0 : decode cX12_sleepyBy 0 = .ok (.iload_n 3, 1) := by decide +kernel
theorem dX12_sleepyBy_1 : decode cX12_sleepyBy 1 = .ok (.iconst 4, 1) := by decide +kernel
theorem dX12_sleepyBy_2 : decode cX12_sleepyBy 2 = .ok (.irem, 1) := by decide +kernel
theorem dX12_sleepyBy_3 : decode cX12_sleepyBy 3 = .ok (.ifCond .ne 18, 3) := by decide +kernel
theorem dX12_sleepyBy_6 : decode cX12_sleepyBy 6 = .ok (.iload_n 1, 1) := by decide +kernel
theorem dX12_sleepyBy_7 : decode cX12_sleepyBy 7 = .ok (.iconst 3, 1) := by decide +kernel
theorem dX12_sleepyBy_8 : decode cX12_sleepyBy 8 = .ok (.if_icmp .ge 7, 3) := by decide +kernel
theorem dX12_sleepyBy_11 : decode cX12_sleepyBy 11 = .ok (.iconst 0, 1) := by decide +kernel
theorem dX12_sleepyBy_12 : decode cX12_sleepyBy 12 = .ok (.goto 10, 3) := by decide +kernel
theorem dX12_sleepyBy_15 : decode cX12_sleepyBy 15 = .ok (.iload_n 1, 1) := by decide +kernel
theorem dX12_sleepyBy_16 : decode cX12_sleepyBy 16 = .ok (.iconst 3, 1) := by decide +kernel
theorem dX12_sleepyBy_17 : decode cX12_sleepyBy 17 = .ok (.isub, 1) := by decide +kernel
theorem dX12_sleepyBy_18 : decode cX12_sleepyBy 18 = .ok (.goto 4, 3) := by decide +kernel
theorem dX12_sleepyBy_21 : decode cX12_sleepyBy 21 = .ok (.iload_n 1, 1) := by decide +kernel
theorem dX12_sleepyBy_22 : decode cX12_sleepyBy 22 = .ok (.istore 4, 2) := by decide +kernel
theorem dX12_sleepyBy_24 : decode cX12_sleepyBy 24 = .ok (.iload_n 0, 1) := by decide +kernel
theorem dX12_sleepyBy_25 : decode cX12_sleepyBy 25 = .ok (.tableswitch 81 1 5 #[35, 38, 50, 62, 79], 35) := by decide +kernel
theorem dX12_sleepyBy_60 : decode cX12_sleepyBy 60 = .ok (.iload 4, 2) := by decide +kernel
theorem dX12_sleepyBy_62 : decode cX12_sleepyBy 62 = .ok (.ireturn, 1) := by decide +kernel
theorem dX12_sleepyBy_63 : decode cX12_sleepyBy 63 = .ok (.iload_n 2, 1) := by decide +kernel
theorem dX12_sleepyBy_64 : decode cX12_sleepyBy 64 = .ok (.ifCond .eq 7, 3) := by decide +kernel
theorem dX12_sleepyBy_67 : decode cX12_sleepyBy 67 = .ok (.iload_n 1, 1) := by decide +kernel
theorem dX12_sleepyBy_68 : decode cX12_sleepyBy 68 = .ok (.goto 6, 3) := by decide +kernel
theorem dX12_sleepyBy_71 : decode cX12_sleepyBy 71 = .ok (.iload_n 1, 1) := by decide +kernel
theorem dX12_sleepyBy_72 : decode cX12_sleepyBy 72 = .ok (.iconst 2, 1) := by decide +kernel
theorem dX12_sleepyBy_73 : decode cX12_sleepyBy 73 = .ok (.idiv, 1) := by decide +kernel
theorem dX12_sleepyBy_74 : decode cX12_sleepyBy 74 = .ok (.ireturn, 1) := by decide +kernel
theorem dX12_sleepyBy_75 : decode cX12_sleepyBy 75 = .ok (.iload_n 2, 1) := by decide +kernel
theorem dX12_sleepyBy_76 : decode cX12_sleepyBy 76 = .ok (.ifCond .eq 9, 3) := by decide +kernel
theorem dX12_sleepyBy_79 : decode cX12_sleepyBy 79 = .ok (.iconst 2, 1) := by decide +kernel
theorem dX12_sleepyBy_80 : decode cX12_sleepyBy 80 = .ok (.iload_n 1, 1) := by decide +kernel
theorem dX12_sleepyBy_81 : decode cX12_sleepyBy 81 = .ok (.imul, 1) := by decide +kernel
theorem dX12_sleepyBy_82 : decode cX12_sleepyBy 82 = .ok (.goto 4, 3) := by decide +kernel
theorem dX12_sleepyBy_85 : decode cX12_sleepyBy 85 = .ok (.iload_n 1, 1) := by decide +kernel
theorem dX12_sleepyBy_86 : decode cX12_sleepyBy 86 = .ok (.ireturn, 1) := by decide +kernel
theorem dX12_sleepyBy_87 : decode cX12_sleepyBy 87 = .ok (.iload 4, 2) := by decide +kernel
theorem dX12_sleepyBy_89 : decode cX12_sleepyBy 89 = .ok (.iload_n 3, 1) := by decide +kernel
theorem dX12_sleepyBy_90 : decode cX12_sleepyBy 90 = .ok (.bipush 7, 2) := by decide +kernel
theorem dX12_sleepyBy_92 : decode cX12_sleepyBy 92 = .ok (.irem, 1) := by decide +kernel
theorem dX12_sleepyBy_93 : decode cX12_sleepyBy 93 = .ok (.iconst 3, 1) := by decide +kernel
theorem dX12_sleepyBy_94 : decode cX12_sleepyBy 94 = .ok (.if_icmp .ne 7, 3) := by decide +kernel
theorem dX12_sleepyBy_97 : decode cX12_sleepyBy 97 = .ok (.iconst 5, 1) := by decide +kernel
theorem dX12_sleepyBy_98 : decode cX12_sleepyBy 98 = .ok (.goto 4, 3) := by decide +kernel
theorem dX12_sleepyBy_101 : decode cX12_sleepyBy 101 = .ok (.iconst 0, 1) := by decide +kernel
theorem dX12_sleepyBy_102 : decode cX12_sleepyBy 102 = .ok (.iadd, 1) := by decide +kernel
theorem dX12_sleepyBy_103 : decode cX12_sleepyBy 103 = .ok (.ireturn, 1) := by decide +kernel
theorem dX12_sleepyBy_104 : decode cX12_sleepyBy 104 = .ok (.iconst 0, 1) := by decide +kernel
theorem dX12_sleepyBy_105 : decode cX12_sleepyBy 105 = .ok (.ireturn, 1) := by decide +kernel
theorem dX12_sleepyBy_106 : decode cX12_sleepyBy 106 = .ok (.iload_n 1, 1) := by decide +kernel
theorem dX12_sleepyBy_107 : decode cX12_sleepyBy 107 = .ok (.ireturn, 1) := by decide +kernel
theorem dX12_sleepy_0 : decode cX12_sleepy 0 = .ok (.aload_n 0, 1) := by decide +kernel
theorem dX12_sleepy_1 : decode cX12_sleepy 1 = .ok (.getfield 13, 3) := by decide +kernel
theorem dX12_sleepy_4 : decode cX12_sleepy 4 = .ok (.iload_n 1, 1) := by decide +kernel
theorem dX12_sleepy_5 : decode cX12_sleepy 5 = .ok (.iaload, 1) := by decide +kernel
theorem dX12_sleepy_6 : decode cX12_sleepy 6 = .ok (.aload_n 0, 1) := by decide +kernel
theorem dX12_sleepy_7 : decode cX12_sleepy 7 = .ok (.getfield 16, 3) := by decide +kernel
theorem dX12_sleepy_10 : decode cX12_sleepy 10 = .ok (.iload_n 1, 1) := by decide +kernel
theorem dX12_sleepy_11 : decode cX12_sleepy 11 = .ok (.iaload, 1) := by decide +kernel
theorem dX12_sleepy_12 : decode cX12_sleepy 12 = .ok (.aload_n 0, 1) := by decide +kernel
theorem dX12_sleepy_13 : decode cX12_sleepy 13 = .ok (.getfield 22, 3) := by decide +kernel
theorem dX12_sleepy_16 : decode cX12_sleepy 16 = .ok (.iload_n 1, 1) := by decide +kernel
theorem dX12_sleepy_17 : decode cX12_sleepy 17 = .ok (.iaload, 1) := by decide +kernel
theorem dX12_sleepy_18 : decode cX12_sleepy 18 = .ok (.iconst 1, 1) := by decide +kernel
theorem dX12_sleepy_19 : decode cX12_sleepy 19 = .ok (.if_icmp .ne 7, 3) := by decide +kernel
theorem dX12_sleepy_22 : decode cX12_sleepy 22 = .ok (.iconst 1, 1) := by decide +kernel
theorem dX12_sleepy_23 : decode cX12_sleepy 23 = .ok (.goto 4, 3) := by decide +kernel
theorem dX12_sleepy_26 : decode cX12_sleepy 26 = .ok (.iconst 0, 1) := by decide +kernel
theorem dX12_sleepy_27 : decode cX12_sleepy 27 = .ok (.aload_n 0, 1) := by decide +kernel
theorem dX12_sleepy_28 : decode cX12_sleepy 28 = .ok (.getfield 81, 3) := by decide +kernel
theorem dX12_sleepy_31 : decode cX12_sleepy 31 = .ok (.invokestatic 179, 3) := by decide +kernel
theorem dX12_sleepy_34 : decode cX12_sleepy 34 = .ok (.ireturn, 1) := by decide +kernel
theorem dX12_moreBy_0 : decode cX12_moreBy 0 = .ok (.iload_n 0, 1) := by decide +kernel
theorem dX12_moreBy_1 : decode cX12_moreBy 1 = .ok (.iconst 2, 1) := by decide +kernel
theorem dX12_moreBy_2 : decode cX12_moreBy 2 = .ok (.if_icmp .ne 7, 3) := by decide +kernel
theorem dX12_moreBy_5 : decode cX12_moreBy 5 = .ok (.iconst 2, 1) := by decide +kernel
theorem dX12_moreBy_6 : decode cX12_moreBy 6 = .ok (.goto 13, 3) := by decide +kernel
theorem dX12_moreBy_9 : decode cX12_moreBy 9 = .ok (.iload_n 0, 1) := by decide +kernel
theorem dX12_moreBy_10 : decode cX12_moreBy 10 = .ok (.iconst 5, 1) := by decide +kernel
theorem dX12_moreBy_11 : decode cX12_moreBy 11 = .ok (.if_icmp .ne 7, 3) := by decide +kernel
theorem dX12_moreBy_14 : decode cX12_moreBy 14 = .ok (.iconst 0, 1) := by decide +kernel
theorem dX12_moreBy_15 : decode cX12_moreBy 15 = .ok (.goto 4, 3) := by decide +kernel
theorem dX12_moreBy_18 : decode cX12_moreBy 18 = .ok (.iconst 1, 1) := by decide +kernel
theorem dX12_moreBy_19 : decode cX12_moreBy 19 = .ok (.ireturn, 1) := by decide +kernel
theorem dX12_steers_0 : decode cX12_steers 0 = .ok (.iconst (-1), 1) := by decide +kernel
theorem dX12_steers_1 : decode cX12_steers 1 = .ok (.istore_n 1, 1) := by decide +kernel
theorem dX12_steers_2 : decode cX12_steers 2 = .ok (.iconst 0, 1) := by decide +kernel
theorem dX12_steers_3 : decode cX12_steers 3 = .ok (.istore_n 2, 1) := by decide +kernel
theorem dX12_steers_4 : decode cX12_steers 4 = .ok (.iconst 0, 1) := by decide +kernel
theorem dX12_steers_5 : decode cX12_steers 5 = .ok (.istore_n 3, 1) := by decide +kernel
theorem dX12_steers_6 : decode cX12_steers 6 = .ok (.iload_n 3, 1) := by decide +kernel
theorem dX12_steers_7 : decode cX12_steers 7 = .ok (.aload_n 0, 1) := by decide +kernel
theorem dX12_steers_8 : decode cX12_steers 8 = .ok (.getfield 74, 3) := by decide +kernel
theorem dX12_steers_11 : decode cX12_steers 11 = .ok (.if_icmp .ge 41, 3) := by decide +kernel
theorem dX12_steers_14 : decode cX12_steers 14 = .ok (.aload_n 0, 1) := by decide +kernel
theorem dX12_steers_15 : decode cX12_steers 15 = .ok (.iload_n 3, 1) := by decide +kernel
theorem dX12_steers_16 : decode cX12_steers 16 = .ok (.invokevirtual 183, 3) := by decide +kernel
theorem dX12_steers_19 : decode cX12_steers 19 = .ok (.istore 4, 2) := by decide +kernel
theorem dX12_steers_21 : decode cX12_steers 21 = .ok (.iload 4, 2) := by decide +kernel
theorem dX12_steers_23 : decode cX12_steers 23 = .ok (.iload_n 2, 1) := by decide +kernel
theorem dX12_steers_24 : decode cX12_steers 24 = .ok (.if_icmp .le 7, 3) := by decide +kernel
theorem dX12_steers_27 : decode cX12_steers 27 = .ok (.iload_n 3, 1) := by decide +kernel
theorem dX12_steers_28 : decode cX12_steers 28 = .ok (.goto 4, 3) := by decide +kernel
theorem dX12_steers_31 : decode cX12_steers 31 = .ok (.iload_n 1, 1) := by decide +kernel
theorem dX12_steers_32 : decode cX12_steers 32 = .ok (.istore_n 1, 1) := by decide +kernel
theorem dX12_steers_33 : decode cX12_steers 33 = .ok (.iload 4, 2) := by decide +kernel
theorem dX12_steers_35 : decode cX12_steers 35 = .ok (.iload_n 2, 1) := by decide +kernel
theorem dX12_steers_36 : decode cX12_steers 36 = .ok (.if_icmp .le 8, 3) := by decide +kernel
theorem dX12_steers_39 : decode cX12_steers 39 = .ok (.iload 4, 2) := by decide +kernel
theorem dX12_steers_41 : decode cX12_steers 41 = .ok (.goto 4, 3) := by decide +kernel
theorem dX12_steers_44 : decode cX12_steers 44 = .ok (.iload_n 2, 1) := by decide +kernel
theorem dX12_steers_45 : decode cX12_steers 45 = .ok (.istore_n 2, 1) := by decide +kernel
theorem dX12_steers_46 : decode cX12_steers 46 = .ok (.iinc 3 1, 3) := by decide +kernel
theorem dX12_steers_49 : decode cX12_steers 49 = .ok (.goto (-43), 3) := by decide +kernel
theorem dX12_steers_52 : decode cX12_steers 52 = .ok (.iload_n 1, 1) := by decide +kernel
theorem dX12_steers_53 : decode cX12_steers 53 = .ok (.ireturn, 1) := by decide +kernel
theorem dX12_pass_0 : decode cX12_pass 0 = .ok (.aload_n 0, 1) := by decide +kernel
theorem dX12_pass_1 : decode cX12_pass 1 = .ok (.invokevirtual 186, 3) := by decide +kernel
theorem dX12_pass_4 : decode cX12_pass 4 = .ok (.istore_n 1, 1) := by decide +kernel
theorem dX12_pass_5 : decode cX12_pass 5 = .ok (.aload_n 0, 1) := by decide +kernel
theorem dX12_pass_6 : decode cX12_pass 6 = .ok (.dup, 1) := by decide +kernel
theorem dX12_pass_7 : decode cX12_pass 7 = .ok (.getfield 78, 3) := by decide +kernel
theorem dX12_pass_10 : decode cX12_pass 10 = .ok (.iload_n 1, 1) := by decide +kernel
theorem dX12_pass_11 : decode cX12_pass 11 = .ok (.iconst (-1), 1) := by decide +kernel
theorem dX12_pass_12 : decode cX12_pass 12 = .ok (.if_icmp .ne 7, 3) := by decide +kernel
theorem dX12_pass_15 : decode cX12_pass 15 = .ok (.iconst 0, 1) := by decide +kernel
theorem dX12_pass_16 : decode cX12_pass 16 = .ok (.goto 9, 3) := by decide +kernel
theorem dX12_pass_19 : decode cX12_pass 19 = .ok (.aload_n 0, 1) := by decide +kernel
theorem dX12_pass_20 : decode cX12_pass 20 = .ok (.getfield 19, 3) := by decide +kernel
theorem dX12_pass_23 : decode cX12_pass 23 = .ok (.iload_n 1, 1) := by decide +kernel
theorem dX12_pass_24 : decode cX12_pass 24 = .ok (.iaload, 1) := by decide +kernel
theorem dX12_pass_25 : decode cX12_pass 25 = .ok (.iadd, 1) := by decide +kernel
theorem dX12_pass_26 : decode cX12_pass 26 = .ok (.putfield 78, 3) := by decide +kernel
theorem dX12_pass_29 : decode cX12_pass 29 = .ok (.iconst 0, 1) := by decide +kernel
theorem dX12_pass_30 : decode cX12_pass 30 = .ok (.istore_n 2, 1) := by decide +kernel
theorem dX12_pass_31 : decode cX12_pass 31 = .ok (.iload_n 2, 1) := by decide +kernel
theorem dX12_pass_32 : decode cX12_pass 32 = .ok (.aload_n 0, 1) := by decide +kernel
theorem dX12_pass_33 : decode cX12_pass 33 = .ok (.getfield 74, 3) := by decide +kernel
theorem dX12_pass_36 : decode cX12_pass 36 = .ok (.if_icmp .ge 81, 3) := by decide +kernel
theorem dX12_pass_39 : decode cX12_pass 39 = .ok (.aload_n 0, 1) := by decide +kernel
theorem dX12_pass_40 : decode cX12_pass 40 = .ok (.getfield 16, 3) := by decide +kernel
theorem dX12_pass_43 : decode cX12_pass 43 = .ok (.iload_n 2, 1) := by decide +kernel
theorem dX12_pass_44 : decode cX12_pass 44 = .ok (.iaload, 1) := by decide +kernel
theorem dX12_pass_45 : decode cX12_pass 45 = .ok (.aload_n 0, 1) := by decide +kernel
theorem dX12_pass_46 : decode cX12_pass 46 = .ok (.getfield 13, 3) := by decide +kernel
theorem dX12_pass_49 : decode cX12_pass 49 = .ok (.iload_n 2, 1) := by decide +kernel
theorem dX12_pass_50 : decode cX12_pass 50 = .ok (.iaload, 1) := by decide +kernel
theorem dX12_pass_51 : decode cX12_pass 51 = .ok (.invokestatic 189, 3) := by decide +kernel
theorem dX12_pass_54 : decode cX12_pass 54 = .ok (.iadd, 1) := by decide +kernel
theorem dX12_pass_55 : decode cX12_pass 55 = .ok (.istore_n 3, 1) := by decide +kernel
theorem dX12_pass_56 : decode cX12_pass 56 = .ok (.aload_n 0, 1) := by decide +kernel
theorem dX12_pass_57 : decode cX12_pass 57 = .ok (.getfield 16, 3) := by decide +kernel
theorem dX12_pass_60 : decode cX12_pass 60 = .ok (.iload_n 2, 1) := by decide +kernel
theorem dX12_pass_61 : decode cX12_pass 61 = .ok (.iload_n 2, 1) := by decide +kernel
theorem dX12_pass_62 : decode cX12_pass 62 = .ok (.iload_n 1, 1) := by decide +kernel
theorem dX12_pass_63 : decode cX12_pass 63 = .ok (.if_icmp .ne 28, 3) := by decide +kernel
theorem dX12_pass_66 : decode cX12_pass 66 = .ok (.aload_n 0, 1) := by decide +kernel
theorem dX12_pass_67 : decode cX12_pass 67 = .ok (.getfield 16, 3) := by decide +kernel
theorem dX12_pass_70 : decode cX12_pass 70 = .ok (.iload_n 2, 1) := by decide +kernel
theorem dX12_pass_71 : decode cX12_pass 71 = .ok (.iaload, 1) := by decide +kernel
theorem dX12_pass_72 : decode cX12_pass 72 = .ok (.iconst 4, 1) := by decide +kernel
theorem dX12_pass_73 : decode cX12_pass 73 = .ok (.if_icmp .ge 7, 3) := by decide +kernel
theorem dX12_pass_76 : decode cX12_pass 76 = .ok (.iconst 0, 1) := by decide +kernel
theorem dX12_pass_77 : decode cX12_pass 77 = .ok (.goto 26, 3) := by decide +kernel
theorem dX12_pass_80 : decode cX12_pass 80 = .ok (.aload_n 0, 1) := by decide +kernel
theorem dX12_pass_81 : decode cX12_pass 81 = .ok (.getfield 16, 3) := by decide +kernel
theorem dX12_pass_84 : decode cX12_pass 84 = .ok (.iload_n 2, 1) := by decide +kernel
theorem dX12_pass_85 : decode cX12_pass 85 = .ok (.iaload, 1) := by decide +kernel
theorem dX12_pass_86 : decode cX12_pass 86 = .ok (.iconst 4, 1) := by decide +kernel
theorem dX12_pass_87 : decode cX12_pass 87 = .ok (.isub, 1) := by decide +kernel
theorem dX12_pass_88 : decode cX12_pass 88 = .ok (.goto 15, 3) := by decide +kernel
theorem dX12_pass_91 : decode cX12_pass 91 = .ok (.iload_n 3, 1) := by decide +kernel
theorem dX12_pass_92 : decode cX12_pass 92 = .ok (.bipush 99, 2) := by decide +kernel
theorem dX12_pass_94 : decode cX12_pass 94 = .ok (.if_icmp .le 8, 3) := by decide +kernel
theorem dX12_pass_97 : decode cX12_pass 97 = .ok (.bipush 99, 2) := by decide +kernel
theorem dX12_pass_99 : decode cX12_pass 99 = .ok (.goto 4, 3) := by decide +kernel
theorem dX12_pass_102 : decode cX12_pass 102 = .ok (.iload_n 3, 1) := by decide +kernel
theorem dX12_pass_103 : decode cX12_pass 103 = .ok (.iastore, 1) := by decide +kernel
theorem dX12_pass_104 : decode cX12_pass 104 = .ok (.aload_n 0, 1) := by decide +kernel
theorem dX12_pass_105 : decode cX12_pass 105 = .ok (.getfield 22, 3) := by decide +kernel
theorem dX12_pass_108 : decode cX12_pass 108 = .ok (.iload_n 2, 1) := by decide +kernel
theorem dX12_pass_109 : decode cX12_pass 109 = .ok (.iconst 0, 1) := by decide +kernel
theorem dX12_pass_110 : decode cX12_pass 110 = .ok (.iastore, 1) := by decide +kernel
theorem dX12_pass_111 : decode cX12_pass 111 = .ok (.iinc 2 1, 3) := by decide +kernel
theorem dX12_pass_114 : decode cX12_pass 114 = .ok (.goto (-83), 3) := by decide +kernel
theorem dX12_pass_117 : decode cX12_pass 117 = .ok (.aload_n 0, 1) := by decide +kernel
theorem dX12_pass_118 : decode cX12_pass 118 = .ok (.dup, 1) := by decide +kernel
theorem dX12_pass_119 : decode cX12_pass 119 = .ok (.getfield 81, 3) := by decide +kernel
theorem dX12_pass_122 : decode cX12_pass 122 = .ok (.iconst 1, 1) := by decide +kernel
theorem dX12_pass_123 : decode cX12_pass 123 = .ok (.iadd, 1) := by decide +kernel
theorem dX12_pass_124 : decode cX12_pass 124 = .ok (.putfield 81, 3) := by decide +kernel
theorem dX12_pass_127 : decode cX12_pass 127 = .ok (.iload_n 1, 1) := by decide +kernel
theorem dX12_pass_128 : decode cX12_pass 128 = .ok (.ireturn, 1) := by decide +kernel
theorem dX12_lays_0 : decode cX12_lays 0 = .ok (.aload_n 1, 1) := by decide +kernel
theorem dX12_lays_1 : decode cX12_lays 1 = .ok (.iload_n 2, 1) := by decide +kernel
theorem dX12_lays_2 : decode cX12_lays 2 = .ok (.aload_n 0, 1) := by decide +kernel
theorem dX12_lays_3 : decode cX12_lays 3 = .ok (.getfield 78, 3) := by decide +kernel
theorem dX12_lays_6 : decode cX12_lays 6 = .ok (.iastore, 1) := by decide +kernel
theorem dX12_lays_7 : decode cX12_lays 7 = .ok (.aload_n 1, 1) := by decide +kernel
theorem dX12_lays_8 : decode cX12_lays 8 = .ok (.iload_n 2, 1) := by decide +kernel
theorem dX12_lays_9 : decode cX12_lays 9 = .ok (.iconst 1, 1) := by decide +kernel
theorem dX12_lays_10 : decode cX12_lays 10 = .ok (.iadd, 1) := by decide +kernel
theorem dX12_lays_11 : decode cX12_lays 11 = .ok (.aload_n 0, 1) := by decide +kernel
theorem dX12_lays_12 : decode cX12_lays 12 = .ok (.getfield 81, 3) := by decide +kernel
theorem dX12_lays_15 : decode cX12_lays 15 = .ok (.iastore, 1) := by decide +kernel
theorem dX12_lays_16 : decode cX12_lays 16 = .ok (.iconst 0, 1) := by decide +kernel
theorem dX12_lays_17 : decode cX12_lays 17 = .ok (.istore_n 3, 1) := by decide +kernel
theorem dX12_lays_18 : decode cX12_lays 18 = .ok (.iload_n 3, 1) := by decide +kernel
theorem dX12_lays_19 : decode cX12_lays 19 = .ok (.bipush 6, 2) := by decide +kernel
theorem dX12_lays_21 : decode cX12_lays 21 = .ok (.if_icmp .ge 36, 3) := by decide +kernel
theorem dX12_lays_24 : decode cX12_lays 24 = .ok (.aload_n 1, 1) := by decide +kernel
theorem dX12_lays_25 : decode cX12_lays 25 = .ok (.iload_n 2, 1) := by decide +kernel
theorem dX12_lays_26 : decode cX12_lays 26 = .ok (.iconst 2, 1) := by decide +kernel
theorem dX12_lays_27 : decode cX12_lays 27 = .ok (.iadd, 1) := by decide +kernel
theorem dX12_lays_28 : decode cX12_lays 28 = .ok (.iload_n 3, 1) := by decide +kernel
theorem dX12_lays_29 : decode cX12_lays 29 = .ok (.iadd, 1) := by decide +kernel
theorem dX12_lays_30 : decode cX12_lays 30 = .ok (.aload_n 0, 1) := by decide +kernel
theorem dX12_lays_31 : decode cX12_lays 31 = .ok (.getfield 16, 3) := by decide +kernel
theorem dX12_lays_34 : decode cX12_lays 34 = .ok (.iload_n 3, 1) := by decide +kernel
theorem dX12_lays_35 : decode cX12_lays 35 = .ok (.iaload, 1) := by decide +kernel
theorem dX12_lays_36 : decode cX12_lays 36 = .ok (.iastore, 1) := by decide +kernel
theorem dX12_lays_37 : decode cX12_lays 37 = .ok (.aload_n 1, 1) := by decide +kernel
theorem dX12_lays_38 : decode cX12_lays 38 = .ok (.iload_n 2, 1) := by decide +kernel
theorem dX12_lays_39 : decode cX12_lays 39 = .ok (.bipush 8, 2) := by decide +kernel
theorem dX12_lays_41 : decode cX12_lays 41 = .ok (.iadd, 1) := by decide +kernel
theorem dX12_lays_42 : decode cX12_lays 42 = .ok (.iload_n 3, 1) := by decide +kernel
theorem dX12_lays_43 : decode cX12_lays 43 = .ok (.iadd, 1) := by decide +kernel
theorem dX12_lays_44 : decode cX12_lays 44 = .ok (.aload_n 0, 1) := by decide +kernel
theorem dX12_lays_45 : decode cX12_lays 45 = .ok (.getfield 22, 3) := by decide +kernel
theorem dX12_lays_48 : decode cX12_lays 48 = .ok (.iload_n 3, 1) := by decide +kernel
theorem dX12_lays_49 : decode cX12_lays 49 = .ok (.iaload, 1) := by decide +kernel
theorem dX12_lays_50 : decode cX12_lays 50 = .ok (.iastore, 1) := by decide +kernel
theorem dX12_lays_51 : decode cX12_lays 51 = .ok (.iinc 3 1, 3) := by decide +kernel
theorem dX12_lays_54 : decode cX12_lays 54 = .ok (.goto (-36), 3) := by decide +kernel
theorem dX12_lays_57 : decode cX12_lays 57 = .ok (.return_, 1) := by decide +kernel
theorem dX12_takes_0 : decode cX12_takes 0 = .ok (.aload_n 0, 1) := by decide +kernel
theorem dX12_takes_1 : decode cX12_takes 1 = .ok (.aload_n 1, 1) := by decide +kernel
theorem dX12_takes_2 : decode cX12_takes 2 = .ok (.iload_n 2, 1) := by decide +kernel
theorem dX12_takes_3 : decode cX12_takes 3 = .ok (.iaload, 1) := by decide +kernel
theorem dX12_takes_4 : decode cX12_takes 4 = .ok (.putfield 78, 3) := by decide +kernel
theorem dX12_takes_7 : decode cX12_takes 7 = .ok (.aload_n 0, 1) := by decide +kernel
theorem dX12_takes_8 : decode cX12_takes 8 = .ok (.aload_n 1, 1) := by decide +kernel
theorem dX12_takes_9 : decode cX12_takes 9 = .ok (.iload_n 2, 1) := by decide +kernel
theorem dX12_takes_10 : decode cX12_takes 10 = .ok (.iconst 1, 1) := by decide +kernel
theorem dX12_takes_11 : decode cX12_takes 11 = .ok (.iadd, 1) := by decide +kernel
theorem dX12_takes_12 : decode cX12_takes 12 = .ok (.iaload, 1) := by decide +kernel
theorem dX12_takes_13 : decode cX12_takes 13 = .ok (.putfield 81, 3) := by decide +kernel
theorem dX12_takes_16 : decode cX12_takes 16 = .ok (.iconst 0, 1) := by decide +kernel
theorem dX12_takes_17 : decode cX12_takes 17 = .ok (.istore_n 3, 1) := by decide +kernel
theorem dX12_takes_18 : decode cX12_takes 18 = .ok (.iload_n 3, 1) := by decide +kernel
theorem dX12_takes_19 : decode cX12_takes 19 = .ok (.bipush 6, 2) := by decide +kernel
theorem dX12_takes_21 : decode cX12_takes 21 = .ok (.if_icmp .ge 36, 3) := by decide +kernel
theorem dX12_takes_24 : decode cX12_takes 24 = .ok (.aload_n 0, 1) := by decide +kernel
theorem dX12_takes_25 : decode cX12_takes 25 = .ok (.getfield 16, 3) := by decide +kernel
theorem dX12_takes_28 : decode cX12_takes 28 = .ok (.iload_n 3, 1) := by decide +kernel
theorem dX12_takes_29 : decode cX12_takes 29 = .ok (.aload_n 1, 1) := by decide +kernel
theorem dX12_takes_30 : decode cX12_takes 30 = .ok (.iload_n 2, 1) := by decide +kernel
theorem dX12_takes_31 : decode cX12_takes 31 = .ok (.iconst 2, 1) := by decide +kernel
theorem dX12_takes_32 : decode cX12_takes 32 = .ok (.iadd, 1) := by decide +kernel
theorem dX12_takes_33 : decode cX12_takes 33 = .ok (.iload_n 3, 1) := by decide +kernel
theorem dX12_takes_34 : decode cX12_takes 34 = .ok (.iadd, 1) := by decide +kernel
theorem dX12_takes_35 : decode cX12_takes 35 = .ok (.iaload, 1) := by decide +kernel
theorem dX12_takes_36 : decode cX12_takes 36 = .ok (.iastore, 1) := by decide +kernel
theorem dX12_takes_37 : decode cX12_takes 37 = .ok (.aload_n 0, 1) := by decide +kernel
theorem dX12_takes_38 : decode cX12_takes 38 = .ok (.getfield 22, 3) := by decide +kernel
theorem dX12_takes_41 : decode cX12_takes 41 = .ok (.iload_n 3, 1) := by decide +kernel
theorem dX12_takes_42 : decode cX12_takes 42 = .ok (.aload_n 1, 1) := by decide +kernel
theorem dX12_takes_43 : decode cX12_takes 43 = .ok (.iload_n 2, 1) := by decide +kernel
theorem dX12_takes_44 : decode cX12_takes 44 = .ok (.bipush 8, 2) := by decide +kernel
theorem dX12_takes_46 : decode cX12_takes 46 = .ok (.iadd, 1) := by decide +kernel
theorem dX12_takes_47 : decode cX12_takes 47 = .ok (.iload_n 3, 1) := by decide +kernel
theorem dX12_takes_48 : decode cX12_takes 48 = .ok (.iadd, 1) := by decide +kernel
theorem dX12_takes_49 : decode cX12_takes 49 = .ok (.iaload, 1) := by decide +kernel
theorem dX12_takes_50 : decode cX12_takes 50 = .ok (.iastore, 1) := by decide +kernel
theorem dX12_takes_51 : decode cX12_takes 51 = .ok (.iinc 3 1, 3) := by decide +kernel
theorem dX12_takes_54 : decode cX12_takes 54 = .ok (.goto (-36), 3) := by decide +kernel
theorem dX12_takes_57 : decode cX12_takes 57 = .ok (.return_, 1) := by decide +kernel
theorem dX12_notes_0 : decode cX12_notes 0 = .ok (.aload_n 0, 1) := by decide +kernel
theorem dX12_notes_1 : decode cX12_notes 1 = .ok (.getfield 90, 3) := by decide +kernel
theorem dX12_notes_4 : decode cX12_notes 4 = .ok (.bipush 8, 2) := by decide +kernel
theorem dX12_notes_6 : decode cX12_notes 6 = .ok (.if_icmp .ne 42, 3) := by decide +kernel
theorem dX12_notes_9 : decode cX12_notes 9 = .ok (.iconst 0, 1) := by decide +kernel
theorem dX12_notes_10 : decode cX12_notes 10 = .ok (.istore_n 1, 1) := by decide +kernel
theorem dX12_notes_11 : decode cX12_notes 11 = .ok (.iload_n 1, 1) := by decide +kernel
theorem dX12_notes_12 : decode cX12_notes 12 = .ok (.bipush 98, 2) := by decide +kernel
theorem dX12_notes_14 : decode cX12_notes 14 = .ok (.if_icmp .ge 24, 3) := by decide +kernel
theorem dX12_notes_17 : decode cX12_notes 17 = .ok (.aload_n 0, 1) := by decide +kernel
theorem dX12_notes_18 : decode cX12_notes 18 = .ok (.getfield 43, 3) := by decide +kernel
theorem dX12_notes_21 : decode cX12_notes 21 = .ok (.iload_n 1, 1) := by decide +kernel
theorem dX12_notes_22 : decode cX12_notes 22 = .ok (.aload_n 0, 1) := by decide +kernel
theorem dX12_notes_23 : decode cX12_notes 23 = .ok (.getfield 43, 3) := by decide +kernel
theorem dX12_notes_26 : decode cX12_notes 26 = .ok (.iload_n 1, 1) := by decide +kernel
theorem dX12_notes_27 : decode cX12_notes 27 = .ok (.bipush 14, 2) := by decide +kernel
theorem dX12_notes_29 : decode cX12_notes 29 = .ok (.iadd, 1) := by decide +kernel
theorem dX12_notes_30 : decode cX12_notes 30 = .ok (.iaload, 1) := by decide +kernel
theorem dX12_notes_31 : decode cX12_notes 31 = .ok (.iastore, 1) := by decide +kernel
theorem dX12_notes_32 : decode cX12_notes 32 = .ok (.iinc 1 1, 3) := by decide +kernel
theorem dX12_notes_35 : decode cX12_notes 35 = .ok (.goto (-24), 3) := by decide +kernel
theorem dX12_notes_38 : decode cX12_notes 38 = .ok (.aload_n 0, 1) := by decide +kernel
theorem dX12_notes_39 : decode cX12_notes 39 = .ok (.dup, 1) := by decide +kernel
theorem dX12_notes_40 : decode cX12_notes 40 = .ok (.getfield 90, 3) := by decide +kernel
theorem dX12_notes_43 : decode cX12_notes 43 = .ok (.iconst 1, 1) := by decide +kernel
theorem dX12_notes_44 : decode cX12_notes 44 = .ok (.isub, 1) := by decide +kernel
theorem dX12_notes_45 : decode cX12_notes 45 = .ok (.putfield 90, 3) := by decide +kernel
theorem dX12_notes_48 : decode cX12_notes 48 = .ok (.aload_n 0, 1) := by decide +kernel
theorem dX12_notes_49 : decode cX12_notes 49 = .ok (.aload_n 0, 1) := by decide +kernel
theorem dX12_notes_50 : decode cX12_notes 50 = .ok (.getfield 43, 3) := by decide +kernel
theorem dX12_notes_53 : decode cX12_notes 53 = .ok (.bipush 14, 2) := by decide +kernel
theorem dX12_notes_55 : decode cX12_notes 55 = .ok (.aload_n 0, 1) := by decide +kernel
theorem dX12_notes_56 : decode cX12_notes 56 = .ok (.getfield 90, 3) := by decide +kernel
theorem dX12_notes_59 : decode cX12_notes 59 = .ok (.imul, 1) := by decide +kernel
theorem dX12_notes_60 : decode cX12_notes 60 = .ok (.invokevirtual 192, 3) := by decide +kernel
theorem dX12_notes_63 : decode cX12_notes 63 = .ok (.aload_n 0, 1) := by decide +kernel
theorem dX12_notes_64 : decode cX12_notes 64 = .ok (.dup, 1) := by decide +kernel
theorem dX12_notes_65 : decode cX12_notes 65 = .ok (.getfield 90, 3) := by decide +kernel
theorem dX12_notes_68 : decode cX12_notes 68 = .ok (.iconst 1, 1) := by decide +kernel
theorem dX12_notes_69 : decode cX12_notes 69 = .ok (.iadd, 1) := by decide +kernel
theorem dX12_notes_70 : decode cX12_notes 70 = .ok (.putfield 90, 3) := by decide +kernel
theorem dX12_notes_73 : decode cX12_notes 73 = .ok (.return_, 1) := by decide +kernel
theorem dX12_puts_0 : decode cX12_puts 0 = .ok (.aload_n 0, 1) := by decide +kernel
theorem dX12_puts_1 : decode cX12_puts 1 = .ok (.aload_n 0, 1) := by decide +kernel
theorem dX12_puts_2 : decode cX12_puts 2 = .ok (.getfield 46, 3) := by decide +kernel
theorem dX12_puts_5 : decode cX12_puts 5 = .ok (.iconst 0, 1) := by decide +kernel
theorem dX12_puts_6 : decode cX12_puts 6 = .ok (.invokevirtual 192, 3) := by decide +kernel
theorem dX12_puts_9 : decode cX12_puts 9 = .ok (.return_, 1) := by decide +kernel
theorem dX12_back_0 : decode cX12_back 0 = .ok (.aload_n 0, 1) := by decide +kernel
theorem dX12_back_1 : decode cX12_back 1 = .ok (.aload_n 0, 1) := by decide +kernel
theorem dX12_back_2 : decode cX12_back 2 = .ok (.getfield 46, 3) := by decide +kernel
theorem dX12_back_5 : decode cX12_back 5 = .ok (.iconst 0, 1) := by decide +kernel
theorem dX12_back_6 : decode cX12_back 6 = .ok (.invokevirtual 196, 3) := by decide +kernel
theorem dX12_back_9 : decode cX12_back 9 = .ok (.return_, 1) := by decide +kernel
theorem dX12_feed_0 : decode cX12_feed 0 = .ok (.aload_n 0, 1) := by decide +kernel
theorem dX12_feed_1 : decode cX12_feed 1 = .ok (.iload_n 1, 1) := by decide +kernel
theorem dX12_feed_2 : decode cX12_feed 2 = .ok (.invokevirtual 199, 3) := by decide +kernel
theorem dX12_feed_5 : decode cX12_feed 5 = .ok (.ifCond .ne 8, 3) := by decide +kernel
theorem dX12_feed_8 : decode cX12_feed 8 = .ok (.aload_n 0, 1) := by decide +kernel
theorem dX12_feed_9 : decode cX12_feed 9 = .ok (.invokevirtual 97, 3) := by decide +kernel
theorem dX12_feed_12 : decode cX12_feed 12 = .ok (.ireturn, 1) := by decide +kernel
theorem dX12_feed_13 : decode cX12_feed 13 = .ok (.aload_n 0, 1) := by decide +kernel
theorem dX12_feed_14 : decode cX12_feed 14 = .ok (.getfield 22, 3) := by decide +kernel
theorem dX12_feed_17 : decode cX12_feed 17 = .ok (.iload_n 1, 1) := by decide +kernel
theorem dX12_feed_18 : decode cX12_feed 18 = .ok (.iaload, 1) := by decide +kernel
theorem dX12_feed_19 : decode cX12_feed 19 = .ok (.iconst 1, 1) := by decide +kernel
theorem dX12_feed_20 : decode cX12_feed 20 = .ok (.if_icmp .ne 8, 3) := by decide +kernel
theorem dX12_feed_23 : decode cX12_feed 23 = .ok (.aload_n 0, 1) := by decide +kernel
theorem dX12_feed_24 : decode cX12_feed 24 = .ok (.invokevirtual 105, 3) := by decide +kernel
theorem dX12_feed_27 : decode cX12_feed 27 = .ok (.ireturn, 1) := by decide +kernel
theorem dX12_feed_28 : decode cX12_feed 28 = .ok (.aload_n 0, 1) := by decide +kernel
theorem dX12_feed_29 : decode cX12_feed 29 = .ok (.invokevirtual 202, 3) := by decide +kernel
theorem dX12_feed_32 : decode cX12_feed 32 = .ok (.aload_n 0, 1) := by decide +kernel
theorem dX12_feed_33 : decode cX12_feed 33 = .ok (.getfield 22, 3) := by decide +kernel
theorem dX12_feed_36 : decode cX12_feed 36 = .ok (.iload_n 1, 1) := by decide +kernel
theorem dX12_feed_37 : decode cX12_feed 37 = .ok (.iconst 1, 1) := by decide +kernel
theorem dX12_feed_38 : decode cX12_feed 38 = .ok (.iastore, 1) := by decide +kernel
theorem dX12_feed_39 : decode cX12_feed 39 = .ok (.iconst 1, 1) := by decide +kernel
theorem dX12_feed_40 : decode cX12_feed 40 = .ok (.ireturn, 1) := by decide +kernel
theorem dX12_watch_0 : decode cX12_watch 0 = .ok (.aload_n 0, 1) := by decide +kernel
theorem dX12_watch_1 : decode cX12_watch 1 = .ok (.invokevirtual 202, 3) := by decide +kernel
theorem dX12_watch_4 : decode cX12_watch 4 = .ok (.aload_n 0, 1) := by decide +kernel
theorem dX12_watch_5 : decode cX12_watch 5 = .ok (.invokevirtual 205, 3) := by decide +kernel
theorem dX12_watch_8 : decode cX12_watch 8 = .ok (.ireturn, 1) := by decide +kernel
theorem dX12_undo_0 : decode cX12_undo 0 = .ok (.aload_n 0, 1) := by decide +kernel
theorem dX12_undo_1 : decode cX12_undo 1 = .ok (.getfield 90, 3) := by decide +kernel
theorem dX12_undo_4 : decode cX12_undo 4 = .ok (.ifCond .ne 8, 3) := by decide +kernel
theorem dX12_undo_7 : decode cX12_undo 7 = .ok (.aload_n 0, 1) := by decide +kernel
theorem dX12_undo_8 : decode cX12_undo 8 = .ok (.invokevirtual 105, 3) := by decide +kernel
theorem dX12_undo_11 : decode cX12_undo 11 = .ok (.ireturn, 1) := by decide +kernel
theorem dX12_undo_12 : decode cX12_undo 12 = .ok (.aload_n 0, 1) := by decide +kernel
theorem dX12_undo_13 : decode cX12_undo 13 = .ok (.dup, 1) := by decide +kernel
theorem dX12_undo_14 : decode cX12_undo 14 = .ok (.getfield 90, 3) := by decide +kernel
theorem dX12_undo_17 : decode cX12_undo 17 = .ok (.iconst 1, 1) := by decide +kernel
theorem dX12_undo_18 : decode cX12_undo 18 = .ok (.isub, 1) := by decide +kernel
theorem dX12_undo_19 : decode cX12_undo 19 = .ok (.putfield 90, 3) := by decide +kernel
theorem dX12_undo_22 : decode cX12_undo 22 = .ok (.aload_n 0, 1) := by decide +kernel
theorem dX12_undo_23 : decode cX12_undo 23 = .ok (.aload_n 0, 1) := by decide +kernel
theorem dX12_undo_24 : decode cX12_undo 24 = .ok (.getfield 43, 3) := by decide +kernel
theorem dX12_undo_27 : decode cX12_undo 27 = .ok (.bipush 14, 2) := by decide +kernel
theorem dX12_undo_29 : decode cX12_undo 29 = .ok (.aload_n 0, 1) := by decide +kernel
theorem dX12_undo_30 : decode cX12_undo 30 = .ok (.getfield 90, 3) := by decide +kernel
theorem dX12_undo_33 : decode cX12_undo 33 = .ok (.imul, 1) := by decide +kernel
theorem dX12_undo_34 : decode cX12_undo 34 = .ok (.invokevirtual 196, 3) := by decide +kernel
theorem dX12_undo_37 : decode cX12_undo 37 = .ok (.aload_n 0, 1) := by decide +kernel
theorem dX12_undo_38 : decode cX12_undo 38 = .ok (.getfield 81, 3) := by decide +kernel
theorem dX12_undo_41 : decode cX12_undo 41 = .ok (.ireturn, 1) := by decide +kernel
theorem dX12_of_0 : decode cX12_of 0 = .ok (.aload_n 0, 1) := by decide +kernel
theorem dX12_of_1 : decode cX12_of 1 = .ok (.iload_n 1, 1) := by decide +kernel
theorem dX12_of_2 : decode cX12_of 2 = .ok (.invokevirtual 199, 3) := by decide +kernel
theorem dX12_of_5 : decode cX12_of 5 = .ok (.ifCond .eq 12, 3) := by decide +kernel
theorem dX12_of_8 : decode cX12_of 8 = .ok (.iload_n 2, 1) := by decide +kernel
theorem dX12_of_9 : decode cX12_of 9 = .ok (.iconst 0, 1) := by decide +kernel
theorem dX12_of_10 : decode cX12_of 10 = .ok (.iconst 4, 1) := by decide +kernel
theorem dX12_of_11 : decode cX12_of 11 = .ok (.invokestatic 93, 3) := by decide +kernel
theorem dX12_of_14 : decode cX12_of 14 = .ok (.ifCond .ne 8, 3) := by decide +kernel
theorem dX12_of_17 : decode cX12_of 17 = .ok (.aload_n 0, 1) := by decide +kernel
theorem dX12_of_18 : decode cX12_of 18 = .ok (.invokevirtual 208, 3) := by decide +kernel
theorem dX12_of_21 : decode cX12_of 21 = .ok (.ireturn, 1) := by decide +kernel
theorem dX12_of_22 : decode cX12_of 22 = .ok (.iload_n 2, 1) := by decide +kernel
theorem dX12_of_23 : decode cX12_of 23 = .ok (.ifCond .ne 12, 3) := by decide +kernel
theorem dX12_of_26 : decode cX12_of 26 = .ok (.aload_n 0, 1) := by decide +kernel
theorem dX12_of_27 : decode cX12_of 27 = .ok (.getfield 13, 3) := by decide +kernel
theorem dX12_of_30 : decode cX12_of 30 = .ok (.iload_n 1, 1) := by decide +kernel
theorem dX12_of_31 : decode cX12_of 31 = .ok (.iaload, 1) := by decide +kernel
theorem dX12_of_32 : decode cX12_of 32 = .ok (.goto 50, 3) := by decide +kernel
theorem dX12_of_35 : decode cX12_of 35 = .ok (.iload_n 2, 1) := by decide +kernel
theorem dX12_of_36 : decode cX12_of 36 = .ok (.iconst 1, 1) := by decide +kernel
theorem dX12_of_37 : decode cX12_of 37 = .ok (.if_icmp .ne 12, 3) := by decide +kernel
theorem dX12_of_40 : decode cX12_of 40 = .ok (.aload_n 0, 1) := by decide +kernel
theorem dX12_of_41 : decode cX12_of 41 = .ok (.getfield 16, 3) := by decide +kernel
theorem dX12_of_44 : decode cX12_of 44 = .ok (.iload_n 1, 1) := by decide +kernel
theorem dX12_of_45 : decode cX12_of 45 = .ok (.iaload, 1) := by decide +kernel
theorem dX12_of_46 : decode cX12_of 46 = .ok (.goto 36, 3) := by decide +kernel
theorem dX12_of_49 : decode cX12_of 49 = .ok (.iload_n 2, 1) := by decide +kernel
theorem dX12_of_50 : decode cX12_of 50 = .ok (.iconst 2, 1) := by decide +kernel
theorem dX12_of_51 : decode cX12_of 51 = .ok (.if_icmp .ne 12, 3) := by decide +kernel
theorem dX12_of_54 : decode cX12_of 54 = .ok (.aload_n 0, 1) := by decide +kernel
theorem dX12_of_55 : decode cX12_of 55 = .ok (.getfield 19, 3) := by decide +kernel
theorem dX12_of_58 : decode cX12_of 58 = .ok (.iload_n 1, 1) := by decide +kernel
theorem dX12_of_59 : decode cX12_of 59 = .ok (.iaload, 1) := by decide +kernel
theorem dX12_of_60 : decode cX12_of 60 = .ok (.goto 22, 3) := by decide +kernel
theorem dX12_of_63 : decode cX12_of 63 = .ok (.iload_n 2, 1) := by decide +kernel
theorem dX12_of_64 : decode cX12_of 64 = .ok (.iconst 3, 1) := by decide +kernel
theorem dX12_of_65 : decode cX12_of 65 = .ok (.if_icmp .ne 12, 3) := by decide +kernel
theorem dX12_of_68 : decode cX12_of 68 = .ok (.aload_n 0, 1) := by decide +kernel
theorem dX12_of_69 : decode cX12_of 69 = .ok (.getfield 22, 3) := by decide +kernel
theorem dX12_of_72 : decode cX12_of 72 = .ok (.iload_n 1, 1) := by decide +kernel
theorem dX12_of_73 : decode cX12_of 73 = .ok (.iaload, 1) := by decide +kernel
theorem dX12_of_74 : decode cX12_of 74 = .ok (.goto 8, 3) := by decide +kernel
theorem dX12_of_77 : decode cX12_of 77 = .ok (.aload_n 0, 1) := by decide +kernel
theorem dX12_of_78 : decode cX12_of 78 = .ok (.iload_n 1, 1) := by decide +kernel
theorem dX12_of_79 : decode cX12_of 79 = .ok (.invokevirtual 183, 3) := by decide +kernel
theorem dX12_of_82 : decode cX12_of 82 = .ok (.ireturn, 1) := by decide +kernel
theorem dX12_now_0 : decode cX12_now 0 = .ok (.iload_n 1, 1) := by decide +kernel
theorem dX12_now_1 : decode cX12_now 1 = .ok (.ifCond .ne 10, 3) := by decide +kernel
theorem dX12_now_4 : decode cX12_now 4 = .ok (.aload_n 0, 1) := by decide +kernel
theorem dX12_now_5 : decode cX12_now 5 = .ok (.getfield 78, 3) := by decide +kernel
theorem dX12_now_8 : decode cX12_now 8 = .ok (.goto 43, 3) := by decide +kernel
theorem dX12_now_11 : decode cX12_now 11 = .ok (.iload_n 1, 1) := by decide +kernel
theorem dX12_now_12 : decode cX12_now 12 = .ok (.iconst 1, 1) := by decide +kernel
theorem dX12_now_13 : decode cX12_now 13 = .ok (.if_icmp .ne 22, 3) := by decide +kernel
theorem dX12_now_16 : decode cX12_now 16 = .ok (.aload_n 0, 1) := by decide +kernel
theorem dX12_now_17 : decode cX12_now 17 = .ok (.aload_n 0, 1) := by decide +kernel
theorem dX12_now_18 : decode cX12_now 18 = .ok (.getfield 78, 3) := by decide +kernel
theorem dX12_now_21 : decode cX12_now 21 = .ok (.invokevirtual 101, 3) := by decide +kernel
theorem dX12_now_24 : decode cX12_now 24 = .ok (.ifCond .eq 7, 3) := by decide +kernel
theorem dX12_now_27 : decode cX12_now 27 = .ok (.iconst 1, 1) := by decide +kernel
theorem dX12_now_28 : decode cX12_now 28 = .ok (.goto 23, 3) := by decide +kernel
theorem dX12_now_31 : decode cX12_now 31 = .ok (.iconst 0, 1) := by decide +kernel
theorem dX12_now_32 : decode cX12_now 32 = .ok (.goto 19, 3) := by decide +kernel
theorem dX12_now_35 : decode cX12_now 35 = .ok (.iload_n 1, 1) := by decide +kernel
theorem dX12_now_36 : decode cX12_now 36 = .ok (.iconst 2, 1) := by decide +kernel
theorem dX12_now_37 : decode cX12_now 37 = .ok (.if_icmp .ne 10, 3) := by decide +kernel
theorem dX12_now_40 : decode cX12_now 40 = .ok (.aload_n 0, 1) := by decide +kernel
theorem dX12_now_41 : decode cX12_now 41 = .ok (.invokevirtual 186, 3) := by decide +kernel
theorem dX12_now_44 : decode cX12_now 44 = .ok (.goto 7, 3) := by decide +kernel
theorem dX12_now_47 : decode cX12_now 47 = .ok (.aload_n 0, 1) := by decide +kernel
theorem dX12_now_48 : decode cX12_now 48 = .ok (.invokevirtual 211, 3) := by decide +kernel
theorem dX12_now_51 : decode cX12_now 51 = .ok (.ireturn, 1) := by decide +kernel
theorem dX12_passes_0 : decode cX12_passes 0 = .ok (.iconst 0, 1) := by decide +kernel
theorem dX12_passes_1 : decode cX12_passes 1 = .ok (.istore_n 2, 1) := by decide +kernel
theorem dX12_passes_2 : decode cX12_passes 2 = .ok (.iload_n 2, 1) := by decide +kernel
theorem dX12_passes_3 : decode cX12_passes 3 = .ok (.iload_n 1, 1) := by decide +kernel
theorem dX12_passes_4 : decode cX12_passes 4 = .ok (.if_icmp .ge 14, 3) := by decide +kernel
theorem dX12_passes_7 : decode cX12_passes 7 = .ok (.aload_n 0, 1) := by decide +kernel
theorem dX12_passes_8 : decode cX12_passes 8 = .ok (.invokevirtual 205, 3) := by decide +kernel
theorem dX12_passes_11 : decode cX12_passes 11 = .ok (.pop, 1) := by decide +kernel
theorem dX12_passes_12 : decode cX12_passes 12 = .ok (.iinc 2 1, 3) := by decide +kernel
theorem dX12_passes_15 : decode cX12_passes 15 = .ok (.goto (-13), 3) := by decide +kernel
theorem dX12_passes_18 : decode cX12_passes 18 = .ok (.return_, 1) := by decide +kernel
theorem dX12_then_0 : decode cX12_then 0 = .ok (.iload_n 1, 1) := by decide +kernel
theorem dX12_then_1 : decode cX12_then 1 = .ok (.iconst 0, 1) := by decide +kernel
theorem dX12_then_2 : decode cX12_then 2 = .ok (.bipush 60, 2) := by decide +kernel
theorem dX12_then_4 : decode cX12_then 4 = .ok (.invokestatic 93, 3) := by decide +kernel
theorem dX12_then_7 : decode cX12_then 7 = .ok (.ifCond .eq 12, 3) := by decide +kernel
theorem dX12_then_10 : decode cX12_then 10 = .ok (.iload_n 2, 1) := by decide +kernel
theorem dX12_then_11 : decode cX12_then 11 = .ok (.iconst 0, 1) := by decide +kernel
theorem dX12_then_12 : decode cX12_then 12 = .ok (.iconst 1, 1) := by decide +kernel
theorem dX12_then_13 : decode cX12_then 13 = .ok (.invokestatic 93, 3) := by decide +kernel
theorem dX12_then_16 : decode cX12_then 16 = .ok (.ifCond .ne 8, 3) := by decide +kernel
theorem dX12_then_19 : decode cX12_then 19 = .ok (.aload_n 0, 1) := by decide +kernel
theorem dX12_then_20 : decode cX12_then 20 = .ok (.invokevirtual 211, 3) := by decide +kernel
theorem dX12_then_23 : decode cX12_then 23 = .ok (.ireturn, 1) := by decide +kernel
theorem dX12_then_24 : decode cX12_then 24 = .ok (.aload_n 0, 1) := by decide +kernel
theorem dX12_then_25 : decode cX12_then 25 = .ok (.invokevirtual 214, 3) := by decide +kernel
theorem dX12_then_28 : decode cX12_then 28 = .ok (.aload_n 0, 1) := by decide +kernel
theorem dX12_then_29 : decode cX12_then 29 = .ok (.iload_n 1, 1) := by decide +kernel
theorem dX12_then_30 : decode cX12_then 30 = .ok (.invokevirtual 217, 3) := by decide +kernel
theorem dX12_then_33 : decode cX12_then 33 = .ok (.iload_n 2, 1) := by decide +kernel
theorem dX12_then_34 : decode cX12_then 34 = .ok (.ifCond .ne 10, 3) := by decide +kernel
theorem dX12_then_37 : decode cX12_then 37 = .ok (.aload_n 0, 1) := by decide +kernel
theorem dX12_then_38 : decode cX12_then 38 = .ok (.getfield 78, 3) := by decide +kernel
theorem dX12_then_41 : decode cX12_then 41 = .ok (.goto 7, 3) := by decide +kernel
theorem dX12_then_44 : decode cX12_then 44 = .ok (.aload_n 0, 1) := by decide +kernel
theorem dX12_then_45 : decode cX12_then 45 = .ok (.invokevirtual 186, 3) := by decide +kernel
theorem dX12_then_48 : decode cX12_then 48 = .ok (.istore_n 3, 1) := by decide +kernel
theorem dX12_then_49 : decode cX12_then 49 = .ok (.aload_n 0, 1) := by decide +kernel
theorem dX12_then_50 : decode cX12_then 50 = .ok (.invokevirtual 221, 3) := by decide +kernel
theorem dX12_then_53 : decode cX12_then 53 = .ok (.iload_n 3, 1) := by decide +kernel
theorem dX12_then_54 : decode cX12_then 54 = .ok (.ireturn, 1) := by decide +kernel
theorem dX12_strikes_0 : decode cX12_strikes 0 = .ok (.aload_n 0, 1) := by decide +kernel
theorem dX12_strikes_1 : decode cX12_strikes 1 = .ok (.invokevirtual 214, 3) := by decide +kernel
theorem dX12_strikes_4 : decode cX12_strikes 4 = .ok (.iconst (-1), 1) := by decide +kernel
theorem dX12_strikes_5 : decode cX12_strikes 5 = .ok (.istore_n 1, 1) := by decide +kernel
theorem dX12_strikes_6 : decode cX12_strikes 6 = .ok (.iconst 1, 1) := by decide +kernel
theorem dX12_strikes_7 : decode cX12_strikes 7 = .ok (.istore_n 2, 1) := by decide +kernel
theorem dX12_strikes_8 : decode cX12_strikes 8 = .ok (.iload_n 2, 1) := by decide +kernel
theorem dX12_strikes_9 : decode cX12_strikes 9 = .ok (.bipush 60, 2) := by decide +kernel
theorem dX12_strikes_11 : decode cX12_strikes 11 = .ok (.if_icmp .gt 36, 3) := by decide +kernel
theorem dX12_strikes_14 : decode cX12_strikes 14 = .ok (.iload_n 1, 1) := by decide +kernel
theorem dX12_strikes_15 : decode cX12_strikes 15 = .ok (.iconst (-1), 1) := by decide +kernel
theorem dX12_strikes_16 : decode cX12_strikes 16 = .ok (.if_icmp .ne 31, 3) := by decide +kernel
theorem dX12_strikes_19 : decode cX12_strikes 19 = .ok (.aload_n 0, 1) := by decide +kernel
theorem dX12_strikes_20 : decode cX12_strikes 20 = .ok (.invokevirtual 205, 3) := by decide +kernel
theorem dX12_strikes_23 : decode cX12_strikes 23 = .ok (.pop, 1) := by decide +kernel
theorem dX12_strikes_24 : decode cX12_strikes 24 = .ok (.aload_n 0, 1) := by decide +kernel
theorem dX12_strikes_25 : decode cX12_strikes 25 = .ok (.aload_n 0, 1) := by decide +kernel
theorem dX12_strikes_26 : decode cX12_strikes 26 = .ok (.getfield 78, 3) := by decide +kernel
theorem dX12_strikes_29 : decode cX12_strikes 29 = .ok (.invokevirtual 101, 3) := by decide +kernel
theorem dX12_strikes_32 : decode cX12_strikes 32 = .ok (.ifCond .eq 7, 3) := by decide +kernel
theorem dX12_strikes_35 : decode cX12_strikes 35 = .ok (.iload_n 2, 1) := by decide +kernel
theorem dX12_strikes_36 : decode cX12_strikes 36 = .ok (.goto 4, 3) := by decide +kernel
theorem dX12_strikes_39 : decode cX12_strikes 39 = .ok (.iload_n 1, 1) := by decide +kernel
theorem dX12_strikes_40 : decode cX12_strikes 40 = .ok (.istore_n 1, 1) := by decide +kernel
theorem dX12_strikes_41 : decode cX12_strikes 41 = .ok (.iinc 2 1, 3) := by decide +kernel
theorem dX12_strikes_44 : decode cX12_strikes 44 = .ok (.goto (-36), 3) := by decide +kernel
theorem dX12_strikes_47 : decode cX12_strikes 47 = .ok (.aload_n 0, 1) := by decide +kernel
theorem dX12_strikes_48 : decode cX12_strikes 48 = .ok (.invokevirtual 221, 3) := by decide +kernel
theorem dX12_strikes_51 : decode cX12_strikes 51 = .ok (.iload_n 1, 1) := by decide +kernel
theorem dX12_strikes_52 : decode cX12_strikes 52 = .ok (.ireturn, 1) := by decide +kernel
theorem dX12_fedBy_0 : decode cX12_fedBy 0 = .ok (.iload_n 1, 1) := by decide +kernel
theorem dX12_fedBy_1 : decode cX12_fedBy 1 = .ok (.istore_n 3, 1) := by decide +kernel
theorem dX12_fedBy_2 : decode cX12_fedBy 2 = .ok (.iconst 0, 1) := by decide +kernel
theorem dX12_fedBy_3 : decode cX12_fedBy 3 = .ok (.istore 4, 2) := by decide +kernel
theorem dX12_fedBy_5 : decode cX12_fedBy 5 = .ok (.iload_n 2, 1) := by decide +kernel
theorem dX12_fedBy_6 : decode cX12_fedBy 6 = .ok (.iconst 1, 1) := by decide +kernel
theorem dX12_fedBy_7 : decode cX12_fedBy 7 = .ok (.isub, 1) := by decide +kernel
theorem dX12_fedBy_8 : decode cX12_fedBy 8 = .ok (.istore 5, 2) := by decide +kernel
theorem dX12_fedBy_10 : decode cX12_fedBy 10 = .ok (.iload 5, 2) := by decide +kernel
theorem dX12_fedBy_12 : decode cX12_fedBy 12 = .ok (.ifCond .lt 53, 3) := by decide +kernel
theorem dX12_fedBy_15 : decode cX12_fedBy 15 = .ok (.aload_n 0, 1) := by decide +kernel
theorem dX12_fedBy_16 : decode cX12_fedBy 16 = .ok (.getfield 49, 3) := by decide +kernel
theorem dX12_fedBy_19 : decode cX12_fedBy 19 = .ok (.iload 5, 2) := by decide +kernel
theorem dX12_fedBy_21 : decode cX12_fedBy 21 = .ok (.iload_n 3, 1) := by decide +kernel
theorem dX12_fedBy_22 : decode cX12_fedBy 22 = .ok (.aload_n 0, 1) := by decide +kernel
theorem dX12_fedBy_23 : decode cX12_fedBy 23 = .ok (.getfield 74, 3) := by decide +kernel
theorem dX12_fedBy_26 : decode cX12_fedBy 26 = .ok (.iconst 1, 1) := by decide +kernel
theorem dX12_fedBy_27 : decode cX12_fedBy 27 = .ok (.iadd, 1) := by decide +kernel
theorem dX12_fedBy_28 : decode cX12_fedBy 28 = .ok (.irem, 1) := by decide +kernel
theorem dX12_fedBy_29 : decode cX12_fedBy 29 = .ok (.iastore, 1) := by decide +kernel
theorem dX12_fedBy_30 : decode cX12_fedBy 30 = .ok (.iload_n 3, 1) := by decide +kernel
theorem dX12_fedBy_31 : decode cX12_fedBy 31 = .ok (.aload_n 0, 1) := by decide +kernel
theorem dX12_fedBy_32 : decode cX12_fedBy 32 = .ok (.getfield 74, 3) := by decide +kernel
theorem dX12_fedBy_35 : decode cX12_fedBy 35 = .ok (.iconst 1, 1) := by decide +kernel
theorem dX12_fedBy_36 : decode cX12_fedBy 36 = .ok (.iadd, 1) := by decide +kernel
theorem dX12_fedBy_37 : decode cX12_fedBy 37 = .ok (.idiv, 1) := by decide +kernel
theorem dX12_fedBy_38 : decode cX12_fedBy 38 = .ok (.istore_n 3, 1) := by decide +kernel
theorem dX12_fedBy_39 : decode cX12_fedBy 39 = .ok (.iload 4, 2) := by decide +kernel
theorem dX12_fedBy_41 : decode cX12_fedBy 41 = .ok (.aload_n 0, 1) := by decide +kernel
theorem dX12_fedBy_42 : decode cX12_fedBy 42 = .ok (.getfield 49, 3) := by decide +kernel
theorem dX12_fedBy_45 : decode cX12_fedBy 45 = .ok (.iload 5, 2) := by decide +kernel
theorem dX12_fedBy_47 : decode cX12_fedBy 47 = .ok (.iaload, 1) := by decide +kernel
theorem dX12_fedBy_48 : decode cX12_fedBy 48 = .ok (.ifCond .le 7, 3) := by decide +kernel
theorem dX12_fedBy_51 : decode cX12_fedBy 51 = .ok (.iconst 1, 1) := by decide +kernel
theorem dX12_fedBy_52 : decode cX12_fedBy 52 = .ok (.goto 4, 3) := by decide +kernel
theorem dX12_fedBy_55 : decode cX12_fedBy 55 = .ok (.iconst 0, 1) := by decide +kernel
theorem dX12_fedBy_56 : decode cX12_fedBy 56 = .ok (.iadd, 1) := by decide +kernel
theorem dX12_fedBy_57 : decode cX12_fedBy 57 = .ok (.istore 4, 2) := by decide +kernel
theorem dX12_fedBy_59 : decode cX12_fedBy 59 = .ok (.iinc 5 (-1), 3) := by decide +kernel
theorem dX12_fedBy_62 : decode cX12_fedBy 62 = .ok (.goto (-52), 3) := by decide +kernel
theorem dX12_fedBy_65 : decode cX12_fedBy 65 = .ok (.iload 4, 2) := by decide +kernel
theorem dX12_fedBy_67 : decode cX12_fedBy 67 = .ok (.ireturn, 1) := by decide +kernel
theorem dX12_placeBy_0 : decode cX12_placeBy 0 = .ok (.aload_n 0, 1) := by decide +kernel
theorem dX12_placeBy_1 : decode cX12_placeBy 1 = .ok (.invokevirtual 214, 3) := by decide +kernel
theorem dX12_placeBy_4 : decode cX12_placeBy 4 = .ok (.iconst 0, 1) := by decide +kernel
theorem dX12_placeBy_5 : decode cX12_placeBy 5 = .ok (.istore_n 2, 1) := by decide +kernel
theorem dX12_placeBy_6 : decode cX12_placeBy 6 = .ok (.iload_n 2, 1) := by decide +kernel
theorem dX12_placeBy_7 : decode cX12_placeBy 7 = .ok (.iload_n 1, 1) := by decide +kernel
theorem dX12_placeBy_8 : decode cX12_placeBy 8 = .ok (.if_icmp .ge 37, 3) := by decide +kernel
theorem dX12_placeBy_11 : decode cX12_placeBy 11 = .ok (.aload_n 0, 1) := by decide +kernel
theorem dX12_placeBy_12 : decode cX12_placeBy 12 = .ok (.getfield 49, 3) := by decide +kernel
theorem dX12_placeBy_15 : decode cX12_placeBy 15 = .ok (.iload_n 2, 1) := by decide +kernel
theorem dX12_placeBy_16 : decode cX12_placeBy 16 = .ok (.iaload, 1) := by decide +kernel
theorem dX12_placeBy_17 : decode cX12_placeBy 17 = .ok (.ifCond .le 17, 3) := by decide +kernel
theorem dX12_placeBy_20 : decode cX12_placeBy 20 = .ok (.aload_n 0, 1) := by decide +kernel
theorem dX12_placeBy_21 : decode cX12_placeBy 21 = .ok (.getfield 22, 3) := by decide +kernel
theorem dX12_placeBy_24 : decode cX12_placeBy 24 = .ok (.aload_n 0, 1) := by decide +kernel
theorem dX12_placeBy_25 : decode cX12_placeBy 25 = .ok (.getfield 49, 3) := by decide +kernel
theorem dX12_placeBy_28 : decode cX12_placeBy 28 = .ok (.iload_n 2, 1) := by decide +kernel
theorem dX12_placeBy_29 : decode cX12_placeBy 29 = .ok (.iaload, 1) := by decide +kernel
theorem dX12_placeBy_30 : decode cX12_placeBy 30 = .ok (.iconst 1, 1) := by decide +kernel
theorem dX12_placeBy_31 : decode cX12_placeBy 31 = .ok (.isub, 1) := by decide +kernel
theorem dX12_placeBy_32 : decode cX12_placeBy 32 = .ok (.iconst 1, 1) := by decide +kernel
theorem dX12_placeBy_33 : decode cX12_placeBy 33 = .ok (.iastore, 1) := by decide +kernel
theorem dX12_placeBy_34 : decode cX12_placeBy 34 = .ok (.aload_n 0, 1) := by decide +kernel
theorem dX12_placeBy_35 : decode cX12_placeBy 35 = .ok (.invokevirtual 205, 3) := by decide +kernel
theorem dX12_placeBy_38 : decode cX12_placeBy 38 = .ok (.pop, 1) := by decide +kernel
theorem dX12_placeBy_39 : decode cX12_placeBy 39 = .ok (.iinc 2 1, 3) := by decide +kernel
theorem dX12_placeBy_42 : decode cX12_placeBy 42 = .ok (.goto (-36), 3) := by decide +kernel
theorem dX12_placeBy_45 : decode cX12_placeBy 45 = .ok (.aload_n 0, 1) := by decide +kernel
theorem dX12_placeBy_46 : decode cX12_placeBy 46 = .ok (.getfield 78, 3) := by decide +kernel
theorem dX12_placeBy_49 : decode cX12_placeBy 49 = .ok (.istore_n 2, 1) := by decide +kernel
theorem dX12_placeBy_50 : decode cX12_placeBy 50 = .ok (.aload_n 0, 1) := by decide +kernel
theorem dX12_placeBy_51 : decode cX12_placeBy 51 = .ok (.invokevirtual 221, 3) := by decide +kernel
theorem dX12_placeBy_54 : decode cX12_placeBy 54 = .ok (.iload_n 2, 1) := by decide +kernel
theorem dX12_placeBy_55 : decode cX12_placeBy 55 = .ok (.ireturn, 1) := by decide +kernel
theorem dX12_peas_0 : decode cX12_peas 0 = .ok (.iload_n 1, 1) := by decide +kernel
theorem dX12_peas_1 : decode cX12_peas 1 = .ok (.bipush (-60), 2) := by decide +kernel
theorem dX12_peas_3 : decode cX12_peas 3 = .ok (.bipush 60, 2) := by decide +kernel
theorem dX12_peas_5 : decode cX12_peas 5 = .ok (.invokestatic 93, 3) := by decide +kernel
theorem dX12_peas_8 : decode cX12_peas 8 = .ok (.ifCond .eq 17, 3) := by decide +kernel
theorem dX12_peas_11 : decode cX12_peas 11 = .ok (.iload_n 2, 1) := by decide +kernel
theorem dX12_peas_12 : decode cX12_peas 12 = .ok (.iconst 1, 1) := by decide +kernel
theorem dX12_peas_13 : decode cX12_peas 13 = .ok (.iconst 4, 1) := by decide +kernel
theorem dX12_peas_14 : decode cX12_peas 14 = .ok (.invokestatic 93, 3) := by decide +kernel
theorem dX12_peas_17 : decode cX12_peas 17 = .ok (.ifCond .eq 8, 3) := by decide +kernel
theorem dX12_peas_20 : decode cX12_peas 20 = .ok (.iload_n 3, 1) := by decide +kernel
theorem dX12_peas_21 : decode cX12_peas 21 = .ok (.iconst (-1), 1) := by decide +kernel
theorem dX12_peas_22 : decode cX12_peas 22 = .ok (.if_icmp .ge 8, 3) := by decide +kernel
theorem dX12_peas_25 : decode cX12_peas 25 = .ok (.aload_n 0, 1) := by decide +kernel
theorem dX12_peas_26 : decode cX12_peas 26 = .ok (.invokevirtual 208, 3) := by decide +kernel
theorem dX12_peas_29 : decode cX12_peas 29 = .ok (.ireturn, 1) := by decide +kernel
theorem dX12_peas_30 : decode cX12_peas 30 = .ok (.iconst 1, 1) := by decide +kernel
theorem dX12_peas_31 : decode cX12_peas 31 = .ok (.istore 4, 2) := by decide +kernel
theorem dX12_peas_33 : decode cX12_peas 33 = .ok (.iconst 0, 1) := by decide +kernel
theorem dX12_peas_34 : decode cX12_peas 34 = .ok (.istore 5, 2) := by decide +kernel
theorem dX12_peas_36 : decode cX12_peas 36 = .ok (.iload 5, 2) := by decide +kernel
theorem dX12_peas_38 : decode cX12_peas 38 = .ok (.iload_n 2, 1) := by decide +kernel
theorem dX12_peas_39 : decode cX12_peas 39 = .ok (.if_icmp .ge 20, 3) := by decide +kernel
theorem dX12_peas_42 : decode cX12_peas 42 = .ok (.iload 4, 2) := by decide +kernel
theorem dX12_peas_44 : decode cX12_peas 44 = .ok (.aload_n 0, 1) := by decide +kernel
theorem dX12_peas_45 : decode cX12_peas 45 = .ok (.getfield 74, 3) := by decide +kernel
theorem dX12_peas_48 : decode cX12_peas 48 = .ok (.iconst 1, 1) := by decide +kernel
theorem dX12_peas_49 : decode cX12_peas 49 = .ok (.iadd, 1) := by decide +kernel
theorem dX12_peas_50 : decode cX12_peas 50 = .ok (.imul, 1) := by decide +kernel
theorem dX12_peas_51 : decode cX12_peas 51 = .ok (.istore 4, 2) := by decide +kernel
theorem dX12_peas_53 : decode cX12_peas 53 = .ok (.iinc 5 1, 3) := by decide +kernel
theorem dX12_peas_56 : decode cX12_peas 56 = .ok (.goto (-20), 3) := by decide +kernel
theorem dX12_peas_59 : decode cX12_peas 59 = .ok (.iconst 5, 1) := by decide +kernel
theorem dX12_peas_60 : decode cX12_peas 60 = .ok (.istore 5, 2) := by decide +kernel
theorem dX12_peas_62 : decode cX12_peas 62 = .ok (.iconst 0, 1) := by decide +kernel
theorem dX12_peas_63 : decode cX12_peas 63 = .ok (.istore 6, 2) := by decide +kernel
theorem dX12_peas_65 : decode cX12_peas 65 = .ok (.iload 6, 2) := by decide +kernel
theorem dX12_peas_67 : decode cX12_peas 67 = .ok (.iload 4, 2) := by decide +kernel
theorem dX12_peas_69 : decode cX12_peas 69 = .ok (.if_icmp .ge 67, 3) := by decide +kernel
theorem dX12_peas_72 : decode cX12_peas 72 = .ok (.aload_n 0, 1) := by decide +kernel
theorem dX12_peas_73 : decode cX12_peas 73 = .ok (.iload 6, 2) := by decide +kernel
theorem dX12_peas_75 : decode cX12_peas 75 = .ok (.iload_n 2, 1) := by decide +kernel
theorem dX12_peas_76 : decode cX12_peas 76 = .ok (.invokevirtual 224, 3) := by decide +kernel
theorem dX12_peas_79 : decode cX12_peas 79 = .ok (.istore 7, 2) := by decide +kernel
theorem dX12_peas_81 : decode cX12_peas 81 = .ok (.iload 7, 2) := by decide +kernel
theorem dX12_peas_83 : decode cX12_peas 83 = .ok (.iload 5, 2) := by decide +kernel
theorem dX12_peas_85 : decode cX12_peas 85 = .ok (.if_icmp .ge 45, 3) := by decide +kernel
theorem dX12_peas_88 : decode cX12_peas 88 = .ok (.aload_n 0, 1) := by decide +kernel
theorem dX12_peas_89 : decode cX12_peas 89 = .ok (.iload_n 2, 1) := by decide +kernel
theorem dX12_peas_90 : decode cX12_peas 90 = .ok (.invokevirtual 228, 3) := by decide +kernel
theorem dX12_peas_93 : decode cX12_peas 93 = .ok (.iload_n 1, 1) := by decide +kernel
theorem dX12_peas_94 : decode cX12_peas 94 = .ok (.if_icmp .ne 36, 3) := by decide +kernel
theorem dX12_peas_97 : decode cX12_peas 97 = .ok (.iload 7, 2) := by decide +kernel
theorem dX12_peas_99 : decode cX12_peas 99 = .ok (.istore 5, 2) := by decide +kernel
theorem dX12_peas_101 : decode cX12_peas 101 = .ok (.iconst 0, 1) := by decide +kernel
theorem dX12_peas_102 : decode cX12_peas 102 = .ok (.istore 8, 2) := by decide +kernel
theorem dX12_peas_104 : decode cX12_peas 104 = .ok (.iload 8, 2) := by decide +kernel
theorem dX12_peas_106 : decode cX12_peas 106 = .ok (.iload_n 2, 1) := by decide +kernel
theorem dX12_peas_107 : decode cX12_peas 107 = .ok (.if_icmp .ge 23, 3) := by decide +kernel
theorem dX12_peas_110 : decode cX12_peas 110 = .ok (.aload_n 0, 1) := by decide +kernel
theorem dX12_peas_111 : decode cX12_peas 111 = .ok (.getfield 52, 3) := by decide +kernel
theorem dX12_peas_114 : decode cX12_peas 114 = .ok (.iload 8, 2) := by decide +kernel
theorem dX12_peas_116 : decode cX12_peas 116 = .ok (.aload_n 0, 1) := by decide +kernel
theorem dX12_peas_117 : decode cX12_peas 117 = .ok (.getfield 49, 3) := by decide +kernel
theorem dX12_peas_120 : decode cX12_peas 120 = .ok (.iload 8, 2) := by decide +kernel
theorem dX12_peas_122 : decode cX12_peas 122 = .ok (.iaload, 1) := by decide +kernel
theorem dX12_peas_123 : decode cX12_peas 123 = .ok (.iastore, 1) := by decide +kernel
theorem dX12_peas_124 : decode cX12_peas 124 = .ok (.iinc 8 1, 3) := by decide +kernel
theorem dX12_peas_127 : decode cX12_peas 127 = .ok (.goto (-23), 3) := by decide +kernel
theorem dX12_peas_130 : decode cX12_peas 130 = .ok (.iinc 6 1, 3) := by decide +kernel
theorem dX12_peas_133 : decode cX12_peas 133 = .ok (.goto (-68), 3) := by decide +kernel
theorem dX12_peas_136 : decode cX12_peas 136 = .ok (.iload 5, 2) := by decide +kernel
theorem dX12_peas_138 : decode cX12_peas 138 = .ok (.iconst 5, 1) := by decide +kernel
theorem dX12_peas_139 : decode cX12_peas 139 = .ok (.if_icmp .ne 5, 3) := by decide +kernel
theorem dX12_peas_142 : decode cX12_peas 142 = .ok (.iconst (-1), 1) := by decide +kernel
theorem dX12_peas_143 : decode cX12_peas 143 = .ok (.ireturn, 1) := by decide +kernel
theorem dX12_peas_144 : decode cX12_peas 144 = .ok (.iload_n 3, 1) := by decide +kernel
theorem dX12_peas_145 : decode cX12_peas 145 = .ok (.iload_n 2, 1) := by decide +kernel
theorem dX12_peas_146 : decode cX12_peas 146 = .ok (.if_icmp .lt 6, 3) := by decide +kernel
theorem dX12_peas_149 : decode cX12_peas 149 = .ok (.bipush (-5), 2) := by decide +kernel
theorem dX12_peas_151 : decode cX12_peas 151 = .ok (.ireturn, 1) := by decide +kernel
theorem dX12_peas_152 : decode cX12_peas 152 = .ok (.iload_n 3, 1) := by decide +kernel
theorem dX12_peas_153 : decode cX12_peas 153 = .ok (.iconst (-1), 1) := by decide +kernel
theorem dX12_peas_154 : decode cX12_peas 154 = .ok (.if_icmp .ne 8, 3) := by decide +kernel
theorem dX12_peas_157 : decode cX12_peas 157 = .ok (.iload 5, 2) := by decide +kernel
theorem dX12_peas_159 : decode cX12_peas 159 = .ok (.goto 25, 3) := by decide +kernel
theorem dX12_peas_162 : decode cX12_peas 162 = .ok (.aload_n 0, 1) := by decide +kernel
theorem dX12_peas_163 : decode cX12_peas 163 = .ok (.getfield 52, 3) := by decide +kernel
theorem dX12_peas_166 : decode cX12_peas 166 = .ok (.iload_n 3, 1) := by decide +kernel
theorem dX12_peas_167 : decode cX12_peas 167 = .ok (.iaload, 1) := by decide +kernel
theorem dX12_peas_168 : decode cX12_peas 168 = .ok (.ifCond .ne 8, 3) := by decide +kernel
theorem dX12_peas_171 : decode cX12_peas 171 = .ok (.bipush 6, 2) := by decide +kernel
theorem dX12_peas_173 : decode cX12_peas 173 = .ok (.goto 11, 3) := by decide +kernel
theorem dX12_peas_176 : decode cX12_peas 176 = .ok (.aload_n 0, 1) := by decide +kernel
theorem dX12_peas_177 : decode cX12_peas 177 = .ok (.getfield 52, 3) := by decide +kernel
theorem dX12_peas_180 : decode cX12_peas 180 = .ok (.iload_n 3, 1) := by decide +kernel
theorem dX12_peas_181 : decode cX12_peas 181 = .ok (.iaload, 1) := by decide +kernel
theorem dX12_peas_182 : decode cX12_peas 182 = .ok (.iconst 1, 1) := by decide +kernel
theorem dX12_peas_183 : decode cX12_peas 183 = .ok (.isub, 1) := by decide +kernel
theorem dX12_peas_184 : decode cX12_peas 184 = .ok (.ireturn, 1) := by decide +kernel
theorem dX12_steersBy_0 : decode cX12_steersBy 0 = .ok (.iconst 0, 1) := by decide +kernel
theorem dX12_steersBy_1 : decode cX12_steersBy 1 = .ok (.istore_n 2, 1) := by decide +kernel
theorem dX12_steersBy_2 : decode cX12_steersBy 2 = .ok (.iconst 0, 1) := by decide +kernel
theorem dX12_steersBy_3 : decode cX12_steersBy 3 = .ok (.istore_n 3, 1) := by decide +kernel
theorem dX12_steersBy_4 : decode cX12_steersBy 4 = .ok (.iload_n 3, 1) := by decide +kernel
theorem dX12_steersBy_5 : decode cX12_steersBy 5 = .ok (.aload_n 0, 1) := by decide +kernel
theorem dX12_steersBy_6 : decode cX12_steersBy 6 = .ok (.getfield 74, 3) := by decide +kernel
theorem dX12_steersBy_9 : decode cX12_steersBy 9 = .ok (.if_icmp .ge 31, 3) := by decide +kernel
theorem dX12_steersBy_12 : decode cX12_steersBy 12 = .ok (.iload_n 2, 1) := by decide +kernel
theorem dX12_steersBy_13 : decode cX12_steersBy 13 = .ok (.aload_n 0, 1) := by decide +kernel
theorem dX12_steersBy_14 : decode cX12_steersBy 14 = .ok (.getfield 22, 3) := by decide +kernel
theorem dX12_steersBy_17 : decode cX12_steersBy 17 = .ok (.iload_n 3, 1) := by decide +kernel
theorem dX12_steersBy_18 : decode cX12_steersBy 18 = .ok (.iaload, 1) := by decide +kernel
theorem dX12_steersBy_19 : decode cX12_steersBy 19 = .ok (.iload_n 3, 1) := by decide +kernel
theorem dX12_steersBy_20 : decode cX12_steersBy 20 = .ok (.ishl, 1) := by decide +kernel
theorem dX12_steersBy_21 : decode cX12_steersBy 21 = .ok (.ior, 1) := by decide +kernel
theorem dX12_steersBy_22 : decode cX12_steersBy 22 = .ok (.istore_n 2, 1) := by decide +kernel
theorem dX12_steersBy_23 : decode cX12_steersBy 23 = .ok (.aload_n 0, 1) := by decide +kernel
theorem dX12_steersBy_24 : decode cX12_steersBy 24 = .ok (.getfield 22, 3) := by decide +kernel
theorem dX12_steersBy_27 : decode cX12_steersBy 27 = .ok (.iload_n 3, 1) := by decide +kernel
theorem dX12_steersBy_28 : decode cX12_steersBy 28 = .ok (.iload_n 1, 1) := by decide +kernel
theorem dX12_steersBy_29 : decode cX12_steersBy 29 = .ok (.iload_n 3, 1) := by decide +kernel
theorem dX12_steersBy_30 : decode cX12_steersBy 30 = .ok (.ishr, 1) := by decide +kernel
theorem dX12_steersBy_31 : decode cX12_steersBy 31 = .ok (.iconst 1, 1) := by decide +kernel
theorem dX12_steersBy_32 : decode cX12_steersBy 32 = .ok (.iand, 1) := by decide +kernel
theorem dX12_steersBy_33 : decode cX12_steersBy 33 = .ok (.iastore, 1) := by decide +kernel
theorem dX12_steersBy_34 : decode cX12_steersBy 34 = .ok (.iinc 3 1, 3) := by decide +kernel
theorem dX12_steersBy_37 : decode cX12_steersBy 37 = .ok (.goto (-33), 3) := by decide +kernel
theorem dX12_steersBy_40 : decode cX12_steersBy 40 = .ok (.aload_n 0, 1) := by decide +kernel
theorem dX12_steersBy_41 : decode cX12_steersBy 41 = .ok (.invokevirtual 186, 3) := by decide +kernel
theorem dX12_steersBy_44 : decode cX12_steersBy 44 = .ok (.istore_n 3, 1) := by decide +kernel
theorem dX12_steersBy_45 : decode cX12_steersBy 45 = .ok (.iconst 0, 1) := by decide +kernel
theorem dX12_steersBy_46 : decode cX12_steersBy 46 = .ok (.istore 4, 2) := by decide +kernel
theorem dX12_steersBy_48 : decode cX12_steersBy 48 = .ok (.iload 4, 2) := by decide +kernel
theorem dX12_steersBy_50 : decode cX12_steersBy 50 = .ok (.aload_n 0, 1) := by decide +kernel
theorem dX12_steersBy_51 : decode cX12_steersBy 51 = .ok (.getfield 74, 3) := by decide +kernel
theorem dX12_steersBy_54 : decode cX12_steersBy 54 = .ok (.if_icmp .ge 22, 3) := by decide +kernel
theorem dX12_steersBy_57 : decode cX12_steersBy 57 = .ok (.aload_n 0, 1) := by decide +kernel
theorem dX12_steersBy_58 : decode cX12_steersBy 58 = .ok (.getfield 22, 3) := by decide +kernel
theorem dX12_steersBy_61 : decode cX12_steersBy 61 = .ok (.iload 4, 2) := by decide +kernel
theorem dX12_steersBy_63 : decode cX12_steersBy 63 = .ok (.iload_n 2, 1) := by decide +kernel
theorem dX12_steersBy_64 : decode cX12_steersBy 64 = .ok (.iload 4, 2) := by decide +kernel
theorem dX12_steersBy_66 : decode cX12_steersBy 66 = .ok (.ishr, 1) := by decide +kernel
theorem dX12_steersBy_67 : decode cX12_steersBy 67 = .ok (.iconst 1, 1) := by decide +kernel
theorem dX12_steersBy_68 : decode cX12_steersBy 68 = .ok (.iand, 1) := by decide +kernel
theorem dX12_steersBy_69 : decode cX12_steersBy 69 = .ok (.iastore, 1) := by decide +kernel
theorem dX12_steersBy_70 : decode cX12_steersBy 70 = .ok (.iinc 4 1, 3) := by decide +kernel
theorem dX12_steersBy_73 : decode cX12_steersBy 73 = .ok (.goto (-25), 3) := by decide +kernel
theorem dX12_steersBy_76 : decode cX12_steersBy 76 = .ok (.iload_n 3, 1) := by decide +kernel
theorem dX12_steersBy_77 : decode cX12_steersBy 77 = .ok (.ireturn, 1) := by decide +kernel
theorem dX12_canNot_0 : decode cX12_canNot 0 = .ok (.aload_n 0, 1) := by decide +kernel
theorem dX12_canNot_1 : decode cX12_canNot 1 = .ok (.iload_n 1, 1) := by decide +kernel
theorem dX12_canNot_2 : decode cX12_canNot 2 = .ok (.invokevirtual 199, 3) := by decide +kernel
theorem dX12_canNot_5 : decode cX12_canNot 5 = .ok (.ifCond .ne 8, 3) := by decide +kernel
theorem dX12_canNot_8 : decode cX12_canNot 8 = .ok (.aload_n 0, 1) := by decide +kernel
theorem dX12_canNot_9 : decode cX12_canNot 9 = .ok (.invokevirtual 97, 3) := by decide +kernel
theorem dX12_canNot_12 : decode cX12_canNot 12 = .ok (.ireturn, 1) := by decide +kernel
theorem dX12_canNot_13 : decode cX12_canNot 13 = .ok (.aload_n 0, 1) := by decide +kernel
theorem dX12_canNot_14 : decode cX12_canNot 14 = .ok (.invokevirtual 214, 3) := by decide +kernel
theorem dX12_canNot_17 : decode cX12_canNot 17 = .ok (.iconst 0, 1) := by decide +kernel
theorem dX12_canNot_18 : decode cX12_canNot 18 = .ok (.istore_n 2, 1) := by decide +kernel
theorem dX12_canNot_19 : decode cX12_canNot 19 = .ok (.iconst 0, 1) := by decide +kernel
theorem dX12_canNot_20 : decode cX12_canNot 20 = .ok (.istore_n 3, 1) := by decide +kernel
theorem dX12_canNot_21 : decode cX12_canNot 21 = .ok (.iload_n 3, 1) := by decide +kernel
theorem dX12_canNot_22 : decode cX12_canNot 22 = .ok (.bipush 8, 2) := by decide +kernel
theorem dX12_canNot_24 : decode cX12_canNot 24 = .ok (.if_icmp .ge 74, 3) := by decide +kernel
theorem dX12_canNot_27 : decode cX12_canNot 27 = .ok (.iconst 0, 1) := by decide +kernel
theorem dX12_canNot_28 : decode cX12_canNot 28 = .ok (.istore 4, 2) := by decide +kernel
theorem dX12_canNot_30 : decode cX12_canNot 30 = .ok (.iconst 0, 1) := by decide +kernel
theorem dX12_canNot_31 : decode cX12_canNot 31 = .ok (.istore 5, 2) := by decide +kernel
theorem dX12_canNot_33 : decode cX12_canNot 33 = .ok (.iload 5, 2) := by decide +kernel
theorem dX12_canNot_35 : decode cX12_canNot 35 = .ok (.iconst 1, 1) := by decide +kernel
theorem dX12_canNot_36 : decode cX12_canNot 36 = .ok (.aload_n 0, 1) := by decide +kernel
theorem dX12_canNot_37 : decode cX12_canNot 37 = .ok (.getfield 74, 3) := by decide +kernel
theorem dX12_canNot_40 : decode cX12_canNot 40 = .ok (.ishl, 1) := by decide +kernel
theorem dX12_canNot_41 : decode cX12_canNot 41 = .ok (.if_icmp .ge 31, 3) := by decide +kernel
theorem dX12_canNot_44 : decode cX12_canNot 44 = .ok (.iload 4, 2) := by decide +kernel
theorem dX12_canNot_46 : decode cX12_canNot 46 = .ok (.ifCond .ne 13, 3) := by decide +kernel
theorem dX12_canNot_49 : decode cX12_canNot 49 = .ok (.aload_n 0, 1) := by decide +kernel
theorem dX12_canNot_50 : decode cX12_canNot 50 = .ok (.iload 5, 2) := by decide +kernel
theorem dX12_canNot_52 : decode cX12_canNot 52 = .ok (.invokevirtual 231, 3) := by decide +kernel
theorem dX12_canNot_55 : decode cX12_canNot 55 = .ok (.iload_n 1, 1) := by decide +kernel
theorem dX12_canNot_56 : decode cX12_canNot 56 = .ok (.if_icmp .ne 7, 3) := by decide +kernel
theorem dX12_canNot_59 : decode cX12_canNot 59 = .ok (.iconst 1, 1) := by decide +kernel
theorem dX12_canNot_60 : decode cX12_canNot 60 = .ok (.goto 4, 3) := by decide +kernel
theorem dX12_canNot_63 : decode cX12_canNot 63 = .ok (.iconst 0, 1) := by decide +kernel
theorem dX12_canNot_64 : decode cX12_canNot 64 = .ok (.istore 4, 2) := by decide +kernel
theorem dX12_canNot_66 : decode cX12_canNot 66 = .ok (.iinc 5 1, 3) := by decide +kernel
theorem dX12_canNot_69 : decode cX12_canNot 69 = .ok (.goto (-36), 3) := by decide +kernel
theorem dX12_canNot_72 : decode cX12_canNot 72 = .ok (.iload_n 2, 1) := by decide +kernel
theorem dX12_canNot_73 : decode cX12_canNot 73 = .ok (.iload 4, 2) := by decide +kernel
theorem dX12_canNot_75 : decode cX12_canNot 75 = .ok (.ifCond .eq 7, 3) := by decide +kernel
theorem dX12_canNot_78 : decode cX12_canNot 78 = .ok (.iconst 0, 1) := by decide +kernel
theorem dX12_canNot_79 : decode cX12_canNot 79 = .ok (.goto 6, 3) := by decide +kernel
theorem dX12_canNot_82 : decode cX12_canNot 82 = .ok (.iconst 1, 1) := by decide +kernel
theorem dX12_canNot_83 : decode cX12_canNot 83 = .ok (.iload_n 3, 1) := by decide +kernel
theorem dX12_canNot_84 : decode cX12_canNot 84 = .ok (.ishl, 1) := by decide +kernel
theorem dX12_canNot_85 : decode cX12_canNot 85 = .ok (.ior, 1) := by decide +kernel
theorem dX12_canNot_86 : decode cX12_canNot 86 = .ok (.istore_n 2, 1) := by decide +kernel
theorem dX12_canNot_87 : decode cX12_canNot 87 = .ok (.aload_n 0, 1) := by decide +kernel
theorem dX12_canNot_88 : decode cX12_canNot 88 = .ok (.invokevirtual 205, 3) := by decide +kernel
theorem dX12_canNot_91 : decode cX12_canNot 91 = .ok (.pop, 1) := by decide +kernel
theorem dX12_canNot_92 : decode cX12_canNot 92 = .ok (.iinc 3 1, 3) := by decide +kernel
theorem dX12_canNot_95 : decode cX12_canNot 95 = .ok (.goto (-74), 3) := by decide +kernel
theorem dX12_canNot_98 : decode cX12_canNot 98 = .ok (.aload_n 0, 1) := by decide +kernel
theorem dX12_canNot_99 : decode cX12_canNot 99 = .ok (.invokevirtual 221, 3) := by decide +kernel
theorem dX12_canNot_102 : decode cX12_canNot 102 = .ok (.iload_n 2, 1) := by decide +kernel
theorem dX12_canNot_103 : decode cX12_canNot 103 = .ok (.ireturn, 1) := by decide +kernel
theorem dX12_eat_0 : decode cX12_eat 0 = .ok (.aload_n 0, 1) := by decide +kernel
theorem dX12_eat_1 : decode cX12_eat 1 = .ok (.iload_n 1, 1) := by decide +kernel
theorem dX12_eat_2 : decode cX12_eat 2 = .ok (.invokevirtual 199, 3) := by decide +kernel
theorem dX12_eat_5 : decode cX12_eat 5 = .ok (.ifCond .eq 16, 3) := by decide +kernel
theorem dX12_eat_8 : decode cX12_eat 8 = .ok (.aload_n 0, 1) := by decide +kernel
theorem dX12_eat_9 : decode cX12_eat 9 = .ok (.iload_n 2, 1) := by decide +kernel
theorem dX12_eat_10 : decode cX12_eat 10 = .ok (.invokevirtual 199, 3) := by decide +kernel
theorem dX12_eat_13 : decode cX12_eat 13 = .ok (.ifCond .eq 8, 3) := by decide +kernel
theorem dX12_eat_16 : decode cX12_eat 16 = .ok (.iload_n 1, 1) := by decide +kernel
theorem dX12_eat_17 : decode cX12_eat 17 = .ok (.iload_n 2, 1) := by decide +kernel
theorem dX12_eat_18 : decode cX12_eat 18 = .ok (.if_icmp .ne 8, 3) := by decide +kernel
theorem dX12_eat_21 : decode cX12_eat 21 = .ok (.aload_n 0, 1) := by decide +kernel
theorem dX12_eat_22 : decode cX12_eat 22 = .ok (.invokevirtual 97, 3) := by decide +kernel
theorem dX12_eat_25 : decode cX12_eat 25 = .ok (.ireturn, 1) := by decide +kernel
theorem dX12_eat_26 : decode cX12_eat 26 = .ok (.iconst 0, 1) := by decide +kernel
theorem dX12_eat_27 : decode cX12_eat 27 = .ok (.istore_n 3, 1) := by decide +kernel
theorem dX12_eat_28 : decode cX12_eat 28 = .ok (.iconst 0, 1) := by decide +kernel
theorem dX12_eat_29 : decode cX12_eat 29 = .ok (.istore 4, 2) := by decide +kernel
theorem dX12_eat_31 : decode cX12_eat 31 = .ok (.iload 4, 2) := by decide +kernel
theorem dX12_eat_33 : decode cX12_eat 33 = .ok (.aload_n 0, 1) := by decide +kernel
theorem dX12_eat_34 : decode cX12_eat 34 = .ok (.getfield 74, 3) := by decide +kernel
theorem dX12_eat_37 : decode cX12_eat 37 = .ok (.if_icmp .ge 38, 3) := by decide +kernel
theorem dX12_eat_40 : decode cX12_eat 40 = .ok (.iload_n 3, 1) := by decide +kernel
theorem dX12_eat_41 : decode cX12_eat 41 = .ok (.iload 4, 2) := by decide +kernel
theorem dX12_eat_43 : decode cX12_eat 43 = .ok (.iload_n 1, 1) := by decide +kernel
theorem dX12_eat_44 : decode cX12_eat 44 = .ok (.if_icmp .eq 22, 3) := by decide +kernel
theorem dX12_eat_47 : decode cX12_eat 47 = .ok (.iload 4, 2) := by decide +kernel
theorem dX12_eat_49 : decode cX12_eat 49 = .ok (.iload_n 2, 1) := by decide +kernel
theorem dX12_eat_50 : decode cX12_eat 50 = .ok (.if_icmp .eq 16, 3) := by decide +kernel
theorem dX12_eat_53 : decode cX12_eat 53 = .ok (.aload_n 0, 1) := by decide +kernel
theorem dX12_eat_54 : decode cX12_eat 54 = .ok (.getfield 22, 3) := by decide +kernel
theorem dX12_eat_57 : decode cX12_eat 57 = .ok (.iload 4, 2) := by decide +kernel
theorem dX12_eat_59 : decode cX12_eat 59 = .ok (.iaload, 1) := by decide +kernel
theorem dX12_eat_60 : decode cX12_eat 60 = .ok (.iload 4, 2) := by decide +kernel
theorem dX12_eat_62 : decode cX12_eat 62 = .ok (.ishl, 1) := by decide +kernel
theorem dX12_eat_63 : decode cX12_eat 63 = .ok (.goto 4, 3) := by decide +kernel
theorem dX12_eat_66 : decode cX12_eat 66 = .ok (.iconst 0, 1) := by decide +kernel
theorem dX12_eat_67 : decode cX12_eat 67 = .ok (.ior, 1) := by decide +kernel
theorem dX12_eat_68 : decode cX12_eat 68 = .ok (.istore_n 3, 1) := by decide +kernel
theorem dX12_eat_69 : decode cX12_eat 69 = .ok (.iinc 4 1, 3) := by decide +kernel
theorem dX12_eat_72 : decode cX12_eat 72 = .ok (.goto (-41), 3) := by decide +kernel
theorem dX12_eat_75 : decode cX12_eat 75 = .ok (.iconst 0, 1) := by decide +kernel
theorem dX12_eat_76 : decode cX12_eat 76 = .ok (.istore 4, 2) := by decide +kernel
theorem dX12_eat_78 : decode cX12_eat 78 = .ok (.iconst 0, 1) := by decide +kernel
theorem dX12_eat_79 : decode cX12_eat 79 = .ok (.istore 5, 2) := by decide +kernel
theorem dX12_eat_81 : decode cX12_eat 81 = .ok (.iload 5, 2) := by decide +kernel
theorem dX12_eat_83 : decode cX12_eat 83 = .ok (.iconst 4, 1) := by decide +kernel
theorem dX12_eat_84 : decode cX12_eat 84 = .ok (.if_icmp .ge 125, 3) := by decide +kernel
theorem dX12_eat_87 : decode cX12_eat 87 = .ok (.aload_n 0, 1) := by decide +kernel
theorem dX12_eat_88 : decode cX12_eat 88 = .ok (.iload_n 3, 1) := by decide +kernel
theorem dX12_eat_89 : decode cX12_eat 89 = .ok (.iload 5, 2) := by decide +kernel
theorem dX12_eat_91 : decode cX12_eat 91 = .ok (.iconst 2, 1) := by decide +kernel
theorem dX12_eat_92 : decode cX12_eat 92 = .ok (.irem, 1) := by decide +kernel
theorem dX12_eat_93 : decode cX12_eat 93 = .ok (.iload_n 1, 1) := by decide +kernel
theorem dX12_eat_94 : decode cX12_eat 94 = .ok (.ishl, 1) := by decide +kernel
theorem dX12_eat_95 : decode cX12_eat 95 = .ok (.ior, 1) := by decide +kernel
theorem dX12_eat_96 : decode cX12_eat 96 = .ok (.iload 5, 2) := by decide +kernel
theorem dX12_eat_98 : decode cX12_eat 98 = .ok (.iconst 2, 1) := by decide +kernel
theorem dX12_eat_99 : decode cX12_eat 99 = .ok (.idiv, 1) := by decide +kernel
theorem dX12_eat_100 : decode cX12_eat 100 = .ok (.iload_n 2, 1) := by decide +kernel
theorem dX12_eat_101 : decode cX12_eat 101 = .ok (.ishl, 1) := by decide +kernel
theorem dX12_eat_102 : decode cX12_eat 102 = .ok (.ior, 1) := by decide +kernel
theorem dX12_eat_103 : decode cX12_eat 103 = .ok (.invokevirtual 231, 3) := by decide +kernel
theorem dX12_eat_106 : decode cX12_eat 106 = .ok (.istore 6, 2) := by decide +kernel
theorem dX12_eat_108 : decode cX12_eat 108 = .ok (.aload_n 0, 1) := by decide +kernel
theorem dX12_eat_109 : decode cX12_eat 109 = .ok (.iload_n 3, 1) := by decide +kernel
theorem dX12_eat_110 : decode cX12_eat 110 = .ok (.iconst 1, 1) := by decide +kernel
theorem dX12_eat_111 : decode cX12_eat 111 = .ok (.iload 5, 2) := by decide +kernel
theorem dX12_eat_113 : decode cX12_eat 113 = .ok (.iconst 2, 1) := by decide +kernel
theorem dX12_eat_114 : decode cX12_eat 114 = .ok (.irem, 1) := by decide +kernel
theorem dX12_eat_115 : decode cX12_eat 115 = .ok (.isub, 1) := by decide +kernel
theorem dX12_eat_116 : decode cX12_eat 116 = .ok (.iload_n 1, 1) := by decide +kernel
theorem dX12_eat_117 : decode cX12_eat 117 = .ok (.ishl, 1) := by decide +kernel
theorem dX12_eat_118 : decode cX12_eat 118 = .ok (.ior, 1) := by decide +kernel
theorem dX12_eat_119 : decode cX12_eat 119 = .ok (.iload 5, 2) := by decide +kernel
theorem dX12_eat_121 : decode cX12_eat 121 = .ok (.iconst 2, 1) := by decide +kernel
theorem dX12_eat_122 : decode cX12_eat 122 = .ok (.idiv, 1) := by decide +kernel
theorem dX12_eat_123 : decode cX12_eat 123 = .ok (.iload_n 2, 1) := by decide +kernel
theorem dX12_eat_124 : decode cX12_eat 124 = .ok (.ishl, 1) := by decide +kernel
theorem dX12_eat_125 : decode cX12_eat 125 = .ok (.ior, 1) := by decide +kernel
theorem dX12_eat_126 : decode cX12_eat 126 = .ok (.invokevirtual 231, 3) := by decide +kernel
theorem dX12_eat_129 : decode cX12_eat 129 = .ok (.istore 7, 2) := by decide +kernel
theorem dX12_eat_131 : decode cX12_eat 131 = .ok (.aload_n 0, 1) := by decide +kernel
theorem dX12_eat_132 : decode cX12_eat 132 = .ok (.iload_n 3, 1) := by decide +kernel
theorem dX12_eat_133 : decode cX12_eat 133 = .ok (.iload 5, 2) := by decide +kernel
theorem dX12_eat_135 : decode cX12_eat 135 = .ok (.iconst 2, 1) := by decide +kernel
theorem dX12_eat_136 : decode cX12_eat 136 = .ok (.irem, 1) := by decide +kernel
theorem dX12_eat_137 : decode cX12_eat 137 = .ok (.iload_n 1, 1) := by decide +kernel
theorem dX12_eat_138 : decode cX12_eat 138 = .ok (.ishl, 1) := by decide +kernel
theorem dX12_eat_139 : decode cX12_eat 139 = .ok (.ior, 1) := by decide +kernel
theorem dX12_eat_140 : decode cX12_eat 140 = .ok (.iconst 1, 1) := by decide +kernel
theorem dX12_eat_141 : decode cX12_eat 141 = .ok (.iload 5, 2) := by decide +kernel
theorem dX12_eat_143 : decode cX12_eat 143 = .ok (.iconst 2, 1) := by decide +kernel
theorem dX12_eat_144 : decode cX12_eat 144 = .ok (.idiv, 1) := by decide +kernel
theorem dX12_eat_145 : decode cX12_eat 145 = .ok (.isub, 1) := by decide +kernel
theorem dX12_eat_146 : decode cX12_eat 146 = .ok (.iload_n 2, 1) := by decide +kernel
theorem dX12_eat_147 : decode cX12_eat 147 = .ok (.ishl, 1) := by decide +kernel
theorem dX12_eat_148 : decode cX12_eat 148 = .ok (.ior, 1) := by decide +kernel
theorem dX12_eat_149 : decode cX12_eat 149 = .ok (.invokevirtual 231, 3) := by decide +kernel
theorem dX12_eat_152 : decode cX12_eat 152 = .ok (.istore 8, 2) := by decide +kernel
theorem dX12_eat_154 : decode cX12_eat 154 = .ok (.iload 6, 2) := by decide +kernel
theorem dX12_eat_156 : decode cX12_eat 156 = .ok (.iload_n 1, 1) := by decide +kernel
theorem dX12_eat_157 : decode cX12_eat 157 = .ok (.if_icmp .ne 9, 3) := by decide +kernel
theorem dX12_eat_160 : decode cX12_eat 160 = .ok (.iload 7, 2) := by decide +kernel
theorem dX12_eat_162 : decode cX12_eat 162 = .ok (.iload_n 1, 1) := by decide +kernel
theorem dX12_eat_163 : decode cX12_eat 163 = .ok (.if_icmp .ne 19, 3) := by decide +kernel
theorem dX12_eat_166 : decode cX12_eat 166 = .ok (.iload 6, 2) := by decide +kernel
theorem dX12_eat_168 : decode cX12_eat 168 = .ok (.iload_n 2, 1) := by decide +kernel
theorem dX12_eat_169 : decode cX12_eat 169 = .ok (.if_icmp .ne 9, 3) := by decide +kernel
theorem dX12_eat_172 : decode cX12_eat 172 = .ok (.iload 8, 2) := by decide +kernel
theorem dX12_eat_174 : decode cX12_eat 174 = .ok (.iload_n 2, 1) := by decide +kernel
theorem dX12_eat_175 : decode cX12_eat 175 = .ok (.if_icmp .ne 7, 3) := by decide +kernel
theorem dX12_eat_178 : decode cX12_eat 178 = .ok (.iconst 1, 1) := by decide +kernel
theorem dX12_eat_179 : decode cX12_eat 179 = .ok (.goto 4, 3) := by decide +kernel
theorem dX12_eat_182 : decode cX12_eat 182 = .ok (.iconst 0, 1) := by decide +kernel
theorem dX12_eat_183 : decode cX12_eat 183 = .ok (.istore 9, 2) := by decide +kernel
theorem dX12_eat_185 : decode cX12_eat 185 = .ok (.iload 4, 2) := by decide +kernel
theorem dX12_eat_187 : decode cX12_eat 187 = .ok (.iload 9, 2) := by decide +kernel
theorem dX12_eat_189 : decode cX12_eat 189 = .ok (.ifCond .eq 10, 3) := by decide +kernel
theorem dX12_eat_192 : decode cX12_eat 192 = .ok (.iconst 1, 1) := by decide +kernel
theorem dX12_eat_193 : decode cX12_eat 193 = .ok (.iload 5, 2) := by decide +kernel
theorem dX12_eat_195 : decode cX12_eat 195 = .ok (.ishl, 1) := by decide +kernel
theorem dX12_eat_196 : decode cX12_eat 196 = .ok (.goto 4, 3) := by decide +kernel
theorem dX12_eat_199 : decode cX12_eat 199 = .ok (.iconst 0, 1) := by decide +kernel
theorem dX12_eat_200 : decode cX12_eat 200 = .ok (.ior, 1) := by decide +kernel
theorem dX12_eat_201 : decode cX12_eat 201 = .ok (.istore 4, 2) := by decide +kernel
theorem dX12_eat_203 : decode cX12_eat 203 = .ok (.iinc 5 1, 3) := by decide +kernel
theorem dX12_eat_206 : decode cX12_eat 206 = .ok (.goto (-125), 3) := by decide +kernel
theorem dX12_eat_209 : decode cX12_eat 209 = .ok (.iload 4, 2) := by decide +kernel
theorem dX12_eat_211 : decode cX12_eat 211 = .ok (.ireturn, 1) := by decide +kernel
theorem dX12_seen_0 : decode cX12_seen 0 = .ok (.iload_n 1, 1) := by decide +kernel
theorem dX12_seen_1 : decode cX12_seen 1 = .ok (.iconst 0, 1) := by decide +kernel
theorem dX12_seen_2 : decode cX12_seen 2 = .ok (.bipush 20, 2) := by decide +kernel
theorem dX12_seen_4 : decode cX12_seen 4 = .ok (.invokestatic 93, 3) := by decide +kernel
theorem dX12_seen_7 : decode cX12_seen 7 = .ok (.ifCond .eq 14, 3) := by decide +kernel
theorem dX12_seen_10 : decode cX12_seen 10 = .ok (.iload_n 2, 1) := by decide +kernel
theorem dX12_seen_11 : decode cX12_seen 11 = .ok (.bipush (-60), 2) := by decide +kernel
theorem dX12_seen_13 : decode cX12_seen 13 = .ok (.bipush 60, 2) := by decide +kernel
theorem dX12_seen_15 : decode cX12_seen 15 = .ok (.invokestatic 93, 3) := by decide +kernel
theorem dX12_seen_18 : decode cX12_seen 18 = .ok (.ifCond .ne 8, 3) := by decide +kernel
theorem dX12_seen_21 : decode cX12_seen 21 = .ok (.aload_n 0, 1) := by decide +kernel
theorem dX12_seen_22 : decode cX12_seen 22 = .ok (.invokevirtual 97, 3) := by decide +kernel
theorem dX12_seen_25 : decode cX12_seen 25 = .ok (.ireturn, 1) := by decide +kernel
theorem dX12_seen_26 : decode cX12_seen 26 = .ok (.aload_n 0, 1) := by decide +kernel
theorem dX12_seen_27 : decode cX12_seen 27 = .ok (.getfield 87, 3) := by decide +kernel
theorem dX12_seen_30 : decode cX12_seen 30 = .ok (.bipush 6, 2) := by decide +kernel
theorem dX12_seen_32 : decode cX12_seen 32 = .ok (.if_icmp .ne 8, 3) := by decide +kernel
theorem dX12_seen_35 : decode cX12_seen 35 = .ok (.aload_n 0, 1) := by decide +kernel
theorem dX12_seen_36 : decode cX12_seen 36 = .ok (.invokevirtual 108, 3) := by decide +kernel
theorem dX12_seen_39 : decode cX12_seen 39 = .ok (.ireturn, 1) := by decide +kernel
theorem dX12_seen_40 : decode cX12_seen 40 = .ok (.aload_n 0, 1) := by decide +kernel
theorem dX12_seen_41 : decode cX12_seen 41 = .ok (.getfield 28, 3) := by decide +kernel
theorem dX12_seen_44 : decode cX12_seen 44 = .ok (.aload_n 0, 1) := by decide +kernel
theorem dX12_seen_45 : decode cX12_seen 45 = .ok (.getfield 87, 3) := by decide +kernel
theorem dX12_seen_48 : decode cX12_seen 48 = .ok (.iload_n 1, 1) := by decide +kernel
theorem dX12_seen_49 : decode cX12_seen 49 = .ok (.iastore, 1) := by decide +kernel
theorem dX12_seen_50 : decode cX12_seen 50 = .ok (.aload_n 0, 1) := by decide +kernel
theorem dX12_seen_51 : decode cX12_seen 51 = .ok (.getfield 31, 3) := by decide +kernel
theorem dX12_seen_54 : decode cX12_seen 54 = .ok (.aload_n 0, 1) := by decide +kernel
theorem dX12_seen_55 : decode cX12_seen 55 = .ok (.getfield 87, 3) := by decide +kernel
theorem dX12_seen_58 : decode cX12_seen 58 = .ok (.iload_n 2, 1) := by decide +kernel
theorem dX12_seen_59 : decode cX12_seen 59 = .ok (.iastore, 1) := by decide +kernel
theorem dX12_seen_60 : decode cX12_seen 60 = .ok (.aload_n 0, 1) := by decide +kernel
theorem dX12_seen_61 : decode cX12_seen 61 = .ok (.dup, 1) := by decide +kernel
theorem dX12_seen_62 : decode cX12_seen 62 = .ok (.getfield 87, 3) := by decide +kernel
theorem dX12_seen_65 : decode cX12_seen 65 = .ok (.iconst 1, 1) := by decide +kernel
theorem dX12_seen_66 : decode cX12_seen 66 = .ok (.iadd, 1) := by decide +kernel
theorem dX12_seen_67 : decode cX12_seen 67 = .ok (.putfield 87, 3) := by decide +kernel
theorem dX12_seen_70 : decode cX12_seen 70 = .ok (.aload_n 0, 1) := by decide +kernel
theorem dX12_seen_71 : decode cX12_seen 71 = .ok (.getfield 87, 3) := by decide +kernel
theorem dX12_seen_74 : decode cX12_seen 74 = .ok (.ireturn, 1) := by decide +kernel
theorem dX12_forget_0 : decode cX12_forget 0 = .ok (.aload_n 0, 1) := by decide +kernel
theorem dX12_forget_1 : decode cX12_forget 1 = .ok (.getfield 87, 3) := by decide +kernel
theorem dX12_forget_4 : decode cX12_forget 4 = .ok (.istore_n 1, 1) := by decide +kernel
theorem dX12_forget_5 : decode cX12_forget 5 = .ok (.aload_n 0, 1) := by decide +kernel
theorem dX12_forget_6 : decode cX12_forget 6 = .ok (.iconst 0, 1) := by decide +kernel
theorem dX12_forget_7 : decode cX12_forget 7 = .ok (.putfield 87, 3) := by decide +kernel
theorem dX12_forget_10 : decode cX12_forget 10 = .ok (.iload_n 1, 1) := by decide +kernel
theorem dX12_forget_11 : decode cX12_forget 11 = .ok (.ireturn, 1) := by decide +kernel
theorem dX12_setWay_0 : decode cX12_setWay 0 = .ok (.aload_n 0, 1) := by decide +kernel
theorem dX12_setWay_1 : decode cX12_setWay 1 = .ok (.invokevirtual 214, 3) := by decide +kernel
theorem dX12_setWay_4 : decode cX12_setWay 4 = .ok (.iconst 0, 1) := by decide +kernel
theorem dX12_setWay_5 : decode cX12_setWay 5 = .ok (.istore_n 1, 1) := by decide +kernel
theorem dX12_setWay_6 : decode cX12_setWay 6 = .ok (.iload_n 1, 1) := by decide +kernel
theorem dX12_setWay_7 : decode cX12_setWay 7 = .ok (.bipush 20, 2) := by decide +kernel
theorem dX12_setWay_9 : decode cX12_setWay 9 = .ok (.if_icmp .gt 24, 3) := by decide +kernel
theorem dX12_setWay_12 : decode cX12_setWay 12 = .ok (.aload_n 0, 1) := by decide +kernel
theorem dX12_setWay_13 : decode cX12_setWay 13 = .ok (.getfield 55, 3) := by decide +kernel
theorem dX12_setWay_16 : decode cX12_setWay 16 = .ok (.iload_n 1, 1) := by decide +kernel
theorem dX12_setWay_17 : decode cX12_setWay 17 = .ok (.aload_n 0, 1) := by decide +kernel
theorem dX12_setWay_18 : decode cX12_setWay 18 = .ok (.getfield 78, 3) := by decide +kernel
theorem dX12_setWay_21 : decode cX12_setWay 21 = .ok (.iastore, 1) := by decide +kernel
theorem dX12_setWay_22 : decode cX12_setWay 22 = .ok (.aload_n 0, 1) := by decide +kernel
theorem dX12_setWay_23 : decode cX12_setWay 23 = .ok (.invokevirtual 205, 3) := by decide +kernel
theorem dX12_setWay_26 : decode cX12_setWay 26 = .ok (.pop, 1) := by decide +kernel
theorem dX12_setWay_27 : decode cX12_setWay 27 = .ok (.iinc 1 1, 3) := by decide +kernel
theorem dX12_setWay_30 : decode cX12_setWay 30 = .ok (.goto (-24), 3) := by decide +kernel
theorem dX12_setWay_33 : decode cX12_setWay 33 = .ok (.aload_n 0, 1) := by decide +kernel
theorem dX12_setWay_34 : decode cX12_setWay 34 = .ok (.invokevirtual 221, 3) := by decide +kernel
theorem dX12_setWay_37 : decode cX12_setWay 37 = .ok (.return_, 1) := by decide +kernel
theorem dX12_isSeen_0 : decode cX12_isSeen 0 = .ok (.iconst 1, 1) := by decide +kernel
theorem dX12_isSeen_1 : decode cX12_isSeen 1 = .ok (.istore_n 3, 1) := by decide +kernel
theorem dX12_isSeen_2 : decode cX12_isSeen 2 = .ok (.iconst 0, 1) := by decide +kernel
theorem dX12_isSeen_3 : decode cX12_isSeen 3 = .ok (.istore 4, 2) := by decide +kernel
theorem dX12_isSeen_5 : decode cX12_isSeen 5 = .ok (.iload 4, 2) := by decide +kernel
theorem dX12_isSeen_7 : decode cX12_isSeen 7 = .ok (.aload_n 0, 1) := by decide +kernel
theorem dX12_isSeen_8 : decode cX12_isSeen 8 = .ok (.getfield 87, 3) := by decide +kernel
theorem dX12_isSeen_11 : decode cX12_isSeen 11 = .ok (.if_icmp .ge 62, 3) := by decide +kernel
theorem dX12_isSeen_14 : decode cX12_isSeen 14 = .ok (.aload_n 0, 1) := by decide +kernel
theorem dX12_isSeen_15 : decode cX12_isSeen 15 = .ok (.getfield 55, 3) := by decide +kernel
theorem dX12_isSeen_18 : decode cX12_isSeen 18 = .ok (.aload_n 0, 1) := by decide +kernel
theorem dX12_isSeen_19 : decode cX12_isSeen 19 = .ok (.getfield 28, 3) := by decide +kernel
theorem dX12_isSeen_22 : decode cX12_isSeen 22 = .ok (.iload 4, 2) := by decide +kernel
theorem dX12_isSeen_24 : decode cX12_isSeen 24 = .ok (.iaload, 1) := by decide +kernel
theorem dX12_isSeen_25 : decode cX12_isSeen 25 = .ok (.iaload, 1) := by decide +kernel
theorem dX12_isSeen_26 : decode cX12_isSeen 26 = .ok (.aload_n 0, 1) := by decide +kernel
theorem dX12_isSeen_27 : decode cX12_isSeen 27 = .ok (.getfield 28, 3) := by decide +kernel
theorem dX12_isSeen_30 : decode cX12_isSeen 30 = .ok (.iload 4, 2) := by decide +kernel
theorem dX12_isSeen_32 : decode cX12_isSeen 32 = .ok (.iaload, 1) := by decide +kernel
theorem dX12_isSeen_33 : decode cX12_isSeen 33 = .ok (.iload_n 2, 1) := by decide +kernel
theorem dX12_isSeen_34 : decode cX12_isSeen 34 = .ok (.if_icmp .lt 7, 3) := by decide +kernel
theorem dX12_isSeen_37 : decode cX12_isSeen 37 = .ok (.iload_n 1, 1) := by decide +kernel
theorem dX12_isSeen_38 : decode cX12_isSeen 38 = .ok (.goto 4, 3) := by decide +kernel
theorem dX12_isSeen_41 : decode cX12_isSeen 41 = .ok (.iconst 0, 1) := by decide +kernel
theorem dX12_isSeen_42 : decode cX12_isSeen 42 = .ok (.iadd, 1) := by decide +kernel
theorem dX12_isSeen_43 : decode cX12_isSeen 43 = .ok (.istore 5, 2) := by decide +kernel
theorem dX12_isSeen_45 : decode cX12_isSeen 45 = .ok (.iload_n 3, 1) := by decide +kernel
theorem dX12_isSeen_46 : decode cX12_isSeen 46 = .ok (.ifCond .eq 19, 3) := by decide +kernel
theorem dX12_isSeen_49 : decode cX12_isSeen 49 = .ok (.iload 5, 2) := by decide +kernel
theorem dX12_isSeen_51 : decode cX12_isSeen 51 = .ok (.aload_n 0, 1) := by decide +kernel
theorem dX12_isSeen_52 : decode cX12_isSeen 52 = .ok (.getfield 31, 3) := by decide +kernel
theorem dX12_isSeen_55 : decode cX12_isSeen 55 = .ok (.iload 4, 2) := by decide +kernel
theorem dX12_isSeen_57 : decode cX12_isSeen 57 = .ok (.iaload, 1) := by decide +kernel
theorem dX12_isSeen_58 : decode cX12_isSeen 58 = .ok (.if_icmp .ne 7, 3) := by decide +kernel
theorem dX12_isSeen_61 : decode cX12_isSeen 61 = .ok (.iconst 1, 1) := by decide +kernel
theorem dX12_isSeen_62 : decode cX12_isSeen 62 = .ok (.goto 4, 3) := by decide +kernel
theorem dX12_isSeen_65 : decode cX12_isSeen 65 = .ok (.iconst 0, 1) := by decide +kernel
theorem dX12_isSeen_66 : decode cX12_isSeen 66 = .ok (.istore_n 3, 1) := by decide +kernel
theorem dX12_isSeen_67 : decode cX12_isSeen 67 = .ok (.iinc 4 1, 3) := by decide +kernel
theorem dX12_isSeen_70 : decode cX12_isSeen 70 = .ok (.goto (-65), 3) := by decide +kernel
theorem dX12_isSeen_73 : decode cX12_isSeen 73 = .ok (.iload_n 3, 1) := by decide +kernel
theorem dX12_isSeen_74 : decode cX12_isSeen 74 = .ok (.ireturn, 1) := by decide +kernel
theorem dX12_nodSet_0 : decode cX12_nodSet 0 = .ok (.aload_n 0, 1) := by decide +kernel
theorem dX12_nodSet_1 : decode cX12_nodSet 1 = .ok (.getfield 19, 3) := by decide +kernel
theorem dX12_nodSet_4 : decode cX12_nodSet 4 = .ok (.iload_n 1, 1) := by decide +kernel
theorem dX12_nodSet_5 : decode cX12_nodSet 5 = .ok (.iaload, 1) := by decide +kernel
theorem dX12_nodSet_6 : decode cX12_nodSet 6 = .ok (.istore_n 2, 1) := by decide +kernel
theorem dX12_nodSet_7 : decode cX12_nodSet 7 = .ok (.iconst 0, 1) := by decide +kernel
theorem dX12_nodSet_8 : decode cX12_nodSet 8 = .ok (.istore_n 3, 1) := by decide +kernel
theorem dX12_nodSet_9 : decode cX12_nodSet 9 = .ok (.bipush (-3), 2) := by decide +kernel
theorem dX12_nodSet_11 : decode cX12_nodSet 11 = .ok (.istore 4, 2) := by decide +kernel
theorem dX12_nodSet_13 : decode cX12_nodSet 13 = .ok (.iload 4, 2) := by decide +kernel
theorem dX12_nodSet_15 : decode cX12_nodSet 15 = .ok (.iconst 3, 1) := by decide +kernel
theorem dX12_nodSet_16 : decode cX12_nodSet 16 = .ok (.if_icmp .gt 43, 3) := by decide +kernel
theorem dX12_nodSet_19 : decode cX12_nodSet 19 = .ok (.aload_n 0, 1) := by decide +kernel
theorem dX12_nodSet_20 : decode cX12_nodSet 20 = .ok (.getfield 19, 3) := by decide +kernel
theorem dX12_nodSet_23 : decode cX12_nodSet 23 = .ok (.iload_n 1, 1) := by decide +kernel
theorem dX12_nodSet_24 : decode cX12_nodSet 24 = .ok (.iload 4, 2) := by decide +kernel
theorem dX12_nodSet_26 : decode cX12_nodSet 26 = .ok (.iastore, 1) := by decide +kernel
theorem dX12_nodSet_27 : decode cX12_nodSet 27 = .ok (.aload_n 0, 1) := by decide +kernel
theorem dX12_nodSet_28 : decode cX12_nodSet 28 = .ok (.invokevirtual 234, 3) := by decide +kernel
theorem dX12_nodSet_31 : decode cX12_nodSet 31 = .ok (.iload_n 3, 1) := by decide +kernel
theorem dX12_nodSet_32 : decode cX12_nodSet 32 = .ok (.aload_n 0, 1) := by decide +kernel
theorem dX12_nodSet_33 : decode cX12_nodSet 33 = .ok (.iconst 0, 1) := by decide +kernel
theorem dX12_nodSet_34 : decode cX12_nodSet 34 = .ok (.iconst 0, 1) := by decide +kernel
theorem dX12_nodSet_35 : decode cX12_nodSet 35 = .ok (.invokevirtual 237, 3) := by decide +kernel
theorem dX12_nodSet_38 : decode cX12_nodSet 38 = .ok (.ifCond .eq 12, 3) := by decide +kernel
theorem dX12_nodSet_41 : decode cX12_nodSet 41 = .ok (.iconst 1, 1) := by decide +kernel
theorem dX12_nodSet_42 : decode cX12_nodSet 42 = .ok (.iload 4, 2) := by decide +kernel
theorem dX12_nodSet_44 : decode cX12_nodSet 44 = .ok (.iconst 3, 1) := by decide +kernel
theorem dX12_nodSet_45 : decode cX12_nodSet 45 = .ok (.iadd, 1) := by decide +kernel
theorem dX12_nodSet_46 : decode cX12_nodSet 46 = .ok (.ishl, 1) := by decide +kernel
theorem dX12_nodSet_47 : decode cX12_nodSet 47 = .ok (.goto 4, 3) := by decide +kernel
theorem dX12_nodSet_50 : decode cX12_nodSet 50 = .ok (.iconst 0, 1) := by decide +kernel
theorem dX12_nodSet_51 : decode cX12_nodSet 51 = .ok (.ior, 1) := by decide +kernel
theorem dX12_nodSet_52 : decode cX12_nodSet 52 = .ok (.istore_n 3, 1) := by decide +kernel
theorem dX12_nodSet_53 : decode cX12_nodSet 53 = .ok (.iinc 4 1, 3) := by decide +kernel
theorem dX12_nodSet_56 : decode cX12_nodSet 56 = .ok (.goto (-43), 3) := by decide +kernel
theorem dX12_nodSet_59 : decode cX12_nodSet 59 = .ok (.aload_n 0, 1) := by decide +kernel
theorem dX12_nodSet_60 : decode cX12_nodSet 60 = .ok (.getfield 19, 3) := by decide +kernel
theorem dX12_nodSet_63 : decode cX12_nodSet 63 = .ok (.iload_n 1, 1) := by decide +kernel
theorem dX12_nodSet_64 : decode cX12_nodSet 64 = .ok (.iload_n 2, 1) := by decide +kernel
theorem dX12_nodSet_65 : decode cX12_nodSet 65 = .ok (.iastore, 1) := by decide +kernel
theorem dX12_nodSet_66 : decode cX12_nodSet 66 = .ok (.iload_n 3, 1) := by decide +kernel
theorem dX12_nodSet_67 : decode cX12_nodSet 67 = .ok (.ireturn, 1) := by decide +kernel
theorem dX12_nod_0 : decode cX12_nod 0 = .ok (.aload_n 0, 1) := by decide +kernel
theorem dX12_nod_1 : decode cX12_nod 1 = .ok (.iload_n 1, 1) := by decide +kernel
theorem dX12_nod_2 : decode cX12_nod 2 = .ok (.invokevirtual 199, 3) := by decide +kernel
theorem dX12_nod_5 : decode cX12_nod 5 = .ok (.ifCond .eq 11, 3) := by decide +kernel
theorem dX12_nod_8 : decode cX12_nod 8 = .ok (.aload_n 0, 1) := by decide +kernel
theorem dX12_nod_9 : decode cX12_nod 9 = .ok (.iload_n 1, 1) := by decide +kernel
theorem dX12_nod_10 : decode cX12_nod 10 = .ok (.invokevirtual 240, 3) := by decide +kernel
theorem dX12_nod_13 : decode cX12_nod 13 = .ok (.goto 7, 3) := by decide +kernel
theorem dX12_nod_16 : decode cX12_nod 16 = .ok (.aload_n 0, 1) := by decide +kernel
theorem dX12_nod_17 : decode cX12_nod 17 = .ok (.invokevirtual 97, 3) := by decide +kernel
theorem dX12_nod_20 : decode cX12_nod 20 = .ok (.ireturn, 1) := by decide +kernel
theorem dX12_is_0 : decode cX12_is 0 = .ok (.aload_n 0, 1) := by decide +kernel
theorem dX12_is_1 : decode cX12_is 1 = .ok (.iload_n 1, 1) := by decide +kernel
theorem dX12_is_2 : decode cX12_is 2 = .ok (.invokevirtual 199, 3) := by decide +kernel
theorem dX12_is_5 : decode cX12_is 5 = .ok (.ifCond .ne 8, 3) := by decide +kernel
theorem dX12_is_8 : decode cX12_is 8 = .ok (.aload_n 0, 1) := by decide +kernel
theorem dX12_is_9 : decode cX12_is 9 = .ok (.invokevirtual 97, 3) := by decide +kernel
theorem dX12_is_12 : decode cX12_is 12 = .ok (.ireturn, 1) := by decide +kernel
theorem dX12_is_13 : decode cX12_is 13 = .ok (.aload_n 0, 1) := by decide +kernel
theorem dX12_is_14 : decode cX12_is 14 = .ok (.getfield 13, 3) := by decide +kernel
theorem dX12_is_17 : decode cX12_is 17 = .ok (.iload_n 1, 1) := by decide +kernel
theorem dX12_is_18 : decode cX12_is 18 = .ok (.iaload, 1) := by decide +kernel
theorem dX12_is_19 : decode cX12_is 19 = .ok (.istore_n 2, 1) := by decide +kernel
theorem dX12_is_20 : decode cX12_is 20 = .ok (.iconst 0, 1) := by decide +kernel
theorem dX12_is_21 : decode cX12_is 21 = .ok (.istore_n 3, 1) := by decide +kernel
theorem dX12_is_22 : decode cX12_is 22 = .ok (.iconst 0, 1) := by decide +kernel
theorem dX12_is_23 : decode cX12_is 23 = .ok (.istore 4, 2) := by decide +kernel
theorem dX12_is_25 : decode cX12_is 25 = .ok (.iload 4, 2) := by decide +kernel
theorem dX12_is_27 : decode cX12_is 27 = .ok (.iconst 5, 1) := by decide +kernel
theorem dX12_is_28 : decode cX12_is 28 = .ok (.if_icmp .gt 41, 3) := by decide +kernel
theorem dX12_is_31 : decode cX12_is 31 = .ok (.aload_n 0, 1) := by decide +kernel
theorem dX12_is_32 : decode cX12_is 32 = .ok (.getfield 13, 3) := by decide +kernel
theorem dX12_is_35 : decode cX12_is 35 = .ok (.iload_n 1, 1) := by decide +kernel
theorem dX12_is_36 : decode cX12_is 36 = .ok (.iload 4, 2) := by decide +kernel
theorem dX12_is_38 : decode cX12_is 38 = .ok (.iastore, 1) := by decide +kernel
theorem dX12_is_39 : decode cX12_is 39 = .ok (.aload_n 0, 1) := by decide +kernel
theorem dX12_is_40 : decode cX12_is 40 = .ok (.invokevirtual 234, 3) := by decide +kernel
theorem dX12_is_43 : decode cX12_is 43 = .ok (.iload_n 3, 1) := by decide +kernel
theorem dX12_is_44 : decode cX12_is 44 = .ok (.aload_n 0, 1) := by decide +kernel
theorem dX12_is_45 : decode cX12_is 45 = .ok (.iconst 0, 1) := by decide +kernel
theorem dX12_is_46 : decode cX12_is 46 = .ok (.iconst 0, 1) := by decide +kernel
theorem dX12_is_47 : decode cX12_is 47 = .ok (.invokevirtual 237, 3) := by decide +kernel
theorem dX12_is_50 : decode cX12_is 50 = .ok (.ifCond .eq 10, 3) := by decide +kernel
theorem dX12_is_53 : decode cX12_is 53 = .ok (.iconst 1, 1) := by decide +kernel
theorem dX12_is_54 : decode cX12_is 54 = .ok (.iload 4, 2) := by decide +kernel
theorem dX12_is_56 : decode cX12_is 56 = .ok (.ishl, 1) := by decide +kernel
theorem dX12_is_57 : decode cX12_is 57 = .ok (.goto 4, 3) := by decide +kernel
theorem dX12_is_60 : decode cX12_is 60 = .ok (.iconst 0, 1) := by decide +kernel
theorem dX12_is_61 : decode cX12_is 61 = .ok (.ior, 1) := by decide +kernel
theorem dX12_is_62 : decode cX12_is 62 = .ok (.istore_n 3, 1) := by decide +kernel
theorem dX12_is_63 : decode cX12_is 63 = .ok (.iinc 4 1, 3) := by decide +kernel
theorem dX12_is_66 : decode cX12_is 66 = .ok (.goto (-41), 3) := by decide +kernel
theorem dX12_is_69 : decode cX12_is 69 = .ok (.aload_n 0, 1) := by decide +kernel
theorem dX12_is_70 : decode cX12_is 70 = .ok (.getfield 13, 3) := by decide +kernel
theorem dX12_is_73 : decode cX12_is 73 = .ok (.iload_n 1, 1) := by decide +kernel
theorem dX12_is_74 : decode cX12_is 74 = .ok (.iload_n 2, 1) := by decide +kernel
theorem dX12_is_75 : decode cX12_is 75 = .ok (.iastore, 1) := by decide +kernel
theorem dX12_is_76 : decode cX12_is 76 = .ok (.iload_n 3, 1) := by decide +kernel
theorem dX12_is_77 : decode cX12_is 77 = .ok (.ireturn, 1) := by decide +kernel
theorem dX12_alike_0 : decode cX12_alike 0 = .ok (.iconst 0, 1) := by decide +kernel
theorem dX12_alike_1 : decode cX12_alike 1 = .ok (.istore_n 3, 1) := by decide +kernel
theorem dX12_alike_2 : decode cX12_alike 2 = .ok (.iconst 0, 1) := by decide +kernel
theorem dX12_alike_3 : decode cX12_alike 3 = .ok (.istore 4, 2) := by decide +kernel
theorem dX12_alike_5 : decode cX12_alike 5 = .ok (.iload 4, 2) := by decide +kernel
theorem dX12_alike_7 : decode cX12_alike 7 = .ok (.bipush 7, 2) := by decide +kernel
theorem dX12_alike_9 : decode cX12_alike 9 = .ok (.if_icmp .ge 96, 3) := by decide +kernel
theorem dX12_alike_12 : decode cX12_alike 12 = .ok (.iconst 0, 1) := by decide +kernel
theorem dX12_alike_13 : decode cX12_alike 13 = .ok (.istore 5, 2) := by decide +kernel
theorem dX12_alike_15 : decode cX12_alike 15 = .ok (.iconst 0, 1) := by decide +kernel
theorem dX12_alike_16 : decode cX12_alike 16 = .ok (.istore 6, 2) := by decide +kernel
theorem dX12_alike_18 : decode cX12_alike 18 = .ok (.iload 6, 2) := by decide +kernel
theorem dX12_alike_20 : decode cX12_alike 20 = .ok (.bipush 7, 2) := by decide +kernel
theorem dX12_alike_22 : decode cX12_alike 22 = .ok (.if_icmp .ge 64, 3) := by decide +kernel
theorem dX12_alike_25 : decode cX12_alike 25 = .ok (.iload 5, 2) := by decide +kernel
theorem dX12_alike_27 : decode cX12_alike 27 = .ok (.iload_n 1, 1) := by decide +kernel
theorem dX12_alike_28 : decode cX12_alike 28 = .ok (.iload 4, 2) := by decide +kernel
theorem dX12_alike_30 : decode cX12_alike 30 = .ok (.invokestatic 243, 3) := by decide +kernel
theorem dX12_alike_33 : decode cX12_alike 33 = .ok (.ifCond .eq 43, 3) := by decide +kernel
theorem dX12_alike_36 : decode cX12_alike 36 = .ok (.iload_n 1, 1) := by decide +kernel
theorem dX12_alike_37 : decode cX12_alike 37 = .ok (.iload 6, 2) := by decide +kernel
theorem dX12_alike_39 : decode cX12_alike 39 = .ok (.invokestatic 243, 3) := by decide +kernel
theorem dX12_alike_42 : decode cX12_alike 42 = .ok (.ifCond .eq 34, 3) := by decide +kernel
theorem dX12_alike_45 : decode cX12_alike 45 = .ok (.aload_n 0, 1) := by decide +kernel
theorem dX12_alike_46 : decode cX12_alike 46 = .ok (.getfield 58, 3) := by decide +kernel
theorem dX12_alike_49 : decode cX12_alike 49 = .ok (.bipush 21, 2) := by decide +kernel
theorem dX12_alike_51 : decode cX12_alike 51 = .ok (.iload 4, 2) := by decide +kernel
theorem dX12_alike_53 : decode cX12_alike 53 = .ok (.imul, 1) := by decide +kernel
theorem dX12_alike_54 : decode cX12_alike 54 = .ok (.iload_n 2, 1) := by decide +kernel
theorem dX12_alike_55 : decode cX12_alike 55 = .ok (.iadd, 1) := by decide +kernel
theorem dX12_alike_56 : decode cX12_alike 56 = .ok (.iaload, 1) := by decide +kernel
theorem dX12_alike_57 : decode cX12_alike 57 = .ok (.aload_n 0, 1) := by decide +kernel
theorem dX12_alike_58 : decode cX12_alike 58 = .ok (.getfield 58, 3) := by decide +kernel
theorem dX12_alike_61 : decode cX12_alike 61 = .ok (.bipush 21, 2) := by decide +kernel
theorem dX12_alike_63 : decode cX12_alike 63 = .ok (.iload 6, 2) := by decide +kernel
theorem dX12_alike_65 : decode cX12_alike 65 = .ok (.imul, 1) := by decide +kernel
theorem dX12_alike_66 : decode cX12_alike 66 = .ok (.iload_n 2, 1) := by decide +kernel
theorem dX12_alike_67 : decode cX12_alike 67 = .ok (.iadd, 1) := by decide +kernel
theorem dX12_alike_68 : decode cX12_alike 68 = .ok (.iaload, 1) := by decide +kernel
theorem dX12_alike_69 : decode cX12_alike 69 = .ok (.if_icmp .ne 7, 3) := by decide +kernel
theorem dX12_alike_72 : decode cX12_alike 72 = .ok (.iconst 1, 1) := by decide +kernel
theorem dX12_alike_73 : decode cX12_alike 73 = .ok (.goto 4, 3) := by decide +kernel
theorem dX12_alike_76 : decode cX12_alike 76 = .ok (.iconst 0, 1) := by decide +kernel
theorem dX12_alike_77 : decode cX12_alike 77 = .ok (.iadd, 1) := by decide +kernel
theorem dX12_alike_78 : decode cX12_alike 78 = .ok (.istore 5, 2) := by decide +kernel
theorem dX12_alike_80 : decode cX12_alike 80 = .ok (.iinc 6 1, 3) := by decide +kernel
theorem dX12_alike_83 : decode cX12_alike 83 = .ok (.goto (-65), 3) := by decide +kernel
theorem dX12_alike_86 : decode cX12_alike 86 = .ok (.iload 5, 2) := by decide +kernel
theorem dX12_alike_88 : decode cX12_alike 88 = .ok (.iload_n 3, 1) := by decide +kernel
theorem dX12_alike_89 : decode cX12_alike 89 = .ok (.if_icmp .le 8, 3) := by decide +kernel
theorem dX12_alike_92 : decode cX12_alike 92 = .ok (.iload 5, 2) := by decide +kernel
theorem dX12_alike_94 : decode cX12_alike 94 = .ok (.goto 4, 3) := by decide +kernel
theorem dX12_alike_97 : decode cX12_alike 97 = .ok (.iload_n 3, 1) := by decide +kernel
theorem dX12_alike_98 : decode cX12_alike 98 = .ok (.istore_n 3, 1) := by decide +kernel
theorem dX12_alike_99 : decode cX12_alike 99 = .ok (.iinc 4 1, 3) := by decide +kernel
theorem dX12_alike_102 : decode cX12_alike 102 = .ok (.goto (-97), 3) := by decide +kernel
theorem dX12_alike_105 : decode cX12_alike 105 = .ok (.iload_n 3, 1) := by decide +kernel
theorem dX12_alike_106 : decode cX12_alike 106 = .ok (.ireturn, 1) := by decide +kernel
theorem dX12_look_0 : decode cX12_look 0 = .ok (.aload_n 0, 1) := by decide +kernel
theorem dX12_look_1 : decode cX12_look 1 = .ok (.iload_n 1, 1) := by decide +kernel
theorem dX12_look_2 : decode cX12_look 2 = .ok (.invokevirtual 199, 3) := by decide +kernel
theorem dX12_look_5 : decode cX12_look 5 = .ok (.ifCond .ne 8, 3) := by decide +kernel
theorem dX12_look_8 : decode cX12_look 8 = .ok (.aload_n 0, 1) := by decide +kernel
theorem dX12_look_9 : decode cX12_look 9 = .ok (.invokevirtual 97, 3) := by decide +kernel
theorem dX12_look_12 : decode cX12_look 12 = .ok (.ireturn, 1) := by decide +kernel
theorem dX12_look_13 : decode cX12_look 13 = .ok (.aload_n 0, 1) := by decide +kernel
theorem dX12_look_14 : decode cX12_look 14 = .ok (.iload_n 1, 1) := by decide +kernel
theorem dX12_look_15 : decode cX12_look 15 = .ok (.invokevirtual 240, 3) := by decide +kernel
theorem dX12_look_18 : decode cX12_look 18 = .ok (.istore_n 2, 1) := by decide +kernel
theorem dX12_look_19 : decode cX12_look 19 = .ok (.iload_n 2, 1) := by decide +kernel
theorem dX12_look_20 : decode cX12_look 20 = .ok (.ifCond .ne 5, 3) := by decide +kernel
theorem dX12_look_23 : decode cX12_look 23 = .ok (.iconst (-1), 1) := by decide +kernel
theorem dX12_look_24 : decode cX12_look 24 = .ok (.ireturn, 1) := by decide +kernel
theorem dX12_look_25 : decode cX12_look 25 = .ok (.aload_n 0, 1) := by decide +kernel
theorem dX12_look_26 : decode cX12_look 26 = .ok (.getfield 19, 3) := by decide +kernel
theorem dX12_look_29 : decode cX12_look 29 = .ok (.iload_n 1, 1) := by decide +kernel
theorem dX12_look_30 : decode cX12_look 30 = .ok (.iaload, 1) := by decide +kernel
theorem dX12_look_31 : decode cX12_look 31 = .ok (.istore_n 3, 1) := by decide +kernel
theorem dX12_look_32 : decode cX12_look 32 = .ok (.iconst 0, 1) := by decide +kernel
theorem dX12_look_33 : decode cX12_look 33 = .ok (.istore 4, 2) := by decide +kernel
theorem dX12_look_35 : decode cX12_look 35 = .ok (.iload 4, 2) := by decide +kernel
theorem dX12_look_37 : decode cX12_look 37 = .ok (.bipush 7, 2) := by decide +kernel
theorem dX12_look_39 : decode cX12_look 39 = .ok (.if_icmp .ge 59, 3) := by decide +kernel
theorem dX12_look_42 : decode cX12_look 42 = .ok (.aload_n 0, 1) := by decide +kernel
theorem dX12_look_43 : decode cX12_look 43 = .ok (.getfield 19, 3) := by decide +kernel
theorem dX12_look_46 : decode cX12_look 46 = .ok (.iload_n 1, 1) := by decide +kernel
theorem dX12_look_47 : decode cX12_look 47 = .ok (.iload 4, 2) := by decide +kernel
theorem dX12_look_49 : decode cX12_look 49 = .ok (.iconst 3, 1) := by decide +kernel
theorem dX12_look_50 : decode cX12_look 50 = .ok (.isub, 1) := by decide +kernel
theorem dX12_look_51 : decode cX12_look 51 = .ok (.iastore, 1) := by decide +kernel
theorem dX12_look_52 : decode cX12_look 52 = .ok (.aload_n 0, 1) := by decide +kernel
theorem dX12_look_53 : decode cX12_look 53 = .ok (.invokevirtual 234, 3) := by decide +kernel
theorem dX12_look_56 : decode cX12_look 56 = .ok (.iconst 0, 1) := by decide +kernel
theorem dX12_look_57 : decode cX12_look 57 = .ok (.istore 5, 2) := by decide +kernel
theorem dX12_look_59 : decode cX12_look 59 = .ok (.iload 5, 2) := by decide +kernel
theorem dX12_look_61 : decode cX12_look 61 = .ok (.bipush 20, 2) := by decide +kernel
theorem dX12_look_63 : decode cX12_look 63 = .ok (.if_icmp .gt 29, 3) := by decide +kernel
theorem dX12_look_66 : decode cX12_look 66 = .ok (.aload_n 0, 1) := by decide +kernel
theorem dX12_look_67 : decode cX12_look 67 = .ok (.getfield 58, 3) := by decide +kernel
theorem dX12_look_70 : decode cX12_look 70 = .ok (.bipush 21, 2) := by decide +kernel
theorem dX12_look_72 : decode cX12_look 72 = .ok (.iload 4, 2) := by decide +kernel
theorem dX12_look_74 : decode cX12_look 74 = .ok (.imul, 1) := by decide +kernel
theorem dX12_look_75 : decode cX12_look 75 = .ok (.iload 5, 2) := by decide +kernel
theorem dX12_look_77 : decode cX12_look 77 = .ok (.iadd, 1) := by decide +kernel
theorem dX12_look_78 : decode cX12_look 78 = .ok (.aload_n 0, 1) := by decide +kernel
theorem dX12_look_79 : decode cX12_look 79 = .ok (.getfield 55, 3) := by decide +kernel
theorem dX12_look_82 : decode cX12_look 82 = .ok (.iload 5, 2) := by decide +kernel
theorem dX12_look_84 : decode cX12_look 84 = .ok (.iaload, 1) := by decide +kernel
theorem dX12_look_85 : decode cX12_look 85 = .ok (.iastore, 1) := by decide +kernel
theorem dX12_look_86 : decode cX12_look 86 = .ok (.iinc 5 1, 3) := by decide +kernel
theorem dX12_look_89 : decode cX12_look 89 = .ok (.goto (-30), 3) := by decide +kernel
theorem dX12_look_92 : decode cX12_look 92 = .ok (.iinc 4 1, 3) := by decide +kernel
theorem dX12_look_95 : decode cX12_look 95 = .ok (.goto (-60), 3) := by decide +kernel
theorem dX12_look_98 : decode cX12_look 98 = .ok (.aload_n 0, 1) := by decide +kernel
theorem dX12_look_99 : decode cX12_look 99 = .ok (.getfield 19, 3) := by decide +kernel
theorem dX12_look_102 : decode cX12_look 102 = .ok (.iload_n 1, 1) := by decide +kernel
theorem dX12_look_103 : decode cX12_look 103 = .ok (.iload_n 3, 1) := by decide +kernel
theorem dX12_look_104 : decode cX12_look 104 = .ok (.iastore, 1) := by decide +kernel
theorem dX12_look_105 : decode cX12_look 105 = .ok (.iconst 0, 1) := by decide +kernel
theorem dX12_look_106 : decode cX12_look 106 = .ok (.istore 4, 2) := by decide +kernel
theorem dX12_look_108 : decode cX12_look 108 = .ok (.iconst 1, 1) := by decide +kernel
theorem dX12_look_109 : decode cX12_look 109 = .ok (.istore 5, 2) := by decide +kernel
theorem dX12_look_111 : decode cX12_look 111 = .ok (.iload 5, 2) := by decide +kernel
theorem dX12_look_113 : decode cX12_look 113 = .ok (.bipush 20, 2) := by decide +kernel
theorem dX12_look_115 : decode cX12_look 115 = .ok (.if_icmp .gt 35, 3) := by decide +kernel
theorem dX12_look_118 : decode cX12_look 118 = .ok (.aload_n 0, 1) := by decide +kernel
theorem dX12_look_119 : decode cX12_look 119 = .ok (.iload_n 2, 1) := by decide +kernel
theorem dX12_look_120 : decode cX12_look 120 = .ok (.iload 5, 2) := by decide +kernel
theorem dX12_look_122 : decode cX12_look 122 = .ok (.invokevirtual 246, 3) := by decide +kernel
theorem dX12_look_125 : decode cX12_look 125 = .ok (.aload_n 0, 1) := by decide +kernel
theorem dX12_look_126 : decode cX12_look 126 = .ok (.iload_n 2, 1) := by decide +kernel
theorem dX12_look_127 : decode cX12_look 127 = .ok (.iload 4, 2) := by decide +kernel
theorem dX12_look_129 : decode cX12_look 129 = .ok (.invokevirtual 246, 3) := by decide +kernel
theorem dX12_look_132 : decode cX12_look 132 = .ok (.if_icmp .ge 8, 3) := by decide +kernel
theorem dX12_look_135 : decode cX12_look 135 = .ok (.iload 5, 2) := by decide +kernel
theorem dX12_look_137 : decode cX12_look 137 = .ok (.goto 5, 3) := by decide +kernel
theorem dX12_look_140 : decode cX12_look 140 = .ok (.iload 4, 2) := by decide +kernel
theorem dX12_look_142 : decode cX12_look 142 = .ok (.istore 4, 2) := by decide +kernel
theorem dX12_look_144 : decode cX12_look 144 = .ok (.iinc 5 1, 3) := by decide +kernel
theorem dX12_look_147 : decode cX12_look 147 = .ok (.goto (-36), 3) := by decide +kernel
theorem dX12_look_150 : decode cX12_look 150 = .ok (.iload 4, 2) := by decide +kernel
theorem dX12_look_152 : decode cX12_look 152 = .ok (.ireturn, 1) := by decide +kernel
theorem dX12_pulled_0 : decode cX12_pulled 0 = .ok (.iload_n 1, 1) := by decide +kernel
theorem dX12_pulled_1 : decode cX12_pulled 1 = .ok (.bipush (-9), 2) := by decide +kernel
theorem dX12_pulled_3 : decode cX12_pulled 3 = .ok (.bipush 9, 2) := by decide +kernel
theorem dX12_pulled_5 : decode cX12_pulled 5 = .ok (.invokestatic 93, 3) := by decide +kernel
theorem dX12_pulled_8 : decode cX12_pulled 8 = .ok (.ifCond .ne 8, 3) := by decide +kernel
theorem dX12_pulled_11 : decode cX12_pulled 11 = .ok (.aload_n 0, 1) := by decide +kernel
theorem dX12_pulled_12 : decode cX12_pulled 12 = .ok (.invokevirtual 97, 3) := by decide +kernel
theorem dX12_pulled_15 : decode cX12_pulled 15 = .ok (.ireturn, 1) := by decide +kernel
theorem dX12_pulled_16 : decode cX12_pulled 16 = .ok (.aload_n 0, 1) := by decide +kernel
theorem dX12_pulled_17 : decode cX12_pulled 17 = .ok (.invokevirtual 234, 3) := by decide +kernel
theorem dX12_pulled_20 : decode cX12_pulled 20 = .ok (.iconst 0, 1) := by decide +kernel
theorem dX12_pulled_21 : decode cX12_pulled 21 = .ok (.istore_n 2, 1) := by decide +kernel
theorem dX12_pulled_22 : decode cX12_pulled 22 = .ok (.iconst 0, 1) := by decide +kernel
theorem dX12_pulled_23 : decode cX12_pulled 23 = .ok (.istore_n 3, 1) := by decide +kernel
theorem dX12_pulled_24 : decode cX12_pulled 24 = .ok (.iload_n 3, 1) := by decide +kernel
theorem dX12_pulled_25 : decode cX12_pulled 25 = .ok (.bipush 20, 2) := by decide +kernel
theorem dX12_pulled_27 : decode cX12_pulled 27 = .ok (.if_icmp .ge 30, 3) := by decide +kernel
theorem dX12_pulled_30 : decode cX12_pulled 30 = .ok (.iload_n 2, 1) := by decide +kernel
theorem dX12_pulled_31 : decode cX12_pulled 31 = .ok (.aload_n 0, 1) := by decide +kernel
theorem dX12_pulled_32 : decode cX12_pulled 32 = .ok (.iload_n 1, 1) := by decide +kernel
theorem dX12_pulled_33 : decode cX12_pulled 33 = .ok (.iload_n 3, 1) := by decide +kernel
theorem dX12_pulled_34 : decode cX12_pulled 34 = .ok (.iconst 1, 1) := by decide +kernel
theorem dX12_pulled_35 : decode cX12_pulled 35 = .ok (.iadd, 1) := by decide +kernel
theorem dX12_pulled_36 : decode cX12_pulled 36 = .ok (.invokevirtual 237, 3) := by decide +kernel
theorem dX12_pulled_39 : decode cX12_pulled 39 = .ok (.ifCond .eq 9, 3) := by decide +kernel
theorem dX12_pulled_42 : decode cX12_pulled 42 = .ok (.iconst 1, 1) := by decide +kernel
theorem dX12_pulled_43 : decode cX12_pulled 43 = .ok (.iload_n 3, 1) := by decide +kernel
theorem dX12_pulled_44 : decode cX12_pulled 44 = .ok (.ishl, 1) := by decide +kernel
theorem dX12_pulled_45 : decode cX12_pulled 45 = .ok (.goto 4, 3) := by decide +kernel
theorem dX12_pulled_48 : decode cX12_pulled 48 = .ok (.iconst 0, 1) := by decide +kernel
theorem dX12_pulled_49 : decode cX12_pulled 49 = .ok (.ior, 1) := by decide +kernel
theorem dX12_pulled_50 : decode cX12_pulled 50 = .ok (.istore_n 2, 1) := by decide +kernel
theorem dX12_pulled_51 : decode cX12_pulled 51 = .ok (.iinc 3 1, 3) := by decide +kernel
theorem dX12_pulled_54 : decode cX12_pulled 54 = .ok (.goto (-30), 3) := by decide +kernel
theorem dX12_pulled_57 : decode cX12_pulled 57 = .ok (.iload_n 2, 1) := by decide +kernel
theorem dX12_pulled_58 : decode cX12_pulled 58 = .ok (.ireturn, 1) := by decide +kernel
theorem dX12_meet_0 : decode cX12_meet 0 = .ok (.iload_n 1, 1) := by decide +kernel
theorem dX12_meet_1 : decode cX12_meet 1 = .ok (.bipush (-60), 2) := by decide +kernel
theorem dX12_meet_3 : decode cX12_meet 3 = .ok (.bipush 60, 2) := by decide +kernel
theorem dX12_meet_5 : decode cX12_meet 5 = .ok (.invokestatic 93, 3) := by decide +kernel
theorem dX12_meet_8 : decode cX12_meet 8 = .ok (.ifCond .eq 22, 3) := by decide +kernel
theorem dX12_meet_11 : decode cX12_meet 11 = .ok (.iload_n 2, 1) := by decide +kernel
theorem dX12_meet_12 : decode cX12_meet 12 = .ok (.bipush (-3), 2) := by decide +kernel
theorem dX12_meet_14 : decode cX12_meet 14 = .ok (.iconst 3, 1) := by decide +kernel
theorem dX12_meet_15 : decode cX12_meet 15 = .ok (.invokestatic 93, 3) := by decide +kernel
theorem dX12_meet_18 : decode cX12_meet 18 = .ok (.ifCond .eq 12, 3) := by decide +kernel
theorem dX12_meet_21 : decode cX12_meet 21 = .ok (.iload_n 3, 1) := by decide +kernel
theorem dX12_meet_22 : decode cX12_meet 22 = .ok (.iconst 0, 1) := by decide +kernel
theorem dX12_meet_23 : decode cX12_meet 23 = .ok (.iconst 1, 1) := by decide +kernel
theorem dX12_meet_24 : decode cX12_meet 24 = .ok (.invokestatic 93, 3) := by decide +kernel
theorem dX12_meet_27 : decode cX12_meet 27 = .ok (.ifCond .ne 8, 3) := by decide +kernel
theorem dX12_meet_30 : decode cX12_meet 30 = .ok (.aload_n 0, 1) := by decide +kernel
theorem dX12_meet_31 : decode cX12_meet 31 = .ok (.invokevirtual 97, 3) := by decide +kernel
theorem dX12_meet_34 : decode cX12_meet 34 = .ok (.ireturn, 1) := by decide +kernel
theorem dX12_meet_35 : decode cX12_meet 35 = .ok (.aload_n 0, 1) := by decide +kernel
theorem dX12_meet_36 : decode cX12_meet 36 = .ok (.invokevirtual 214, 3) := by decide +kernel
theorem dX12_meet_39 : decode cX12_meet 39 = .ok (.iconst (-1), 1) := by decide +kernel
theorem dX12_meet_40 : decode cX12_meet 40 = .ok (.istore 4, 2) := by decide +kernel
theorem dX12_meet_42 : decode cX12_meet 42 = .ok (.aload_n 0, 1) := by decide +kernel
theorem dX12_meet_43 : decode cX12_meet 43 = .ok (.getfield 78, 3) := by decide +kernel
theorem dX12_meet_46 : decode cX12_meet 46 = .ok (.iload_n 1, 1) := by decide +kernel
theorem dX12_meet_47 : decode cX12_meet 47 = .ok (.if_icmp .le 7, 3) := by decide +kernel
theorem dX12_meet_50 : decode cX12_meet 50 = .ok (.iconst 1, 1) := by decide +kernel
theorem dX12_meet_51 : decode cX12_meet 51 = .ok (.goto 16, 3) := by decide +kernel
theorem dX12_meet_54 : decode cX12_meet 54 = .ok (.aload_n 0, 1) := by decide +kernel
theorem dX12_meet_55 : decode cX12_meet 55 = .ok (.getfield 78, 3) := by decide +kernel
theorem dX12_meet_58 : decode cX12_meet 58 = .ok (.iload_n 1, 1) := by decide +kernel
theorem dX12_meet_59 : decode cX12_meet 59 = .ok (.if_icmp .ge 7, 3) := by decide +kernel
theorem dX12_meet_62 : decode cX12_meet 62 = .ok (.iconst (-1), 1) := by decide +kernel
theorem dX12_meet_63 : decode cX12_meet 63 = .ok (.goto 4, 3) := by decide +kernel
theorem dX12_meet_66 : decode cX12_meet 66 = .ok (.iconst 0, 1) := by decide +kernel
theorem dX12_meet_67 : decode cX12_meet 67 = .ok (.istore 5, 2) := by decide +kernel
theorem dX12_meet_69 : decode cX12_meet 69 = .ok (.iconst 0, 1) := by decide +kernel
theorem dX12_meet_70 : decode cX12_meet 70 = .ok (.istore 6, 2) := by decide +kernel
theorem dX12_meet_72 : decode cX12_meet 72 = .ok (.iload 6, 2) := by decide +kernel
theorem dX12_meet_74 : decode cX12_meet 74 = .ok (.bipush 60, 2) := by decide +kernel
theorem dX12_meet_76 : decode cX12_meet 76 = .ok (.if_icmp .gt 72, 3) := by decide +kernel
end
section
theorem dX12_meet_79 : decode cX12_meet 79 = .ok (.iload 4, 2) := by decide +kernel
theorem dX12_meet_81 : decode cX12_meet 81 = .ok (.iconst (-1), 1) := by decide +kernel
theorem dX12_meet_82 : decode cX12_meet 82 = .ok (.if_icmp .ne 66, 3) := by decide +kernel
theorem dX12_meet_85 : decode cX12_meet 85 = .ok (.aload_n 0, 1) := by decide +kernel
theorem dX12_meet_86 : decode cX12_meet 86 = .ok (.getfield 78, 3) := by decide +kernel
theorem dX12_meet_89 : decode cX12_meet 89 = .ok (.iload_n 1, 1) := by decide +kernel
theorem dX12_meet_90 : decode cX12_meet 90 = .ok (.isub, 1) := by decide +kernel
theorem dX12_meet_91 : decode cX12_meet 91 = .ok (.iload 6, 2) := by decide +kernel
theorem dX12_meet_93 : decode cX12_meet 93 = .ok (.iload_n 2, 1) := by decide +kernel
theorem dX12_meet_94 : decode cX12_meet 94 = .ok (.imul, 1) := by decide +kernel
theorem dX12_meet_95 : decode cX12_meet 95 = .ok (.isub, 1) := by decide +kernel
theorem dX12_meet_96 : decode cX12_meet 96 = .ok (.istore 7, 2) := by decide +kernel
theorem dX12_meet_98 : decode cX12_meet 98 = .ok (.iload 7, 2) := by decide +kernel
theorem dX12_meet_100 : decode cX12_meet 100 = .ok (.ifCond .eq 16, 3) := by decide +kernel
theorem dX12_meet_103 : decode cX12_meet 103 = .ok (.iload_n 3, 1) := by decide +kernel
theorem dX12_meet_104 : decode cX12_meet 104 = .ok (.iconst 1, 1) := by decide +kernel
theorem dX12_meet_105 : decode cX12_meet 105 = .ok (.if_icmp .ne 15, 3) := by decide +kernel
theorem dX12_meet_108 : decode cX12_meet 108 = .ok (.iload 7, 2) := by decide +kernel
theorem dX12_meet_110 : decode cX12_meet 110 = .ok (.iload 5, 2) := by decide +kernel
theorem dX12_meet_112 : decode cX12_meet 112 = .ok (.imul, 1) := by decide +kernel
theorem dX12_meet_113 : decode cX12_meet 113 = .ok (.ifCond .ge 7, 3) := by decide +kernel
theorem dX12_meet_116 : decode cX12_meet 116 = .ok (.iconst 1, 1) := by decide +kernel
theorem dX12_meet_117 : decode cX12_meet 117 = .ok (.goto 4, 3) := by decide +kernel
theorem dX12_meet_120 : decode cX12_meet 120 = .ok (.iconst 0, 1) := by decide +kernel
theorem dX12_meet_121 : decode cX12_meet 121 = .ok (.istore 8, 2) := by decide +kernel
theorem dX12_meet_123 : decode cX12_meet 123 = .ok (.iload 8, 2) := by decide +kernel
theorem dX12_meet_125 : decode cX12_meet 125 = .ok (.ifCond .eq 8, 3) := by decide +kernel
theorem dX12_meet_128 : decode cX12_meet 128 = .ok (.iload 6, 2) := by decide +kernel
theorem dX12_meet_130 : decode cX12_meet 130 = .ok (.goto 5, 3) := by decide +kernel
theorem dX12_meet_133 : decode cX12_meet 133 = .ok (.iload 4, 2) := by decide +kernel
theorem dX12_meet_135 : decode cX12_meet 135 = .ok (.istore 4, 2) := by decide +kernel
theorem dX12_meet_137 : decode cX12_meet 137 = .ok (.aload_n 0, 1) := by decide +kernel
theorem dX12_meet_138 : decode cX12_meet 138 = .ok (.invokevirtual 205, 3) := by decide +kernel
theorem dX12_meet_141 : decode cX12_meet 141 = .ok (.pop, 1) := by decide +kernel
theorem dX12_meet_142 : decode cX12_meet 142 = .ok (.iinc 6 1, 3) := by decide +kernel
theorem dX12_meet_145 : decode cX12_meet 145 = .ok (.goto (-73), 3) := by decide +kernel
theorem dX12_meet_148 : decode cX12_meet 148 = .ok (.aload_n 0, 1) := by decide +kernel
theorem dX12_meet_149 : decode cX12_meet 149 = .ok (.invokevirtual 221, 3) := by decide +kernel
theorem dX12_meet_152 : decode cX12_meet 152 = .ok (.iload 4, 2) := by decide +kernel
theorem dX12_meet_154 : decode cX12_meet 154 = .ok (.ireturn, 1) := by decide +kernel
theorem dX12_lay_0 : decode cX12_lay 0 = .ok (.lload_n 1, 1) := by decide +kernel
theorem dX12_lay_1 : decode cX12_lay 1 = .ok (.lstore 5, 2) := by decide +kernel
theorem dX12_lay_3 : decode cX12_lay 3 = .ok (.lload_n 3, 1) := by decide +kernel
theorem dX12_lay_4 : decode cX12_lay 4 = .ok (.lstore 7, 2) := by decide +kernel
theorem dX12_lay_6 : decode cX12_lay 6 = .ok (.lload 7, 2) := by decide +kernel
theorem dX12_lay_8 : decode cX12_lay 8 = .ok (.lconst 0, 1) := by decide +kernel
theorem dX12_lay_9 : decode cX12_lay 9 = .ok (.lcmp, 1) := by decide +kernel
theorem dX12_lay_10 : decode cX12_lay 10 = .ok (.ifCond .eq 21, 3) := by decide +kernel
theorem dX12_lay_13 : decode cX12_lay 13 = .ok (.lload 5, 2) := by decide +kernel
theorem dX12_lay_15 : decode cX12_lay 15 = .ok (.lload 7, 2) := by decide +kernel
theorem dX12_lay_17 : decode cX12_lay 17 = .ok (.lrem, 1) := by decide +kernel
theorem dX12_lay_18 : decode cX12_lay 18 = .ok (.lstore 9, 2) := by decide +kernel
theorem dX12_lay_20 : decode cX12_lay 20 = .ok (.lload 7, 2) := by decide +kernel
theorem dX12_lay_22 : decode cX12_lay 22 = .ok (.lstore 5, 2) := by decide +kernel
theorem dX12_lay_24 : decode cX12_lay 24 = .ok (.lload 9, 2) := by decide +kernel
theorem dX12_lay_26 : decode cX12_lay 26 = .ok (.lstore 7, 2) := by decide +kernel
theorem dX12_lay_28 : decode cX12_lay 28 = .ok (.goto (-22), 3) := by decide +kernel
theorem dX12_lay_31 : decode cX12_lay 31 = .ok (.aload_n 0, 1) := by decide +kernel
theorem dX12_lay_32 : decode cX12_lay 32 = .ok (.lload_n 1, 1) := by decide +kernel
theorem dX12_lay_33 : decode cX12_lay 33 = .ok (.lload 5, 2) := by decide +kernel
theorem dX12_lay_35 : decode cX12_lay 35 = .ok (.ldiv, 1) := by decide +kernel
theorem dX12_lay_36 : decode cX12_lay 36 = .ok (.putfield 249, 3) := by decide +kernel
theorem dX12_lay_39 : decode cX12_lay 39 = .ok (.aload_n 0, 1) := by decide +kernel
theorem dX12_lay_40 : decode cX12_lay 40 = .ok (.lload_n 3, 1) := by decide +kernel
theorem dX12_lay_41 : decode cX12_lay 41 = .ok (.lload 5, 2) := by decide +kernel
theorem dX12_lay_43 : decode cX12_lay 43 = .ok (.ldiv, 1) := by decide +kernel
theorem dX12_lay_44 : decode cX12_lay 44 = .ok (.putfield 61, 3) := by decide +kernel
theorem dX12_lay_47 : decode cX12_lay 47 = .ok (.return_, 1) := by decide +kernel
theorem dX12_odds_0 : decode cX12_odds 0 = .ok (.aload_n 0, 1) := by decide +kernel
theorem dX12_odds_1 : decode cX12_odds 1 = .ok (.iload_n 1, 1) := by decide +kernel
theorem dX12_odds_2 : decode cX12_odds 2 = .ok (.invokevirtual 199, 3) := by decide +kernel
theorem dX12_odds_5 : decode cX12_odds 5 = .ok (.ifCond .eq 13, 3) := by decide +kernel
theorem dX12_odds_8 : decode cX12_odds 8 = .ok (.iload_n 2, 1) := by decide +kernel
theorem dX12_odds_9 : decode cX12_odds 9 = .ok (.iconst 0, 1) := by decide +kernel
theorem dX12_odds_10 : decode cX12_odds 10 = .ok (.bipush 10, 2) := by decide +kernel
theorem dX12_odds_12 : decode cX12_odds 12 = .ok (.invokestatic 93, 3) := by decide +kernel
theorem dX12_odds_15 : decode cX12_odds 15 = .ok (.ifCond .ne 8, 3) := by decide +kernel
theorem dX12_odds_18 : decode cX12_odds 18 = .ok (.aload_n 0, 1) := by decide +kernel
theorem dX12_odds_19 : decode cX12_odds 19 = .ok (.invokevirtual 97, 3) := by decide +kernel
theorem dX12_odds_22 : decode cX12_odds 22 = .ok (.ireturn, 1) := by decide +kernel
theorem dX12_odds_23 : decode cX12_odds 23 = .ok (.lconst 0, 1) := by decide +kernel
theorem dX12_odds_24 : decode cX12_odds 24 = .ok (.lstore_n 3, 1) := by decide +kernel
theorem dX12_odds_25 : decode cX12_odds 25 = .ok (.lconst 1, 1) := by decide +kernel
theorem dX12_odds_26 : decode cX12_odds 26 = .ok (.lstore 5, 2) := by decide +kernel
theorem dX12_odds_28 : decode cX12_odds 28 = .ok (.iconst 0, 1) := by decide +kernel
theorem dX12_odds_29 : decode cX12_odds 29 = .ok (.istore 7, 2) := by decide +kernel
theorem dX12_odds_31 : decode cX12_odds 31 = .ok (.iload 7, 2) := by decide +kernel
theorem dX12_odds_33 : decode cX12_odds 33 = .ok (.aload_n 0, 1) := by decide +kernel
theorem dX12_odds_34 : decode cX12_odds 34 = .ok (.getfield 74, 3) := by decide +kernel
theorem dX12_odds_37 : decode cX12_odds 37 = .ok (.if_icmp .ge 17, 3) := by decide +kernel
theorem dX12_odds_40 : decode cX12_odds 40 = .ok (.lload 5, 2) := by decide +kernel
theorem dX12_odds_42 : decode cX12_odds 42 = .ok (.ldc2_w 252, 3) := by decide +kernel
theorem dX12_odds_45 : decode cX12_odds 45 = .ok (.lmul, 1) := by decide +kernel
theorem dX12_odds_46 : decode cX12_odds 46 = .ok (.lstore 5, 2) := by decide +kernel
theorem dX12_odds_48 : decode cX12_odds 48 = .ok (.iinc 7 1, 3) := by decide +kernel
theorem dX12_odds_51 : decode cX12_odds 51 = .ok (.goto (-20), 3) := by decide +kernel
theorem dX12_odds_54 : decode cX12_odds 54 = .ok (.iconst 0, 1) := by decide +kernel
theorem dX12_odds_55 : decode cX12_odds 55 = .ok (.istore 7, 2) := by decide +kernel
theorem dX12_odds_57 : decode cX12_odds 57 = .ok (.iload 7, 2) := by decide +kernel
theorem dX12_odds_59 : decode cX12_odds 59 = .ok (.iconst 1, 1) := by decide +kernel
theorem dX12_odds_60 : decode cX12_odds 60 = .ok (.aload_n 0, 1) := by decide +kernel
theorem dX12_odds_61 : decode cX12_odds 61 = .ok (.getfield 74, 3) := by decide +kernel
theorem dX12_odds_64 : decode cX12_odds 64 = .ok (.ishl, 1) := by decide +kernel
theorem dX12_odds_65 : decode cX12_odds 65 = .ok (.if_icmp .ge 74, 3) := by decide +kernel
theorem dX12_odds_68 : decode cX12_odds 68 = .ok (.lconst 1, 1) := by decide +kernel
theorem dX12_odds_69 : decode cX12_odds 69 = .ok (.lstore 8, 2) := by decide +kernel
theorem dX12_odds_71 : decode cX12_odds 71 = .ok (.iconst 0, 1) := by decide +kernel
theorem dX12_odds_72 : decode cX12_odds 72 = .ok (.istore 10, 2) := by decide +kernel
theorem dX12_odds_74 : decode cX12_odds 74 = .ok (.iload 10, 2) := by decide +kernel
theorem dX12_odds_76 : decode cX12_odds 76 = .ok (.aload_n 0, 1) := by decide +kernel
theorem dX12_odds_77 : decode cX12_odds 77 = .ok (.getfield 74, 3) := by decide +kernel
theorem dX12_odds_80 : decode cX12_odds 80 = .ok (.if_icmp .ge 34, 3) := by decide +kernel
theorem dX12_odds_83 : decode cX12_odds 83 = .ok (.lload 8, 2) := by decide +kernel
theorem dX12_odds_85 : decode cX12_odds 85 = .ok (.iload 7, 2) := by decide +kernel
theorem dX12_odds_87 : decode cX12_odds 87 = .ok (.iload 10, 2) := by decide +kernel
theorem dX12_odds_89 : decode cX12_odds 89 = .ok (.invokestatic 243, 3) := by decide +kernel
theorem dX12_odds_92 : decode cX12_odds 92 = .ok (.ifCond .eq 8, 3) := by decide +kernel
theorem dX12_odds_95 : decode cX12_odds 95 = .ok (.iload_n 2, 1) := by decide +kernel
theorem dX12_odds_96 : decode cX12_odds 96 = .ok (.i2l, 1) := by decide +kernel
theorem dX12_odds_97 : decode cX12_odds 97 = .ok (.goto 8, 3) := by decide +kernel
theorem dX12_odds_100 : decode cX12_odds 100 = .ok (.bipush 10, 2) := by decide +kernel
theorem dX12_odds_102 : decode cX12_odds 102 = .ok (.iload_n 2, 1) := by decide +kernel
theorem dX12_odds_103 : decode cX12_odds 103 = .ok (.isub, 1) := by decide +kernel
theorem dX12_odds_104 : decode cX12_odds 104 = .ok (.i2l, 1) := by decide +kernel
theorem dX12_odds_105 : decode cX12_odds 105 = .ok (.lmul, 1) := by decide +kernel
theorem dX12_odds_106 : decode cX12_odds 106 = .ok (.lstore 8, 2) := by decide +kernel
theorem dX12_odds_108 : decode cX12_odds 108 = .ok (.iinc 10 1, 3) := by decide +kernel
theorem dX12_odds_111 : decode cX12_odds 111 = .ok (.goto (-37), 3) := by decide +kernel
theorem dX12_odds_114 : decode cX12_odds 114 = .ok (.lload_n 3, 1) := by decide +kernel
theorem dX12_odds_115 : decode cX12_odds 115 = .ok (.aload_n 0, 1) := by decide +kernel
theorem dX12_odds_116 : decode cX12_odds 116 = .ok (.iload 7, 2) := by decide +kernel
theorem dX12_odds_118 : decode cX12_odds 118 = .ok (.invokevirtual 231, 3) := by decide +kernel
theorem dX12_odds_121 : decode cX12_odds 121 = .ok (.iload_n 1, 1) := by decide +kernel
theorem dX12_odds_122 : decode cX12_odds 122 = .ok (.if_icmp .ne 8, 3) := by decide +kernel
theorem dX12_odds_125 : decode cX12_odds 125 = .ok (.lload 8, 2) := by decide +kernel
theorem dX12_odds_127 : decode cX12_odds 127 = .ok (.goto 4, 3) := by decide +kernel
theorem dX12_odds_130 : decode cX12_odds 130 = .ok (.lconst 0, 1) := by decide +kernel
theorem dX12_odds_131 : decode cX12_odds 131 = .ok (.ladd, 1) := by decide +kernel
theorem dX12_odds_132 : decode cX12_odds 132 = .ok (.lstore_n 3, 1) := by decide +kernel
theorem dX12_odds_133 : decode cX12_odds 133 = .ok (.iinc 7 1, 3) := by decide +kernel
theorem dX12_odds_136 : decode cX12_odds 136 = .ok (.goto (-79), 3) := by decide +kernel
theorem dX12_odds_139 : decode cX12_odds 139 = .ok (.aload_n 0, 1) := by decide +kernel
theorem dX12_odds_140 : decode cX12_odds 140 = .ok (.lload_n 3, 1) := by decide +kernel
theorem dX12_odds_141 : decode cX12_odds 141 = .ok (.lload 5, 2) := by decide +kernel
theorem dX12_odds_143 : decode cX12_odds 143 = .ok (.invokevirtual 254, 3) := by decide +kernel
theorem dX12_odds_146 : decode cX12_odds 146 = .ok (.iconst 1, 1) := by decide +kernel
theorem dX12_odds_147 : decode cX12_odds 147 = .ok (.ireturn, 1) := by decide +kernel
theorem dX12_voyages_0 : decode cX12_voyages 0 = .ok (.iload_n 1, 1) := by decide +kernel
theorem dX12_voyages_1 : decode cX12_voyages 1 = .ok (.iconst 0, 1) := by decide +kernel
theorem dX12_voyages_2 : decode cX12_voyages 2 = .ok (.ldc_w 258, 3) := by decide +kernel
theorem dX12_voyages_5 : decode cX12_voyages 5 = .ok (.invokestatic 93, 3) := by decide +kernel
theorem dX12_voyages_8 : decode cX12_voyages 8 = .ok (.ifCond .eq 13, 3) := by decide +kernel
theorem dX12_voyages_11 : decode cX12_voyages 11 = .ok (.iload_n 2, 1) := by decide +kernel
theorem dX12_voyages_12 : decode cX12_voyages 12 = .ok (.iconst 0, 1) := by decide +kernel
theorem dX12_voyages_13 : decode cX12_voyages 13 = .ok (.bipush 60, 2) := by decide +kernel
theorem dX12_voyages_15 : decode cX12_voyages 15 = .ok (.invokestatic 93, 3) := by decide +kernel
theorem dX12_voyages_18 : decode cX12_voyages 18 = .ok (.ifCond .ne 8, 3) := by decide +kernel
theorem dX12_voyages_21 : decode cX12_voyages 21 = .ok (.aload_n 0, 1) := by decide +kernel
theorem dX12_voyages_22 : decode cX12_voyages 22 = .ok (.invokevirtual 211, 3) := by decide +kernel
theorem dX12_voyages_25 : decode cX12_voyages 25 = .ok (.ireturn, 1) := by decide +kernel
theorem dX12_voyages_26 : decode cX12_voyages 26 = .ok (.aload_n 0, 1) := by decide +kernel
theorem dX12_voyages_27 : decode cX12_voyages 27 = .ok (.invokevirtual 214, 3) := by decide +kernel
theorem dX12_voyages_30 : decode cX12_voyages 30 = .ok (.iload_n 1, 1) := by decide +kernel
theorem dX12_voyages_31 : decode cX12_voyages 31 = .ok (.i2l, 1) := by decide +kernel
theorem dX12_voyages_32 : decode cX12_voyages 32 = .ok (.lstore_n 3, 1) := by decide +kernel
theorem dX12_voyages_33 : decode cX12_voyages 33 = .ok (.iconst 0, 1) := by decide +kernel
theorem dX12_voyages_34 : decode cX12_voyages 34 = .ok (.istore 5, 2) := by decide +kernel
theorem dX12_voyages_36 : decode cX12_voyages 36 = .ok (.iload 5, 2) := by decide +kernel
theorem dX12_voyages_38 : decode cX12_voyages 38 = .ok (.iload_n 2, 1) := by decide +kernel
theorem dX12_voyages_39 : decode cX12_voyages 39 = .ok (.if_icmp .ge 77, 3) := by decide +kernel
theorem dX12_voyages_42 : decode cX12_voyages 42 = .ok (.lload_n 3, 1) := by decide +kernel
theorem dX12_voyages_43 : decode cX12_voyages 43 = .ok (.ldc2_w 259, 3) := by decide +kernel
theorem dX12_voyages_46 : decode cX12_voyages 46 = .ok (.lmul, 1) := by decide +kernel
theorem dX12_voyages_47 : decode cX12_voyages 47 = .ok (.ldc2_w 261, 3) := by decide +kernel
theorem dX12_voyages_50 : decode cX12_voyages 50 = .ok (.ladd, 1) := by decide +kernel
theorem dX12_voyages_51 : decode cX12_voyages 51 = .ok (.ldc2_w 263, 3) := by decide +kernel
theorem dX12_voyages_54 : decode cX12_voyages 54 = .ok (.lrem, 1) := by decide +kernel
theorem dX12_voyages_55 : decode cX12_voyages 55 = .ok (.lstore_n 3, 1) := by decide +kernel
theorem dX12_voyages_56 : decode cX12_voyages 56 = .ok (.lload_n 3, 1) := by decide +kernel
theorem dX12_voyages_57 : decode cX12_voyages 57 = .ok (.ldc2_w 265, 3) := by decide +kernel
theorem dX12_voyages_60 : decode cX12_voyages 60 = .ok (.ldiv, 1) := by decide +kernel
theorem dX12_voyages_61 : decode cX12_voyages 61 = .ok (.ldc2_w 267, 3) := by decide +kernel
theorem dX12_voyages_64 : decode cX12_voyages 64 = .ok (.lrem, 1) := by decide +kernel
theorem dX12_voyages_65 : decode cX12_voyages 65 = .ok (.l2i, 1) := by decide +kernel
theorem dX12_voyages_66 : decode cX12_voyages 66 = .ok (.istore 6, 2) := by decide +kernel
theorem dX12_voyages_68 : decode cX12_voyages 68 = .ok (.iconst 0, 1) := by decide +kernel
theorem dX12_voyages_69 : decode cX12_voyages 69 = .ok (.istore 7, 2) := by decide +kernel
theorem dX12_voyages_71 : decode cX12_voyages 71 = .ok (.iload 7, 2) := by decide +kernel
theorem dX12_voyages_73 : decode cX12_voyages 73 = .ok (.aload_n 0, 1) := by decide +kernel
theorem dX12_voyages_74 : decode cX12_voyages 74 = .ok (.getfield 74, 3) := by decide +kernel
theorem dX12_voyages_77 : decode cX12_voyages 77 = .ok (.if_icmp .ge 28, 3) := by decide +kernel
theorem dX12_voyages_80 : decode cX12_voyages 80 = .ok (.aload_n 0, 1) := by decide +kernel
theorem dX12_voyages_81 : decode cX12_voyages 81 = .ok (.getfield 22, 3) := by decide +kernel
theorem dX12_voyages_84 : decode cX12_voyages 84 = .ok (.iload 7, 2) := by decide +kernel
theorem dX12_voyages_86 : decode cX12_voyages 86 = .ok (.iload 7, 2) := by decide +kernel
theorem dX12_voyages_88 : decode cX12_voyages 88 = .ok (.iload 6, 2) := by decide +kernel
theorem dX12_voyages_90 : decode cX12_voyages 90 = .ok (.if_icmp .ne 7, 3) := by decide +kernel
theorem dX12_voyages_93 : decode cX12_voyages 93 = .ok (.iconst 1, 1) := by decide +kernel
theorem dX12_voyages_94 : decode cX12_voyages 94 = .ok (.goto 4, 3) := by decide +kernel
theorem dX12_voyages_97 : decode cX12_voyages 97 = .ok (.iconst 0, 1) := by decide +kernel
theorem dX12_voyages_98 : decode cX12_voyages 98 = .ok (.iastore, 1) := by decide +kernel
theorem dX12_voyages_99 : decode cX12_voyages 99 = .ok (.iinc 7 1, 3) := by decide +kernel
theorem dX12_voyages_102 : decode cX12_voyages 102 = .ok (.goto (-31), 3) := by decide +kernel
theorem dX12_voyages_105 : decode cX12_voyages 105 = .ok (.aload_n 0, 1) := by decide +kernel
theorem dX12_voyages_106 : decode cX12_voyages 106 = .ok (.invokevirtual 205, 3) := by decide +kernel
theorem dX12_voyages_109 : decode cX12_voyages 109 = .ok (.pop, 1) := by decide +kernel
theorem dX12_voyages_110 : decode cX12_voyages 110 = .ok (.iinc 5 1, 3) := by decide +kernel
theorem dX12_voyages_113 : decode cX12_voyages 113 = .ok (.goto (-77), 3) := by decide +kernel
theorem dX12_voyages_116 : decode cX12_voyages 116 = .ok (.aload_n 0, 1) := by decide +kernel
theorem dX12_voyages_117 : decode cX12_voyages 117 = .ok (.getfield 78, 3) := by decide +kernel
theorem dX12_voyages_120 : decode cX12_voyages 120 = .ok (.istore 5, 2) := by decide +kernel
theorem dX12_voyages_122 : decode cX12_voyages 122 = .ok (.aload_n 0, 1) := by decide +kernel
theorem dX12_voyages_123 : decode cX12_voyages 123 = .ok (.invokevirtual 221, 3) := by decide +kernel
theorem dX12_voyages_126 : decode cX12_voyages 126 = .ok (.iload 5, 2) := by decide +kernel
theorem dX12_voyages_128 : decode cX12_voyages 128 = .ok (.ireturn, 1) := by decide +kernel
theorem dX12_part_0 : decode cX12_part 0 = .ok (.iload_n 1, 1) := by decide +kernel
theorem dX12_part_1 : decode cX12_part 1 = .ok (.ifCond .ne 10, 3) := by decide +kernel
theorem dX12_part_4 : decode cX12_part 4 = .ok (.aload_n 0, 1) := by decide +kernel
theorem dX12_part_5 : decode cX12_part 5 = .ok (.getfield 249, 3) := by decide +kernel
theorem dX12_part_8 : decode cX12_part 8 = .ok (.goto 20, 3) := by decide +kernel
theorem dX12_part_11 : decode cX12_part 11 = .ok (.iload_n 1, 1) := by decide +kernel
theorem dX12_part_12 : decode cX12_part 12 = .ok (.iconst 1, 1) := by decide +kernel
theorem dX12_part_13 : decode cX12_part 13 = .ok (.if_icmp .ne 10, 3) := by decide +kernel
theorem dX12_part_16 : decode cX12_part 16 = .ok (.aload_n 0, 1) := by decide +kernel
theorem dX12_part_17 : decode cX12_part 17 = .ok (.getfield 61, 3) := by decide +kernel
theorem dX12_part_20 : decode cX12_part 20 = .ok (.goto 8, 3) := by decide +kernel
theorem dX12_part_23 : decode cX12_part 23 = .ok (.aload_n 0, 1) := by decide +kernel
theorem dX12_part_24 : decode cX12_part 24 = .ok (.invokevirtual 97, 3) := by decide +kernel
theorem dX12_part_27 : decode cX12_part 27 = .ok (.i2l, 1) := by decide +kernel
theorem dX12_part_28 : decode cX12_part 28 = .ok (.lreturn, 1) := by decide +kernel
theorem dX12_image_0 : decode cX12_image 0 = .ok (.iload_n 1, 1) := by decide +kernel
theorem dX12_image_1 : decode cX12_image 1 = .ok (.iconst 0, 1) := by decide +kernel
theorem dX12_image_2 : decode cX12_image 2 = .ok (.iconst 1, 1) := by decide +kernel
theorem dX12_image_3 : decode cX12_image 3 = .ok (.invokestatic 93, 3) := by decide +kernel
theorem dX12_image_6 : decode cX12_image 6 = .ok (.ifCond .ne 8, 3) := by decide +kernel
theorem dX12_image_9 : decode cX12_image 9 = .ok (.aload_n 0, 1) := by decide +kernel
theorem dX12_image_10 : decode cX12_image 10 = .ok (.invokevirtual 97, 3) := by decide +kernel
theorem dX12_image_13 : decode cX12_image 13 = .ok (.ireturn, 1) := by decide +kernel
theorem dX12_image_14 : decode cX12_image 14 = .ok (.sipush 160, 3) := by decide +kernel
theorem dX12_image_17 : decode cX12_image 17 = .ok (.iload_n 1, 1) := by decide +kernel
theorem dX12_image_18 : decode cX12_image 18 = .ok (.imul, 1) := by decide +kernel
theorem dX12_image_19 : decode cX12_image 19 = .ok (.istore_n 2, 1) := by decide +kernel
theorem dX12_image_20 : decode cX12_image 20 = .ok (.aload_n 0, 1) := by decide +kernel
theorem dX12_image_21 : decode cX12_image 21 = .ok (.getfield 68, 3) := by decide +kernel
theorem dX12_image_24 : decode cX12_image 24 = .ok (.iload_n 1, 1) := by decide +kernel
theorem dX12_image_25 : decode cX12_image 25 = .ok (.iconst 1, 1) := by decide +kernel
theorem dX12_image_26 : decode cX12_image 26 = .ok (.iastore, 1) := by decide +kernel
theorem dX12_image_27 : decode cX12_image 27 = .ok (.aload_n 0, 1) := by decide +kernel
theorem dX12_image_28 : decode cX12_image 28 = .ok (.getfield 65, 3) := by decide +kernel
theorem dX12_image_31 : decode cX12_image 31 = .ok (.iload_n 2, 1) := by decide +kernel
theorem dX12_image_32 : decode cX12_image 32 = .ok (.aload_n 0, 1) := by decide +kernel
theorem dX12_image_33 : decode cX12_image 33 = .ok (.getfield 74, 3) := by decide +kernel
theorem dX12_image_36 : decode cX12_image 36 = .ok (.iastore, 1) := by decide +kernel
theorem dX12_image_37 : decode cX12_image 37 = .ok (.aload_n 0, 1) := by decide +kernel
theorem dX12_image_38 : decode cX12_image 38 = .ok (.getfield 65, 3) := by decide +kernel
theorem dX12_image_41 : decode cX12_image 41 = .ok (.iload_n 2, 1) := by decide +kernel
theorem dX12_image_42 : decode cX12_image 42 = .ok (.iconst 1, 1) := by decide +kernel
theorem dX12_image_43 : decode cX12_image 43 = .ok (.iadd, 1) := by decide +kernel
theorem dX12_image_44 : decode cX12_image 44 = .ok (.aload_n 0, 1) := by decide +kernel
theorem dX12_image_45 : decode cX12_image 45 = .ok (.getfield 84, 3) := by decide +kernel
theorem dX12_image_48 : decode cX12_image 48 = .ok (.iastore, 1) := by decide +kernel
theorem dX12_image_49 : decode cX12_image 49 = .ok (.aload_n 0, 1) := by decide +kernel
theorem dX12_image_50 : decode cX12_image 50 = .ok (.getfield 65, 3) := by decide +kernel
theorem dX12_image_53 : decode cX12_image 53 = .ok (.iload_n 2, 1) := by decide +kernel
theorem dX12_image_54 : decode cX12_image 54 = .ok (.iconst 2, 1) := by decide +kernel
theorem dX12_image_55 : decode cX12_image 55 = .ok (.iadd, 1) := by decide +kernel
theorem dX12_image_56 : decode cX12_image 56 = .ok (.aload_n 0, 1) := by decide +kernel
theorem dX12_image_57 : decode cX12_image 57 = .ok (.getfield 87, 3) := by decide +kernel
theorem dX12_image_60 : decode cX12_image 60 = .ok (.iastore, 1) := by decide +kernel
theorem dX12_image_61 : decode cX12_image 61 = .ok (.aload_n 0, 1) := by decide +kernel
theorem dX12_image_62 : decode cX12_image 62 = .ok (.getfield 65, 3) := by decide +kernel
theorem dX12_image_65 : decode cX12_image 65 = .ok (.iload_n 2, 1) := by decide +kernel
theorem dX12_image_66 : decode cX12_image 66 = .ok (.iconst 3, 1) := by decide +kernel
theorem dX12_image_67 : decode cX12_image 67 = .ok (.iadd, 1) := by decide +kernel
theorem dX12_image_68 : decode cX12_image 68 = .ok (.aload_n 0, 1) := by decide +kernel
theorem dX12_image_69 : decode cX12_image 69 = .ok (.getfield 90, 3) := by decide +kernel
theorem dX12_image_72 : decode cX12_image 72 = .ok (.iastore, 1) := by decide +kernel
theorem dX12_image_73 : decode cX12_image 73 = .ok (.aload_n 0, 1) := by decide +kernel
theorem dX12_image_74 : decode cX12_image 74 = .ok (.aload_n 0, 1) := by decide +kernel
theorem dX12_image_75 : decode cX12_image 75 = .ok (.getfield 65, 3) := by decide +kernel
theorem dX12_image_78 : decode cX12_image 78 = .ok (.iload_n 2, 1) := by decide +kernel
theorem dX12_image_79 : decode cX12_image 79 = .ok (.iconst 4, 1) := by decide +kernel
theorem dX12_image_80 : decode cX12_image 80 = .ok (.iadd, 1) := by decide +kernel
theorem dX12_image_81 : decode cX12_image 81 = .ok (.invokevirtual 192, 3) := by decide +kernel
theorem dX12_image_84 : decode cX12_image 84 = .ok (.iconst 0, 1) := by decide +kernel
theorem dX12_image_85 : decode cX12_image 85 = .ok (.istore_n 3, 1) := by decide +kernel
theorem dX12_image_86 : decode cX12_image 86 = .ok (.iload_n 3, 1) := by decide +kernel
theorem dX12_image_87 : decode cX12_image 87 = .ok (.bipush 6, 2) := by decide +kernel
theorem dX12_image_89 : decode cX12_image 89 = .ok (.if_icmp .ge 94, 3) := by decide +kernel
theorem dX12_image_92 : decode cX12_image 92 = .ok (.aload_n 0, 1) := by decide +kernel
theorem dX12_image_93 : decode cX12_image 93 = .ok (.getfield 65, 3) := by decide +kernel
theorem dX12_image_96 : decode cX12_image 96 = .ok (.iload_n 2, 1) := by decide +kernel
theorem dX12_image_97 : decode cX12_image 97 = .ok (.bipush 18, 2) := by decide +kernel
theorem dX12_image_99 : decode cX12_image 99 = .ok (.iadd, 1) := by decide +kernel
theorem dX12_image_100 : decode cX12_image 100 = .ok (.iload_n 3, 1) := by decide +kernel
theorem dX12_image_101 : decode cX12_image 101 = .ok (.iadd, 1) := by decide +kernel
theorem dX12_image_102 : decode cX12_image 102 = .ok (.aload_n 0, 1) := by decide +kernel
theorem dX12_image_103 : decode cX12_image 103 = .ok (.getfield 13, 3) := by decide +kernel
theorem dX12_image_106 : decode cX12_image 106 = .ok (.iload_n 3, 1) := by decide +kernel
theorem dX12_image_107 : decode cX12_image 107 = .ok (.iaload, 1) := by decide +kernel
theorem dX12_image_108 : decode cX12_image 108 = .ok (.iastore, 1) := by decide +kernel
theorem dX12_image_109 : decode cX12_image 109 = .ok (.aload_n 0, 1) := by decide +kernel
theorem dX12_image_110 : decode cX12_image 110 = .ok (.getfield 65, 3) := by decide +kernel
theorem dX12_image_113 : decode cX12_image 113 = .ok (.iload_n 2, 1) := by decide +kernel
theorem dX12_image_114 : decode cX12_image 114 = .ok (.bipush 24, 2) := by decide +kernel
theorem dX12_image_116 : decode cX12_image 116 = .ok (.iadd, 1) := by decide +kernel
theorem dX12_image_117 : decode cX12_image 117 = .ok (.iload_n 3, 1) := by decide +kernel
theorem dX12_image_118 : decode cX12_image 118 = .ok (.iadd, 1) := by decide +kernel
theorem dX12_image_119 : decode cX12_image 119 = .ok (.aload_n 0, 1) := by decide +kernel
theorem dX12_image_120 : decode cX12_image 120 = .ok (.getfield 19, 3) := by decide +kernel
theorem dX12_image_123 : decode cX12_image 123 = .ok (.iload_n 3, 1) := by decide +kernel
theorem dX12_image_124 : decode cX12_image 124 = .ok (.iaload, 1) := by decide +kernel
theorem dX12_image_125 : decode cX12_image 125 = .ok (.iastore, 1) := by decide +kernel
theorem dX12_image_126 : decode cX12_image 126 = .ok (.aload_n 0, 1) := by decide +kernel
theorem dX12_image_127 : decode cX12_image 127 = .ok (.getfield 65, 3) := by decide +kernel
theorem dX12_image_130 : decode cX12_image 130 = .ok (.iload_n 2, 1) := by decide +kernel
theorem dX12_image_131 : decode cX12_image 131 = .ok (.bipush 30, 2) := by decide +kernel
theorem dX12_image_133 : decode cX12_image 133 = .ok (.iadd, 1) := by decide +kernel
theorem dX12_image_134 : decode cX12_image 134 = .ok (.iload_n 3, 1) := by decide +kernel
theorem dX12_image_135 : decode cX12_image 135 = .ok (.iadd, 1) := by decide +kernel
theorem dX12_image_136 : decode cX12_image 136 = .ok (.aload_n 0, 1) := by decide +kernel
theorem dX12_image_137 : decode cX12_image 137 = .ok (.getfield 25, 3) := by decide +kernel
theorem dX12_image_140 : decode cX12_image 140 = .ok (.iload_n 3, 1) := by decide +kernel
theorem dX12_image_141 : decode cX12_image 141 = .ok (.iaload, 1) := by decide +kernel
theorem dX12_image_142 : decode cX12_image 142 = .ok (.iastore, 1) := by decide +kernel
theorem dX12_image_143 : decode cX12_image 143 = .ok (.aload_n 0, 1) := by decide +kernel
theorem dX12_image_144 : decode cX12_image 144 = .ok (.getfield 65, 3) := by decide +kernel
theorem dX12_image_147 : decode cX12_image 147 = .ok (.iload_n 2, 1) := by decide +kernel
theorem dX12_image_148 : decode cX12_image 148 = .ok (.bipush 36, 2) := by decide +kernel
theorem dX12_image_150 : decode cX12_image 150 = .ok (.iadd, 1) := by decide +kernel
theorem dX12_image_151 : decode cX12_image 151 = .ok (.iload_n 3, 1) := by decide +kernel
theorem dX12_image_152 : decode cX12_image 152 = .ok (.iadd, 1) := by decide +kernel
theorem dX12_image_153 : decode cX12_image 153 = .ok (.aload_n 0, 1) := by decide +kernel
theorem dX12_image_154 : decode cX12_image 154 = .ok (.getfield 28, 3) := by decide +kernel
theorem dX12_image_157 : decode cX12_image 157 = .ok (.iload_n 3, 1) := by decide +kernel
theorem dX12_image_158 : decode cX12_image 158 = .ok (.iaload, 1) := by decide +kernel
theorem dX12_image_159 : decode cX12_image 159 = .ok (.iastore, 1) := by decide +kernel
theorem dX12_image_160 : decode cX12_image 160 = .ok (.aload_n 0, 1) := by decide +kernel
theorem dX12_image_161 : decode cX12_image 161 = .ok (.getfield 65, 3) := by decide +kernel
theorem dX12_image_164 : decode cX12_image 164 = .ok (.iload_n 2, 1) := by decide +kernel
theorem dX12_image_165 : decode cX12_image 165 = .ok (.bipush 42, 2) := by decide +kernel
theorem dX12_image_167 : decode cX12_image 167 = .ok (.iadd, 1) := by decide +kernel
theorem dX12_image_168 : decode cX12_image 168 = .ok (.iload_n 3, 1) := by decide +kernel
theorem dX12_image_169 : decode cX12_image 169 = .ok (.iadd, 1) := by decide +kernel
theorem dX12_image_170 : decode cX12_image 170 = .ok (.aload_n 0, 1) := by decide +kernel
theorem dX12_image_171 : decode cX12_image 171 = .ok (.getfield 31, 3) := by decide +kernel
theorem dX12_image_174 : decode cX12_image 174 = .ok (.iload_n 3, 1) := by decide +kernel
theorem dX12_image_175 : decode cX12_image 175 = .ok (.iaload, 1) := by decide +kernel
theorem dX12_image_176 : decode cX12_image 176 = .ok (.iastore, 1) := by decide +kernel
theorem dX12_image_177 : decode cX12_image 177 = .ok (.iinc 3 1, 3) := by decide +kernel
theorem dX12_image_180 : decode cX12_image 180 = .ok (.goto (-94), 3) := by decide +kernel
theorem dX12_image_183 : decode cX12_image 183 = .ok (.iconst 0, 1) := by decide +kernel
theorem dX12_image_184 : decode cX12_image 184 = .ok (.istore_n 3, 1) := by decide +kernel
theorem dX12_image_185 : decode cX12_image 185 = .ok (.iload_n 3, 1) := by decide +kernel
theorem dX12_image_186 : decode cX12_image 186 = .ok (.bipush 112, 2) := by decide +kernel
theorem dX12_image_188 : decode cX12_image 188 = .ok (.if_icmp .ge 26, 3) := by decide +kernel
theorem dX12_image_191 : decode cX12_image 191 = .ok (.aload_n 0, 1) := by decide +kernel
theorem dX12_image_192 : decode cX12_image 192 = .ok (.getfield 65, 3) := by decide +kernel
theorem dX12_image_195 : decode cX12_image 195 = .ok (.iload_n 2, 1) := by decide +kernel
theorem dX12_image_196 : decode cX12_image 196 = .ok (.bipush 48, 2) := by decide +kernel
theorem dX12_image_198 : decode cX12_image 198 = .ok (.iadd, 1) := by decide +kernel
theorem dX12_image_199 : decode cX12_image 199 = .ok (.iload_n 3, 1) := by decide +kernel
theorem dX12_image_200 : decode cX12_image 200 = .ok (.iadd, 1) := by decide +kernel
theorem dX12_image_201 : decode cX12_image 201 = .ok (.aload_n 0, 1) := by decide +kernel
theorem dX12_image_202 : decode cX12_image 202 = .ok (.getfield 43, 3) := by decide +kernel
theorem dX12_image_205 : decode cX12_image 205 = .ok (.iload_n 3, 1) := by decide +kernel
theorem dX12_image_206 : decode cX12_image 206 = .ok (.iaload, 1) := by decide +kernel
theorem dX12_image_207 : decode cX12_image 207 = .ok (.iastore, 1) := by decide +kernel
theorem dX12_image_208 : decode cX12_image 208 = .ok (.iinc 3 1, 3) := by decide +kernel
theorem dX12_image_211 : decode cX12_image 211 = .ok (.goto (-26), 3) := by decide +kernel
theorem dX12_image_214 : decode cX12_image 214 = .ok (.iconst 1, 1) := by decide +kernel
theorem dX12_image_215 : decode cX12_image 215 = .ok (.ireturn, 1) := by decide +kernel
theorem dX12_from_0 : decode cX12_from 0 = .ok (.iload_n 1, 1) := by decide +kernel
theorem dX12_from_1 : decode cX12_from 1 = .ok (.iconst 0, 1) := by decide +kernel
theorem dX12_from_2 : decode cX12_from 2 = .ok (.iconst 1, 1) := by decide +kernel
theorem dX12_from_3 : decode cX12_from 3 = .ok (.invokestatic 93, 3) := by decide +kernel
theorem dX12_from_6 : decode cX12_from 6 = .ok (.ifCond .ne 8, 3) := by decide +kernel
theorem dX12_from_9 : decode cX12_from 9 = .ok (.aload_n 0, 1) := by decide +kernel
theorem dX12_from_10 : decode cX12_from 10 = .ok (.invokevirtual 97, 3) := by decide +kernel
theorem dX12_from_13 : decode cX12_from 13 = .ok (.ireturn, 1) := by decide +kernel
theorem dX12_from_14 : decode cX12_from 14 = .ok (.aload_n 0, 1) := by decide +kernel
theorem dX12_from_15 : decode cX12_from 15 = .ok (.getfield 68, 3) := by decide +kernel
theorem dX12_from_18 : decode cX12_from 18 = .ok (.iload_n 1, 1) := by decide +kernel
theorem dX12_from_19 : decode cX12_from 19 = .ok (.iaload, 1) := by decide +kernel
theorem dX12_from_20 : decode cX12_from 20 = .ok (.ifCond .ne 8, 3) := by decide +kernel
theorem dX12_from_23 : decode cX12_from 23 = .ok (.aload_n 0, 1) := by decide +kernel
theorem dX12_from_24 : decode cX12_from 24 = .ok (.invokevirtual 105, 3) := by decide +kernel
theorem dX12_from_27 : decode cX12_from 27 = .ok (.ireturn, 1) := by decide +kernel
theorem dX12_from_28 : decode cX12_from 28 = .ok (.sipush 160, 3) := by decide +kernel
theorem dX12_from_31 : decode cX12_from 31 = .ok (.iload_n 1, 1) := by decide +kernel
theorem dX12_from_32 : decode cX12_from 32 = .ok (.imul, 1) := by decide +kernel
theorem dX12_from_33 : decode cX12_from 33 = .ok (.istore_n 2, 1) := by decide +kernel
theorem dX12_from_34 : decode cX12_from 34 = .ok (.aload_n 0, 1) := by decide +kernel
theorem dX12_from_35 : decode cX12_from 35 = .ok (.aload_n 0, 1) := by decide +kernel
theorem dX12_from_36 : decode cX12_from 36 = .ok (.getfield 65, 3) := by decide +kernel
theorem dX12_from_39 : decode cX12_from 39 = .ok (.iload_n 2, 1) := by decide +kernel
theorem dX12_from_40 : decode cX12_from 40 = .ok (.iaload, 1) := by decide +kernel
theorem dX12_from_41 : decode cX12_from 41 = .ok (.putfield 74, 3) := by decide +kernel
theorem dX12_from_44 : decode cX12_from 44 = .ok (.aload_n 0, 1) := by decide +kernel
theorem dX12_from_45 : decode cX12_from 45 = .ok (.aload_n 0, 1) := by decide +kernel
theorem dX12_from_46 : decode cX12_from 46 = .ok (.getfield 65, 3) := by decide +kernel
theorem dX12_from_49 : decode cX12_from 49 = .ok (.iload_n 2, 1) := by decide +kernel
theorem dX12_from_50 : decode cX12_from 50 = .ok (.iconst 1, 1) := by decide +kernel
theorem dX12_from_51 : decode cX12_from 51 = .ok (.iadd, 1) := by decide +kernel
theorem dX12_from_52 : decode cX12_from 52 = .ok (.iaload, 1) := by decide +kernel
theorem dX12_from_53 : decode cX12_from 53 = .ok (.putfield 84, 3) := by decide +kernel
theorem dX12_from_56 : decode cX12_from 56 = .ok (.aload_n 0, 1) := by decide +kernel
theorem dX12_from_57 : decode cX12_from 57 = .ok (.aload_n 0, 1) := by decide +kernel
theorem dX12_from_58 : decode cX12_from 58 = .ok (.getfield 65, 3) := by decide +kernel
theorem dX12_from_61 : decode cX12_from 61 = .ok (.iload_n 2, 1) := by decide +kernel
theorem dX12_from_62 : decode cX12_from 62 = .ok (.iconst 2, 1) := by decide +kernel
theorem dX12_from_63 : decode cX12_from 63 = .ok (.iadd, 1) := by decide +kernel
theorem dX12_from_64 : decode cX12_from 64 = .ok (.iaload, 1) := by decide +kernel
theorem dX12_from_65 : decode cX12_from 65 = .ok (.putfield 87, 3) := by decide +kernel
theorem dX12_from_68 : decode cX12_from 68 = .ok (.aload_n 0, 1) := by decide +kernel
theorem dX12_from_69 : decode cX12_from 69 = .ok (.aload_n 0, 1) := by decide +kernel
theorem dX12_from_70 : decode cX12_from 70 = .ok (.getfield 65, 3) := by decide +kernel
theorem dX12_from_73 : decode cX12_from 73 = .ok (.iload_n 2, 1) := by decide +kernel
theorem dX12_from_74 : decode cX12_from 74 = .ok (.iconst 3, 1) := by decide +kernel
theorem dX12_from_75 : decode cX12_from 75 = .ok (.iadd, 1) := by decide +kernel
theorem dX12_from_76 : decode cX12_from 76 = .ok (.iaload, 1) := by decide +kernel
theorem dX12_from_77 : decode cX12_from 77 = .ok (.putfield 90, 3) := by decide +kernel
theorem dX12_from_80 : decode cX12_from 80 = .ok (.aload_n 0, 1) := by decide +kernel
theorem dX12_from_81 : decode cX12_from 81 = .ok (.aload_n 0, 1) := by decide +kernel
theorem dX12_from_82 : decode cX12_from 82 = .ok (.getfield 65, 3) := by decide +kernel
theorem dX12_from_85 : decode cX12_from 85 = .ok (.iload_n 2, 1) := by decide +kernel
theorem dX12_from_86 : decode cX12_from 86 = .ok (.iconst 4, 1) := by decide +kernel
theorem dX12_from_87 : decode cX12_from 87 = .ok (.iadd, 1) := by decide +kernel
theorem dX12_from_88 : decode cX12_from 88 = .ok (.invokevirtual 196, 3) := by decide +kernel
theorem dX12_from_91 : decode cX12_from 91 = .ok (.iconst 0, 1) := by decide +kernel
theorem dX12_from_92 : decode cX12_from 92 = .ok (.istore_n 3, 1) := by decide +kernel
theorem dX12_from_93 : decode cX12_from 93 = .ok (.iload_n 3, 1) := by decide +kernel
theorem dX12_from_94 : decode cX12_from 94 = .ok (.bipush 6, 2) := by decide +kernel
theorem dX12_from_96 : decode cX12_from 96 = .ok (.if_icmp .ge 94, 3) := by decide +kernel
theorem dX12_from_99 : decode cX12_from 99 = .ok (.aload_n 0, 1) := by decide +kernel
theorem dX12_from_100 : decode cX12_from 100 = .ok (.getfield 13, 3) := by decide +kernel
theorem dX12_from_103 : decode cX12_from 103 = .ok (.iload_n 3, 1) := by decide +kernel
theorem dX12_from_104 : decode cX12_from 104 = .ok (.aload_n 0, 1) := by decide +kernel
theorem dX12_from_105 : decode cX12_from 105 = .ok (.getfield 65, 3) := by decide +kernel
theorem dX12_from_108 : decode cX12_from 108 = .ok (.iload_n 2, 1) := by decide +kernel
theorem dX12_from_109 : decode cX12_from 109 = .ok (.bipush 18, 2) := by decide +kernel
theorem dX12_from_111 : decode cX12_from 111 = .ok (.iadd, 1) := by decide +kernel
theorem dX12_from_112 : decode cX12_from 112 = .ok (.iload_n 3, 1) := by decide +kernel
theorem dX12_from_113 : decode cX12_from 113 = .ok (.iadd, 1) := by decide +kernel
theorem dX12_from_114 : decode cX12_from 114 = .ok (.iaload, 1) := by decide +kernel
theorem dX12_from_115 : decode cX12_from 115 = .ok (.iastore, 1) := by decide +kernel
theorem dX12_from_116 : decode cX12_from 116 = .ok (.aload_n 0, 1) := by decide +kernel
theorem dX12_from_117 : decode cX12_from 117 = .ok (.getfield 19, 3) := by decide +kernel
theorem dX12_from_120 : decode cX12_from 120 = .ok (.iload_n 3, 1) := by decide +kernel
theorem dX12_from_121 : decode cX12_from 121 = .ok (.aload_n 0, 1) := by decide +kernel
theorem dX12_from_122 : decode cX12_from 122 = .ok (.getfield 65, 3) := by decide +kernel
theorem dX12_from_125 : decode cX12_from 125 = .ok (.iload_n 2, 1) := by decide +kernel
theorem dX12_from_126 : decode cX12_from 126 = .ok (.bipush 24, 2) := by decide +kernel
theorem dX12_from_128 : decode cX12_from 128 = .ok (.iadd, 1) := by decide +kernel
theorem dX12_from_129 : decode cX12_from 129 = .ok (.iload_n 3, 1) := by decide +kernel
theorem dX12_from_130 : decode cX12_from 130 = .ok (.iadd, 1) := by decide +kernel
theorem dX12_from_131 : decode cX12_from 131 = .ok (.iaload, 1) := by decide +kernel
theorem dX12_from_132 : decode cX12_from 132 = .ok (.iastore, 1) := by decide +kernel
theorem dX12_from_133 : decode cX12_from 133 = .ok (.aload_n 0, 1) := by decide +kernel
theorem dX12_from_134 : decode cX12_from 134 = .ok (.getfield 25, 3) := by decide +kernel
theorem dX12_from_137 : decode cX12_from 137 = .ok (.iload_n 3, 1) := by decide +kernel
theorem dX12_from_138 : decode cX12_from 138 = .ok (.aload_n 0, 1) := by decide +kernel
theorem dX12_from_139 : decode cX12_from 139 = .ok (.getfield 65, 3) := by decide +kernel
theorem dX12_from_142 : decode cX12_from 142 = .ok (.iload_n 2, 1) := by decide +kernel
theorem dX12_from_143 : decode cX12_from 143 = .ok (.bipush 30, 2) := by decide +kernel
theorem dX12_from_145 : decode cX12_from 145 = .ok (.iadd, 1) := by decide +kernel
theorem dX12_from_146 : decode cX12_from 146 = .ok (.iload_n 3, 1) := by decide +kernel
theorem dX12_from_147 : decode cX12_from 147 = .ok (.iadd, 1) := by decide +kernel
theorem dX12_from_148 : decode cX12_from 148 = .ok (.iaload, 1) := by decide +kernel
theorem dX12_from_149 : decode cX12_from 149 = .ok (.iastore, 1) := by decide +kernel
theorem dX12_from_150 : decode cX12_from 150 = .ok (.aload_n 0, 1) := by decide +kernel
theorem dX12_from_151 : decode cX12_from 151 = .ok (.getfield 28, 3) := by decide +kernel
theorem dX12_from_154 : decode cX12_from 154 = .ok (.iload_n 3, 1) := by decide +kernel
theorem dX12_from_155 : decode cX12_from 155 = .ok (.aload_n 0, 1) := by decide +kernel
theorem dX12_from_156 : decode cX12_from 156 = .ok (.getfield 65, 3) := by decide +kernel
theorem dX12_from_159 : decode cX12_from 159 = .ok (.iload_n 2, 1) := by decide +kernel
theorem dX12_from_160 : decode cX12_from 160 = .ok (.bipush 36, 2) := by decide +kernel
theorem dX12_from_162 : decode cX12_from 162 = .ok (.iadd, 1) := by decide +kernel
theorem dX12_from_163 : decode cX12_from 163 = .ok (.iload_n 3, 1) := by decide +kernel
theorem dX12_from_164 : decode cX12_from 164 = .ok (.iadd, 1) := by decide +kernel
theorem dX12_from_165 : decode cX12_from 165 = .ok (.iaload, 1) := by decide +kernel
theorem dX12_from_166 : decode cX12_from 166 = .ok (.iastore, 1) := by decide +kernel
theorem dX12_from_167 : decode cX12_from 167 = .ok (.aload_n 0, 1) := by decide +kernel
theorem dX12_from_168 : decode cX12_from 168 = .ok (.getfield 31, 3) := by decide +kernel
theorem dX12_from_171 : decode cX12_from 171 = .ok (.iload_n 3, 1) := by decide +kernel
theorem dX12_from_172 : decode cX12_from 172 = .ok (.aload_n 0, 1) := by decide +kernel
theorem dX12_from_173 : decode cX12_from 173 = .ok (.getfield 65, 3) := by decide +kernel
theorem dX12_from_176 : decode cX12_from 176 = .ok (.iload_n 2, 1) := by decide +kernel
theorem dX12_from_177 : decode cX12_from 177 = .ok (.bipush 42, 2) := by decide +kernel
theorem dX12_from_179 : decode cX12_from 179 = .ok (.iadd, 1) := by decide +kernel
theorem dX12_from_180 : decode cX12_from 180 = .ok (.iload_n 3, 1) := by decide +kernel
theorem dX12_from_181 : decode cX12_from 181 = .ok (.iadd, 1) := by decide +kernel
theorem dX12_from_182 : decode cX12_from 182 = .ok (.iaload, 1) := by decide +kernel
theorem dX12_from_183 : decode cX12_from 183 = .ok (.iastore, 1) := by decide +kernel
theorem dX12_from_184 : decode cX12_from 184 = .ok (.iinc 3 1, 3) := by decide +kernel
theorem dX12_from_187 : decode cX12_from 187 = .ok (.goto (-94), 3) := by decide +kernel
theorem dX12_from_190 : decode cX12_from 190 = .ok (.iconst 0, 1) := by decide +kernel
theorem dX12_from_191 : decode cX12_from 191 = .ok (.istore_n 3, 1) := by decide +kernel
theorem dX12_from_192 : decode cX12_from 192 = .ok (.iload_n 3, 1) := by decide +kernel
theorem dX12_from_193 : decode cX12_from 193 = .ok (.bipush 112, 2) := by decide +kernel
theorem dX12_from_195 : decode cX12_from 195 = .ok (.if_icmp .ge 26, 3) := by decide +kernel
theorem dX12_from_198 : decode cX12_from 198 = .ok (.aload_n 0, 1) := by decide +kernel
theorem dX12_from_199 : decode cX12_from 199 = .ok (.getfield 43, 3) := by decide +kernel
theorem dX12_from_202 : decode cX12_from 202 = .ok (.iload_n 3, 1) := by decide +kernel
theorem dX12_from_203 : decode cX12_from 203 = .ok (.aload_n 0, 1) := by decide +kernel
theorem dX12_from_204 : decode cX12_from 204 = .ok (.getfield 65, 3) := by decide +kernel
theorem dX12_from_207 : decode cX12_from 207 = .ok (.iload_n 2, 1) := by decide +kernel
theorem dX12_from_208 : decode cX12_from 208 = .ok (.bipush 48, 2) := by decide +kernel
theorem dX12_from_210 : decode cX12_from 210 = .ok (.iadd, 1) := by decide +kernel
theorem dX12_from_211 : decode cX12_from 211 = .ok (.iload_n 3, 1) := by decide +kernel
theorem dX12_from_212 : decode cX12_from 212 = .ok (.iadd, 1) := by decide +kernel
theorem dX12_from_213 : decode cX12_from 213 = .ok (.iaload, 1) := by decide +kernel
theorem dX12_from_214 : decode cX12_from 214 = .ok (.iastore, 1) := by decide +kernel
theorem dX12_from_215 : decode cX12_from 215 = .ok (.iinc 3 1, 3) := by decide +kernel
theorem dX12_from_218 : decode cX12_from 218 = .ok (.goto (-26), 3) := by decide +kernel
theorem dX12_from_221 : decode cX12_from 221 = .ok (.iconst 1, 1) := by decide +kernel
theorem dX12_from_222 : decode cX12_from 222 = .ok (.ireturn, 1) := by decide +kernel
theorem dX12_status_0 : decode cX12_status 0 = .ok (.iload_n 1, 1) := by decide +kernel
theorem dX12_status_1 : decode cX12_status 1 = .ok (.iconst 0, 1) := by decide +kernel
theorem dX12_status_2 : decode cX12_status 2 = .ok (.iconst 2, 1) := by decide +kernel
theorem dX12_status_3 : decode cX12_status 3 = .ok (.invokestatic 93, 3) := by decide +kernel
theorem dX12_status_6 : decode cX12_status 6 = .ok (.ifCond .ne 15, 3) := by decide +kernel
theorem dX12_status_9 : decode cX12_status 9 = .ok (.aload_n 0, 1) := by decide +kernel
theorem dX12_status_10 : decode cX12_status 10 = .ok (.getfield 1, 3) := by decide +kernel
theorem dX12_status_13 : decode cX12_status 13 = .ok (.iconst 0, 1) := by decide +kernel
theorem dX12_status_14 : decode cX12_status 14 = .ok (.dup2, 1) := by decide +kernel
theorem dX12_status_15 : decode cX12_status 15 = .ok (.iaload, 1) := by decide +kernel
theorem dX12_status_16 : decode cX12_status 16 = .ok (.iconst 1, 1) := by decide +kernel
theorem dX12_status_17 : decode cX12_status 17 = .ok (.iadd, 1) := by decide +kernel
theorem dX12_status_18 : decode cX12_status 18 = .ok (.iastore, 1) := by decide +kernel
theorem dX12_status_19 : decode cX12_status 19 = .ok (.iconst (-1), 1) := by decide +kernel
theorem dX12_status_20 : decode cX12_status 20 = .ok (.ireturn, 1) := by decide +kernel
theorem dX12_status_21 : decode cX12_status 21 = .ok (.aload_n 0, 1) := by decide +kernel
theorem dX12_status_22 : decode cX12_status 22 = .ok (.getfield 1, 3) := by decide +kernel
theorem dX12_status_25 : decode cX12_status 25 = .ok (.iload_n 1, 1) := by decide +kernel
theorem dX12_status_26 : decode cX12_status 26 = .ok (.iaload, 1) := by decide +kernel
theorem dX12_status_27 : decode cX12_status 27 = .ok (.ireturn, 1) := by decide +kernel
theorem dX12_countOf_0 : decode cX12_countOf 0 = .ok (.iconst 0, 1) := by decide +kernel
theorem dX12_countOf_1 : decode cX12_countOf 1 = .ok (.istore_n 2, 1) := by decide +kernel
theorem dX12_countOf_2 : decode cX12_countOf 2 = .ok (.iconst 0, 1) := by decide +kernel
theorem dX12_countOf_3 : decode cX12_countOf 3 = .ok (.istore_n 3, 1) := by decide +kernel
theorem dX12_countOf_4 : decode cX12_countOf 4 = .ok (.iload_n 3, 1) := by decide +kernel
theorem dX12_countOf_5 : decode cX12_countOf 5 = .ok (.aload_n 0, 1) := by decide +kernel
theorem dX12_countOf_6 : decode cX12_countOf 6 = .ok (.getfield 74, 3) := by decide +kernel
theorem dX12_countOf_9 : decode cX12_countOf 9 = .ok (.if_icmp .ge 18, 3) := by decide +kernel
theorem dX12_countOf_12 : decode cX12_countOf 12 = .ok (.iload_n 2, 1) := by decide +kernel
theorem dX12_countOf_13 : decode cX12_countOf 13 = .ok (.aload_n 0, 1) := by decide +kernel
theorem dX12_countOf_14 : decode cX12_countOf 14 = .ok (.getfield 22, 3) := by decide +kernel
theorem dX12_countOf_17 : decode cX12_countOf 17 = .ok (.iload_n 3, 1) := by decide +kernel
theorem dX12_countOf_18 : decode cX12_countOf 18 = .ok (.iaload, 1) := by decide +kernel
theorem dX12_countOf_19 : decode cX12_countOf 19 = .ok (.iadd, 1) := by decide +kernel
theorem dX12_countOf_20 : decode cX12_countOf 20 = .ok (.istore_n 2, 1) := by decide +kernel
theorem dX12_countOf_21 : decode cX12_countOf 21 = .ok (.iinc 3 1, 3) := by decide +kernel
theorem dX12_countOf_24 : decode cX12_countOf 24 = .ok (.goto (-20), 3) := by decide +kernel
theorem dX12_countOf_27 : decode cX12_countOf 27 = .ok (.iload_n 1, 1) := by decide +kernel
theorem dX12_countOf_28 : decode cX12_countOf 28 = .ok (.tableswitch 67 0 5 #[40, 45, 50, 55, 57, 62], 40) := by decide +kernel
theorem dX12_countOf_68 : decode cX12_countOf 68 = .ok (.aload_n 0, 1) := by decide +kernel
theorem dX12_countOf_69 : decode cX12_countOf 69 = .ok (.getfield 74, 3) := by decide +kernel
theorem dX12_countOf_72 : decode cX12_countOf 72 = .ok (.ireturn, 1) := by decide +kernel
theorem dX12_countOf_73 : decode cX12_countOf 73 = .ok (.aload_n 0, 1) := by decide +kernel
theorem dX12_countOf_74 : decode cX12_countOf 74 = .ok (.getfield 84, 3) := by decide +kernel
theorem dX12_countOf_77 : decode cX12_countOf 77 = .ok (.ireturn, 1) := by decide +kernel
theorem dX12_countOf_78 : decode cX12_countOf 78 = .ok (.aload_n 0, 1) := by decide +kernel
theorem dX12_countOf_79 : decode cX12_countOf 79 = .ok (.getfield 81, 3) := by decide +kernel
theorem dX12_countOf_82 : decode cX12_countOf 82 = .ok (.ireturn, 1) := by decide +kernel
theorem dX12_countOf_83 : decode cX12_countOf 83 = .ok (.iload_n 2, 1) := by decide +kernel
theorem dX12_countOf_84 : decode cX12_countOf 84 = .ok (.ireturn, 1) := by decide +kernel
theorem dX12_countOf_85 : decode cX12_countOf 85 = .ok (.aload_n 0, 1) := by decide +kernel
theorem dX12_countOf_86 : decode cX12_countOf 86 = .ok (.getfield 87, 3) := by decide +kernel
theorem dX12_countOf_89 : decode cX12_countOf 89 = .ok (.ireturn, 1) := by decide +kernel
theorem dX12_countOf_90 : decode cX12_countOf 90 = .ok (.aload_n 0, 1) := by decide +kernel
theorem dX12_countOf_91 : decode cX12_countOf 91 = .ok (.getfield 90, 3) := by decide +kernel
theorem dX12_countOf_94 : decode cX12_countOf 94 = .ok (.ireturn, 1) := by decide +kernel
theorem dX12_countOf_95 : decode cX12_countOf 95 = .ok (.aload_n 0, 1) := by decide +kernel
theorem dX12_countOf_96 : decode cX12_countOf 96 = .ok (.getfield 119, 3) := by decide +kernel
theorem dX12_countOf_99 : decode cX12_countOf 99 = .ok (.ireturn, 1) := by decide +kernel
theorem dX12_count_0 : decode cX12_count 0 = .ok (.iload_n 1, 1) := by decide +kernel
theorem dX12_count_1 : decode cX12_count 1 = .ok (.iconst 0, 1) := by decide +kernel
theorem dX12_count_2 : decode cX12_count 2 = .ok (.bipush 6, 2) := by decide +kernel
theorem dX12_count_4 : decode cX12_count 4 = .ok (.invokestatic 93, 3) := by decide +kernel
theorem dX12_count_7 : decode cX12_count 7 = .ok (.ifCond .eq 11, 3) := by decide +kernel
theorem dX12_count_10 : decode cX12_count 10 = .ok (.aload_n 0, 1) := by decide +kernel
theorem dX12_count_11 : decode cX12_count 11 = .ok (.iload_n 1, 1) := by decide +kernel
theorem dX12_count_12 : decode cX12_count 12 = .ok (.invokevirtual 269, 3) := by decide +kernel
theorem dX12_count_15 : decode cX12_count 15 = .ok (.goto 7, 3) := by decide +kernel
theorem dX12_count_18 : decode cX12_count 18 = .ok (.aload_n 0, 1) := by decide +kernel
theorem dX12_count_19 : decode cX12_count 19 = .ok (.invokevirtual 97, 3) := by decide +kernel
theorem dX12_count_22 : decode cX12_count 22 = .ok (.ireturn, 1) := by decide +kernel
theorem dX12_mix_0 : decode cX12_mix 0 = .ok (.aload_n 0, 1) := by decide +kernel
theorem dX12_mix_1 : decode cX12_mix 1 = .ok (.ldc2_w 272, 3) := by decide +kernel
theorem dX12_mix_4 : decode cX12_mix 4 = .ok (.aload_n 0, 1) := by decide +kernel
theorem dX12_mix_5 : decode cX12_mix 5 = .ok (.getfield 274, 3) := by decide +kernel
theorem dX12_mix_8 : decode cX12_mix 8 = .ok (.lmul, 1) := by decide +kernel
theorem dX12_mix_9 : decode cX12_mix 9 = .ok (.lload_n 1, 1) := by decide +kernel
theorem dX12_mix_10 : decode cX12_mix 10 = .ok (.ladd, 1) := by decide +kernel
theorem dX12_mix_11 : decode cX12_mix 11 = .ok (.putfield 274, 3) := by decide +kernel
theorem dX12_mix_14 : decode cX12_mix 14 = .ok (.return_, 1) := by decide +kernel
theorem dX12_digest_0 : decode cX12_digest 0 = .ok (.aload_n 0, 1) := by decide +kernel
theorem dX12_digest_1 : decode cX12_digest 1 = .ok (.ldc2_w 277, 3) := by decide +kernel
theorem dX12_digest_4 : decode cX12_digest 4 = .ok (.putfield 274, 3) := by decide +kernel
theorem dX12_digest_7 : decode cX12_digest 7 = .ok (.iconst 0, 1) := by decide +kernel
theorem dX12_digest_8 : decode cX12_digest 8 = .ok (.istore_n 1, 1) := by decide +kernel
theorem dX12_digest_9 : decode cX12_digest 9 = .ok (.iload_n 1, 1) := by decide +kernel
theorem dX12_digest_10 : decode cX12_digest 10 = .ok (.bipush 6, 2) := by decide +kernel
theorem dX12_digest_12 : decode cX12_digest 12 = .ok (.if_icmp .gt 19, 3) := by decide +kernel
theorem dX12_digest_15 : decode cX12_digest 15 = .ok (.aload_n 0, 1) := by decide +kernel
theorem dX12_digest_16 : decode cX12_digest 16 = .ok (.aload_n 0, 1) := by decide +kernel
theorem dX12_digest_17 : decode cX12_digest 17 = .ok (.iload_n 1, 1) := by decide +kernel
theorem dX12_digest_18 : decode cX12_digest 18 = .ok (.invokevirtual 269, 3) := by decide +kernel
theorem dX12_digest_21 : decode cX12_digest 21 = .ok (.i2l, 1) := by decide +kernel
theorem dX12_digest_22 : decode cX12_digest 22 = .ok (.invokevirtual 279, 3) := by decide +kernel
theorem dX12_digest_25 : decode cX12_digest 25 = .ok (.iinc 1 1, 3) := by decide +kernel
theorem dX12_digest_28 : decode cX12_digest 28 = .ok (.goto (-19), 3) := by decide +kernel
theorem dX12_digest_31 : decode cX12_digest 31 = .ok (.aload_n 0, 1) := by decide +kernel
theorem dX12_digest_32 : decode cX12_digest 32 = .ok (.aload_n 0, 1) := by decide +kernel
theorem dX12_digest_33 : decode cX12_digest 33 = .ok (.getfield 78, 3) := by decide +kernel
theorem dX12_digest_36 : decode cX12_digest 36 = .ok (.i2l, 1) := by decide +kernel
theorem dX12_digest_37 : decode cX12_digest 37 = .ok (.invokevirtual 279, 3) := by decide +kernel
theorem dX12_digest_40 : decode cX12_digest 40 = .ok (.iconst 0, 1) := by decide +kernel
theorem dX12_digest_41 : decode cX12_digest 41 = .ok (.istore_n 1, 1) := by decide +kernel
theorem dX12_digest_42 : decode cX12_digest 42 = .ok (.iload_n 1, 1) := by decide +kernel
theorem dX12_digest_43 : decode cX12_digest 43 = .ok (.aload_n 0, 1) := by decide +kernel
theorem dX12_digest_44 : decode cX12_digest 44 = .ok (.getfield 74, 3) := by decide +kernel
theorem dX12_digest_47 : decode cX12_digest 47 = .ok (.if_icmp .ge 53, 3) := by decide +kernel
theorem dX12_digest_50 : decode cX12_digest 50 = .ok (.aload_n 0, 1) := by decide +kernel
theorem dX12_digest_51 : decode cX12_digest 51 = .ok (.aload_n 0, 1) := by decide +kernel
theorem dX12_digest_52 : decode cX12_digest 52 = .ok (.getfield 13, 3) := by decide +kernel
theorem dX12_digest_55 : decode cX12_digest 55 = .ok (.iload_n 1, 1) := by decide +kernel
theorem dX12_digest_56 : decode cX12_digest 56 = .ok (.iaload, 1) := by decide +kernel
theorem dX12_digest_57 : decode cX12_digest 57 = .ok (.i2l, 1) := by decide +kernel
theorem dX12_digest_58 : decode cX12_digest 58 = .ok (.invokevirtual 279, 3) := by decide +kernel
theorem dX12_digest_61 : decode cX12_digest 61 = .ok (.aload_n 0, 1) := by decide +kernel
theorem dX12_digest_62 : decode cX12_digest 62 = .ok (.aload_n 0, 1) := by decide +kernel
theorem dX12_digest_63 : decode cX12_digest 63 = .ok (.getfield 16, 3) := by decide +kernel
theorem dX12_digest_66 : decode cX12_digest 66 = .ok (.iload_n 1, 1) := by decide +kernel
theorem dX12_digest_67 : decode cX12_digest 67 = .ok (.iaload, 1) := by decide +kernel
theorem dX12_digest_68 : decode cX12_digest 68 = .ok (.i2l, 1) := by decide +kernel
theorem dX12_digest_69 : decode cX12_digest 69 = .ok (.invokevirtual 279, 3) := by decide +kernel
theorem dX12_digest_72 : decode cX12_digest 72 = .ok (.aload_n 0, 1) := by decide +kernel
theorem dX12_digest_73 : decode cX12_digest 73 = .ok (.aload_n 0, 1) := by decide +kernel
theorem dX12_digest_74 : decode cX12_digest 74 = .ok (.getfield 19, 3) := by decide +kernel
theorem dX12_digest_77 : decode cX12_digest 77 = .ok (.iload_n 1, 1) := by decide +kernel
theorem dX12_digest_78 : decode cX12_digest 78 = .ok (.iaload, 1) := by decide +kernel
theorem dX12_digest_79 : decode cX12_digest 79 = .ok (.i2l, 1) := by decide +kernel
theorem dX12_digest_80 : decode cX12_digest 80 = .ok (.invokevirtual 279, 3) := by decide +kernel
theorem dX12_digest_83 : decode cX12_digest 83 = .ok (.aload_n 0, 1) := by decide +kernel
theorem dX12_digest_84 : decode cX12_digest 84 = .ok (.aload_n 0, 1) := by decide +kernel
theorem dX12_digest_85 : decode cX12_digest 85 = .ok (.getfield 22, 3) := by decide +kernel
theorem dX12_digest_88 : decode cX12_digest 88 = .ok (.iload_n 1, 1) := by decide +kernel
theorem dX12_digest_89 : decode cX12_digest 89 = .ok (.iaload, 1) := by decide +kernel
theorem dX12_digest_90 : decode cX12_digest 90 = .ok (.i2l, 1) := by decide +kernel
theorem dX12_digest_91 : decode cX12_digest 91 = .ok (.invokevirtual 279, 3) := by decide +kernel
theorem dX12_digest_94 : decode cX12_digest 94 = .ok (.iinc 1 1, 3) := by decide +kernel
theorem dX12_digest_97 : decode cX12_digest 97 = .ok (.goto (-55), 3) := by decide +kernel
theorem dX12_digest_100 : decode cX12_digest 100 = .ok (.iconst 0, 1) := by decide +kernel
theorem dX12_digest_101 : decode cX12_digest 101 = .ok (.istore_n 1, 1) := by decide +kernel
theorem dX12_digest_102 : decode cX12_digest 102 = .ok (.iload_n 1, 1) := by decide +kernel
theorem dX12_digest_103 : decode cX12_digest 103 = .ok (.aload_n 0, 1) := by decide +kernel
theorem dX12_digest_104 : decode cX12_digest 104 = .ok (.getfield 84, 3) := by decide +kernel
theorem dX12_digest_107 : decode cX12_digest 107 = .ok (.if_icmp .ge 20, 3) := by decide +kernel
theorem dX12_digest_110 : decode cX12_digest 110 = .ok (.aload_n 0, 1) := by decide +kernel
theorem dX12_digest_111 : decode cX12_digest 111 = .ok (.aload_n 0, 1) := by decide +kernel
theorem dX12_digest_112 : decode cX12_digest 112 = .ok (.getfield 25, 3) := by decide +kernel
theorem dX12_digest_115 : decode cX12_digest 115 = .ok (.iload_n 1, 1) := by decide +kernel
theorem dX12_digest_116 : decode cX12_digest 116 = .ok (.iaload, 1) := by decide +kernel
theorem dX12_digest_117 : decode cX12_digest 117 = .ok (.i2l, 1) := by decide +kernel
theorem dX12_digest_118 : decode cX12_digest 118 = .ok (.invokevirtual 279, 3) := by decide +kernel
theorem dX12_digest_121 : decode cX12_digest 121 = .ok (.iinc 1 1, 3) := by decide +kernel
theorem dX12_digest_124 : decode cX12_digest 124 = .ok (.goto (-22), 3) := by decide +kernel
theorem dX12_digest_127 : decode cX12_digest 127 = .ok (.iconst 0, 1) := by decide +kernel
theorem dX12_digest_128 : decode cX12_digest 128 = .ok (.istore_n 1, 1) := by decide +kernel
theorem dX12_digest_129 : decode cX12_digest 129 = .ok (.iload_n 1, 1) := by decide +kernel
theorem dX12_digest_130 : decode cX12_digest 130 = .ok (.aload_n 0, 1) := by decide +kernel
theorem dX12_digest_131 : decode cX12_digest 131 = .ok (.getfield 87, 3) := by decide +kernel
theorem dX12_digest_134 : decode cX12_digest 134 = .ok (.if_icmp .ge 31, 3) := by decide +kernel
theorem dX12_digest_137 : decode cX12_digest 137 = .ok (.aload_n 0, 1) := by decide +kernel
theorem dX12_digest_138 : decode cX12_digest 138 = .ok (.aload_n 0, 1) := by decide +kernel
theorem dX12_digest_139 : decode cX12_digest 139 = .ok (.getfield 28, 3) := by decide +kernel
theorem dX12_digest_142 : decode cX12_digest 142 = .ok (.iload_n 1, 1) := by decide +kernel
theorem dX12_digest_143 : decode cX12_digest 143 = .ok (.iaload, 1) := by decide +kernel
theorem dX12_digest_144 : decode cX12_digest 144 = .ok (.i2l, 1) := by decide +kernel
theorem dX12_digest_145 : decode cX12_digest 145 = .ok (.invokevirtual 279, 3) := by decide +kernel
theorem dX12_digest_148 : decode cX12_digest 148 = .ok (.aload_n 0, 1) := by decide +kernel
theorem dX12_digest_149 : decode cX12_digest 149 = .ok (.aload_n 0, 1) := by decide +kernel
theorem dX12_digest_150 : decode cX12_digest 150 = .ok (.getfield 31, 3) := by decide +kernel
theorem dX12_digest_153 : decode cX12_digest 153 = .ok (.iload_n 1, 1) := by decide +kernel
theorem dX12_digest_154 : decode cX12_digest 154 = .ok (.iaload, 1) := by decide +kernel
theorem dX12_digest_155 : decode cX12_digest 155 = .ok (.i2l, 1) := by decide +kernel
theorem dX12_digest_156 : decode cX12_digest 156 = .ok (.invokevirtual 279, 3) := by decide +kernel
theorem dX12_digest_159 : decode cX12_digest 159 = .ok (.iinc 1 1, 3) := by decide +kernel
theorem dX12_digest_162 : decode cX12_digest 162 = .ok (.goto (-33), 3) := by decide +kernel
theorem dX12_digest_165 : decode cX12_digest 165 = .ok (.aload_n 0, 1) := by decide +kernel
theorem dX12_digest_166 : decode cX12_digest 166 = .ok (.aload_n 0, 1) := by decide +kernel
theorem dX12_digest_167 : decode cX12_digest 167 = .ok (.getfield 249, 3) := by decide +kernel
theorem dX12_digest_170 : decode cX12_digest 170 = .ok (.invokevirtual 279, 3) := by decide +kernel
theorem dX12_digest_173 : decode cX12_digest 173 = .ok (.aload_n 0, 1) := by decide +kernel
theorem dX12_digest_174 : decode cX12_digest 174 = .ok (.aload_n 0, 1) := by decide +kernel
theorem dX12_digest_175 : decode cX12_digest 175 = .ok (.getfield 61, 3) := by decide +kernel
theorem dX12_digest_178 : decode cX12_digest 178 = .ok (.invokevirtual 279, 3) := by decide +kernel
theorem dX12_digest_181 : decode cX12_digest 181 = .ok (.aload_n 0, 1) := by decide +kernel
theorem dX12_digest_182 : decode cX12_digest 182 = .ok (.getfield 274, 3) := by decide +kernel
theorem dX12_digest_185 : decode cX12_digest 185 = .ok (.lreturn, 1) := by decide +kernel
theorem dJ6_compare_7cf53_0 : decode cJ6_compare_7cf53 0 = .ok (.iload_n 0, 1) := by decide +kernel
theorem dJ6_compare_7cf53_1 : decode cJ6_compare_7cf53 1 = .ok (.iload_n 1, 1) := by decide +kernel
theorem dJ6_compare_7cf53_2 : decode cJ6_compare_7cf53 2 = .ok (.if_icmp .ge 7, 3) := by decide +kernel
theorem dJ6_compare_7cf53_5 : decode cJ6_compare_7cf53 5 = .ok (.iconst (-1), 1) := by decide +kernel
theorem dJ6_compare_7cf53_6 : decode cJ6_compare_7cf53 6 = .ok (.goto 13, 3) := by decide +kernel
theorem dJ6_compare_7cf53_9 : decode cJ6_compare_7cf53 9 = .ok (.iload_n 0, 1) := by decide +kernel
theorem dJ6_compare_7cf53_10 : decode cJ6_compare_7cf53 10 = .ok (.iload_n 1, 1) := by decide +kernel
theorem dJ6_compare_7cf53_11 : decode cJ6_compare_7cf53 11 = .ok (.if_icmp .ne 7, 3) := by decide +kernel
theorem dJ6_compare_7cf53_14 : decode cJ6_compare_7cf53 14 = .ok (.iconst 0, 1) := by decide +kernel
theorem dJ6_compare_7cf53_15 : decode cJ6_compare_7cf53 15 = .ok (.goto 4, 3) := by decide +kernel
theorem dJ6_compare_7cf53_18 : decode cJ6_compare_7cf53 18 = .ok (.iconst 1, 1) := by decide +kernel
theorem dJ6_compare_7cf53_19 : decode cJ6_compare_7cf53 19 = .ok (.ireturn, 1) := by decide +kernel
theorem dJ6_bitCount_0f7a4_0 : decode cJ6_bitCount_0f7a4 0 = .ok (.iload_n 0, 1) := by decide +kernel
theorem dJ6_bitCount_0f7a4_1 : decode cJ6_bitCount_0f7a4 1 = .ok (.iload_n 0, 1) := by decide +kernel
theorem dJ6_bitCount_0f7a4_2 : decode cJ6_bitCount_0f7a4 2 = .ok (.iconst 1, 1) := by decide +kernel
theorem dJ6_bitCount_0f7a4_3 : decode cJ6_bitCount_0f7a4 3 = .ok (.iushr, 1) := by decide +kernel
theorem dJ6_bitCount_0f7a4_4 : decode cJ6_bitCount_0f7a4 4 = .ok (.ldc_w 265, 3) := by decide +kernel
theorem dJ6_bitCount_0f7a4_7 : decode cJ6_bitCount_0f7a4 7 = .ok (.iand, 1) := by decide +kernel
theorem dJ6_bitCount_0f7a4_8 : decode cJ6_bitCount_0f7a4 8 = .ok (.isub, 1) := by decide +kernel
theorem dJ6_bitCount_0f7a4_9 : decode cJ6_bitCount_0f7a4 9 = .ok (.istore_n 0, 1) := by decide +kernel
theorem dJ6_bitCount_0f7a4_10 : decode cJ6_bitCount_0f7a4 10 = .ok (.iload_n 0, 1) := by decide +kernel
theorem dJ6_bitCount_0f7a4_11 : decode cJ6_bitCount_0f7a4 11 = .ok (.ldc_w 266, 3) := by decide +kernel
theorem dJ6_bitCount_0f7a4_14 : decode cJ6_bitCount_0f7a4 14 = .ok (.iand, 1) := by decide +kernel
theorem dJ6_bitCount_0f7a4_15 : decode cJ6_bitCount_0f7a4 15 = .ok (.iload_n 0, 1) := by decide +kernel
theorem dJ6_bitCount_0f7a4_16 : decode cJ6_bitCount_0f7a4 16 = .ok (.iconst 2, 1) := by decide +kernel
theorem dJ6_bitCount_0f7a4_17 : decode cJ6_bitCount_0f7a4 17 = .ok (.iushr, 1) := by decide +kernel
theorem dJ6_bitCount_0f7a4_18 : decode cJ6_bitCount_0f7a4 18 = .ok (.ldc_w 266, 3) := by decide +kernel
theorem dJ6_bitCount_0f7a4_21 : decode cJ6_bitCount_0f7a4 21 = .ok (.iand, 1) := by decide +kernel
theorem dJ6_bitCount_0f7a4_22 : decode cJ6_bitCount_0f7a4 22 = .ok (.iadd, 1) := by decide +kernel
theorem dJ6_bitCount_0f7a4_23 : decode cJ6_bitCount_0f7a4 23 = .ok (.istore_n 0, 1) := by decide +kernel
theorem dJ6_bitCount_0f7a4_24 : decode cJ6_bitCount_0f7a4 24 = .ok (.iload_n 0, 1) := by decide +kernel
theorem dJ6_bitCount_0f7a4_25 : decode cJ6_bitCount_0f7a4 25 = .ok (.iload_n 0, 1) := by decide +kernel
theorem dJ6_bitCount_0f7a4_26 : decode cJ6_bitCount_0f7a4 26 = .ok (.iconst 4, 1) := by decide +kernel
theorem dJ6_bitCount_0f7a4_27 : decode cJ6_bitCount_0f7a4 27 = .ok (.iushr, 1) := by decide +kernel
theorem dJ6_bitCount_0f7a4_28 : decode cJ6_bitCount_0f7a4 28 = .ok (.iadd, 1) := by decide +kernel
theorem dJ6_bitCount_0f7a4_29 : decode cJ6_bitCount_0f7a4 29 = .ok (.ldc_w 267, 3) := by decide +kernel
theorem dJ6_bitCount_0f7a4_32 : decode cJ6_bitCount_0f7a4 32 = .ok (.iand, 1) := by decide +kernel
theorem dJ6_bitCount_0f7a4_33 : decode cJ6_bitCount_0f7a4 33 = .ok (.istore_n 0, 1) := by decide +kernel
theorem dJ6_bitCount_0f7a4_34 : decode cJ6_bitCount_0f7a4 34 = .ok (.iload_n 0, 1) := by decide +kernel
theorem dJ6_bitCount_0f7a4_35 : decode cJ6_bitCount_0f7a4 35 = .ok (.iload_n 0, 1) := by decide +kernel
theorem dJ6_bitCount_0f7a4_36 : decode cJ6_bitCount_0f7a4 36 = .ok (.bipush 8, 2) := by decide +kernel
theorem dJ6_bitCount_0f7a4_38 : decode cJ6_bitCount_0f7a4 38 = .ok (.iushr, 1) := by decide +kernel
theorem dJ6_bitCount_0f7a4_39 : decode cJ6_bitCount_0f7a4 39 = .ok (.iadd, 1) := by decide +kernel
theorem dJ6_bitCount_0f7a4_40 : decode cJ6_bitCount_0f7a4 40 = .ok (.istore_n 0, 1) := by decide +kernel
theorem dJ6_bitCount_0f7a4_41 : decode cJ6_bitCount_0f7a4 41 = .ok (.iload_n 0, 1) := by decide +kernel
theorem dJ6_bitCount_0f7a4_42 : decode cJ6_bitCount_0f7a4 42 = .ok (.iload_n 0, 1) := by decide +kernel
theorem dJ6_bitCount_0f7a4_43 : decode cJ6_bitCount_0f7a4 43 = .ok (.bipush 16, 2) := by decide +kernel
theorem dJ6_bitCount_0f7a4_45 : decode cJ6_bitCount_0f7a4 45 = .ok (.iushr, 1) := by decide +kernel
theorem dJ6_bitCount_0f7a4_46 : decode cJ6_bitCount_0f7a4 46 = .ok (.iadd, 1) := by decide +kernel
theorem dJ6_bitCount_0f7a4_47 : decode cJ6_bitCount_0f7a4 47 = .ok (.istore_n 0, 1) := by decide +kernel
theorem dJ6_bitCount_0f7a4_48 : decode cJ6_bitCount_0f7a4 48 = .ok (.iload_n 0, 1) := by decide +kernel
theorem dJ6_bitCount_0f7a4_49 : decode cJ6_bitCount_0f7a4 49 = .ok (.bipush 63, 2) := by decide +kernel
theorem dJ6_bitCount_0f7a4_51 : decode cJ6_bitCount_0f7a4 51 = .ok (.iand, 1) := by decide +kernel
theorem dJ6_bitCount_0f7a4_52 : decode cJ6_bitCount_0f7a4 52 = .ok (.ireturn, 1) := by decide +kernel
theorem dJ9_abs_0f7a4_0 : decode cJ9_abs_0f7a4 0 = .ok (.iload_n 0, 1) := by decide +kernel
theorem dJ9_abs_0f7a4_1 : decode cJ9_abs_0f7a4 1 = .ok (.ifCond .ge 8, 3) := by decide +kernel
theorem dJ9_abs_0f7a4_4 : decode cJ9_abs_0f7a4 4 = .ok (.iload_n 0, 1) := by decide +kernel
theorem dJ9_abs_0f7a4_5 : decode cJ9_abs_0f7a4 5 = .ok (.ineg, 1) := by decide +kernel
theorem dJ9_abs_0f7a4_6 : decode cJ9_abs_0f7a4 6 = .ok (.goto 4, 3) := by decide +kernel
theorem dJ9_abs_0f7a4_9 : decode cJ9_abs_0f7a4 9 = .ok (.iload_n 0, 1) := by decide +kernel
theorem dJ9_abs_0f7a4_10 : decode cJ9_abs_0f7a4 10 = .ok (.ireturn, 1) := by decide +kernel
theorem dJ9_max_7cf53_0 : decode cJ9_max_7cf53 0 = .ok (.iload_n 0, 1) := by decide +kernel
theorem dJ9_max_7cf53_1 : decode cJ9_max_7cf53 1 = .ok (.iload_n 1, 1) := by decide +kernel
theorem dJ9_max_7cf53_2 : decode cJ9_max_7cf53 2 = .ok (.if_icmp .lt 7, 3) := by decide +kernel
theorem dJ9_max_7cf53_5 : decode cJ9_max_7cf53 5 = .ok (.iload_n 0, 1) := by decide +kernel
theorem dJ9_max_7cf53_6 : decode cJ9_max_7cf53 6 = .ok (.goto 4, 3) := by decide +kernel
theorem dJ9_max_7cf53_9 : decode cJ9_max_7cf53 9 = .ok (.iload_n 1, 1) := by decide +kernel
theorem dJ9_max_7cf53_10 : decode cJ9_max_7cf53 10 = .ok (.ireturn, 1) := by decide +kernel
theorem dJ9_min_7cf53_0 : decode cJ9_min_7cf53 0 = .ok (.iload_n 0, 1) := by decide +kernel
theorem dJ9_min_7cf53_1 : decode cJ9_min_7cf53 1 = .ok (.iload_n 1, 1) := by decide +kernel
theorem dJ9_min_7cf53_2 : decode cJ9_min_7cf53 2 = .ok (.if_icmp .gt 7, 3) := by decide +kernel
theorem dJ9_min_7cf53_5 : decode cJ9_min_7cf53 5 = .ok (.iload_n 0, 1) := by decide +kernel
theorem dJ9_min_7cf53_6 : decode cJ9_min_7cf53 6 = .ok (.goto 4, 3) := by decide +kernel
theorem dJ9_min_7cf53_9 : decode cJ9_min_7cf53 9 = .ok (.iload_n 1, 1) := by decide +kernel
theorem dJ9_min_7cf53_10 : decode cJ9_min_7cf53 10 = .ok (.ireturn, 1) := by decide +kernel
theorem dJ0_length_8abf5_0 : decode cJ0_length_8abf5 0 = .ok (.aload_n 0, 1) := by decide +kernel
theorem dJ0_length_8abf5_1 : decode cJ0_length_8abf5 1 = .ok (.getfield 9, 3) := by decide +kernel
theorem dJ0_length_8abf5_4 : decode cJ0_length_8abf5 4 = .ok (.arraylength, 1) := by decide +kernel
theorem dJ0_length_8abf5_5 : decode cJ0_length_8abf5 5 = .ok (.aload_n 0, 1) := by decide +kernel
theorem dJ0_length_8abf5_6 : decode cJ0_length_8abf5 6 = .ok (.invokevirtual 335, 3) := by decide +kernel
theorem dJ0_length_8abf5_9 : decode cJ0_length_8abf5 9 = .ok (.ishr, 1) := by decide +kernel
theorem dJ0_length_8abf5_10 : decode cJ0_length_8abf5 10 = .ok (.ireturn, 1) := by decide +kernel
theorem dJ0_charAt_5068e_0 : decode cJ0_charAt_5068e 0 = .ok (.aload_n 0, 1) := by decide +kernel
theorem dJ0_charAt_5068e_1 : decode cJ0_charAt_5068e 1 = .ok (.invokevirtual 492, 3) := by decide +kernel
theorem dJ0_charAt_5068e_4 : decode cJ0_charAt_5068e 4 = .ok (.ifCond .eq 12, 3) := by decide +kernel
theorem dJ0_charAt_5068e_7 : decode cJ0_charAt_5068e 7 = .ok (.aload_n 0, 1) := by decide +kernel
theorem dJ0_charAt_5068e_8 : decode cJ0_charAt_5068e 8 = .ok (.getfield 9, 3) := by decide +kernel
theorem dJ0_charAt_5068e_11 : decode cJ0_charAt_5068e 11 = .ok (.iload_n 1, 1) := by decide +kernel
theorem dJ0_charAt_5068e_12 : decode cJ0_charAt_5068e 12 = .ok (.invokestatic 495, 3) := by decide +kernel
theorem dJ0_charAt_5068e_15 : decode cJ0_charAt_5068e 15 = .ok (.ireturn, 1) := by decide +kernel
theorem dJ0_charAt_5068e_16 : decode cJ0_charAt_5068e 16 = .ok (.aload_n 0, 1) := by decide +kernel
theorem dJ0_charAt_5068e_17 : decode cJ0_charAt_5068e 17 = .ok (.getfield 9, 3) := by decide +kernel
theorem dJ0_charAt_5068e_20 : decode cJ0_charAt_5068e 20 = .ok (.iload_n 1, 1) := by decide +kernel
theorem dJ0_charAt_5068e_21 : decode cJ0_charAt_5068e 21 = .ok (.invokestatic 498, 3) := by decide +kernel
theorem dJ0_charAt_5068e_24 : decode cJ0_charAt_5068e 24 = .ok (.ireturn, 1) := by decide +kernel
theorem dJ0_coder_7d493_0 : decode cJ0_coder_7d493 0 = .ok (.getstatic 38, 3) := by decide +kernel
theorem dJ0_coder_7d493_3 : decode cJ0_coder_7d493 3 = .ok (.ifCond .eq 10, 3) := by decide +kernel
theorem dJ0_coder_7d493_6 : decode cJ0_coder_7d493 6 = .ok (.aload_n 0, 1) := by decide +kernel
theorem dJ0_coder_7d493_7 : decode cJ0_coder_7d493 7 = .ok (.getfield 15, 3) := by decide +kernel
theorem dJ0_coder_7d493_10 : decode cJ0_coder_7d493 10 = .ok (.goto 4, 3) := by decide +kernel
theorem dJ0_coder_7d493_13 : decode cJ0_coder_7d493 13 = .ok (.iconst 1, 1) := by decide +kernel
theorem dJ0_coder_7d493_14 : decode cJ0_coder_7d493 14 = .ok (.ireturn, 1) := by decide +kernel
theorem dJ0_isLatin1_aae02_0 : decode cJ0_isLatin1_aae02 0 = .ok (.getstatic 38, 3) := by decide +kernel
theorem dJ0_isLatin1_aae02_3 : decode cJ0_isLatin1_aae02 3 = .ok (.ifCond .eq 14, 3) := by decide +kernel
theorem dJ0_isLatin1_aae02_6 : decode cJ0_isLatin1_aae02 6 = .ok (.aload_n 0, 1) := by decide +kernel
theorem dJ0_isLatin1_aae02_7 : decode cJ0_isLatin1_aae02 7 = .ok (.getfield 15, 3) := by decide +kernel
theorem dJ0_isLatin1_aae02_10 : decode cJ0_isLatin1_aae02 10 = .ok (.ifCond .ne 7, 3) := by decide +kernel
theorem dJ0_isLatin1_aae02_13 : decode cJ0_isLatin1_aae02 13 = .ok (.iconst 1, 1) := by decide +kernel
theorem dJ0_isLatin1_aae02_14 : decode cJ0_isLatin1_aae02 14 = .ok (.goto 4, 3) := by decide +kernel
theorem dJ0_isLatin1_aae02_17 : decode cJ0_isLatin1_aae02 17 = .ok (.iconst 0, 1) := by decide +kernel
theorem dJ0_isLatin1_aae02_18 : decode cJ0_isLatin1_aae02 18 = .ok (.ireturn, 1) := by decide +kernel
theorem dJ0_checkIndex_df160_0 : decode cJ0_checkIndex_df160 0 = .ok (.iload_n 0, 1) := by decide +kernel
theorem dJ0_checkIndex_df160_1 : decode cJ0_checkIndex_df160 1 = .ok (.iload_n 1, 1) := by decide +kernel
theorem dJ0_checkIndex_df160_2 : decode cJ0_checkIndex_df160 2 = .ok (.getstatic 1053, 3) := by decide +kernel
theorem dJ0_checkIndex_df160_5 : decode cJ0_checkIndex_df160 5 = .ok (.invokestatic 1059, 3) := by decide +kernel
theorem dJ0_checkIndex_df160_8 : decode cJ0_checkIndex_df160 8 = .ok (.pop, 1) := by decide +kernel
theorem dJ0_checkIndex_df160_9 : decode cJ0_checkIndex_df160 9 = .ok (.return_, 1) := by decide +kernel
theorem dJ1_charAt_3b067_0 : decode cJ1_charAt_3b067 0 = .ok (.iload_n 1, 1) := by decide +kernel
theorem dJ1_charAt_3b067_1 : decode cJ1_charAt_3b067 1 = .ok (.aload_n 0, 1) := by decide +kernel
theorem dJ1_charAt_3b067_2 : decode cJ1_charAt_3b067 2 = .ok (.arraylength, 1) := by decide +kernel
theorem dJ1_charAt_3b067_3 : decode cJ1_charAt_3b067 3 = .ok (.invokestatic 9, 3) := by decide +kernel
theorem dJ1_charAt_3b067_6 : decode cJ1_charAt_3b067 6 = .ok (.aload_n 0, 1) := by decide +kernel
theorem dJ1_charAt_3b067_7 : decode cJ1_charAt_3b067 7 = .ok (.iload_n 1, 1) := by decide +kernel
theorem dJ1_charAt_3b067_8 : decode cJ1_charAt_3b067 8 = .ok (.baload, 1) := by decide +kernel
theorem dJ1_charAt_3b067_9 : decode cJ1_charAt_3b067 9 = .ok (.sipush 255, 3) := by decide +kernel
theorem dJ1_charAt_3b067_12 : decode cJ1_charAt_3b067 12 = .ok (.iand, 1) := by decide +kernel
theorem dJ1_charAt_3b067_13 : decode cJ1_charAt_3b067 13 = .ok (.i2c, 1) := by decide +kernel
theorem dJ1_charAt_3b067_14 : decode cJ1_charAt_3b067 14 = .ok (.ireturn, 1) := by decide +kernel
theorem dJ2_getChar_3b067_0 : decode cJ2_getChar_3b067 0 = .ok (.getstatic 44, 3) := by decide +kernel
theorem dJ2_getChar_3b067_3 : decode cJ2_getChar_3b067 3 = .ok (.ifCond .ne 25, 3) := by decide +kernel
theorem dJ2_getChar_3b067_6 : decode cJ2_getChar_3b067 6 = .ok (.iload_n 1, 1) := by decide +kernel
theorem dJ2_getChar_3b067_7 : decode cJ2_getChar_3b067 7 = .ok (.ifCond .lt 11, 3) := by decide +kernel
theorem dJ2_getChar_3b067_10 : decode cJ2_getChar_3b067 10 = .ok (.iload_n 1, 1) := by decide +kernel
theorem dJ2_getChar_3b067_11 : decode cJ2_getChar_3b067 11 = .ok (.aload_n 0, 1) := by decide +kernel
theorem dJ2_getChar_3b067_12 : decode cJ2_getChar_3b067 12 = .ok (.invokestatic 48, 3) := by decide +kernel
theorem dJ2_getChar_3b067_15 : decode cJ2_getChar_3b067 15 = .ok (.if_icmp .lt 13, 3) := by decide +kernel
theorem dJ2_getChar_3b067_18 : decode cJ2_getChar_3b067 18 = .ok (.new 52, 3) := by decide +kernel
theorem dJ2_getChar_3b067_21 : decode cJ2_getChar_3b067 21 = .ok (.dup, 1) := by decide +kernel
theorem dJ2_getChar_3b067_22 : decode cJ2_getChar_3b067 22 = .ok (.ldc 54, 2) := by decide +kernel
theorem dJ2_getChar_3b067_24 : decode cJ2_getChar_3b067 24 = .ok (.invokespecial 56, 3) := by decide +kernel
theorem dJ2_getChar_3b067_27 : decode cJ2_getChar_3b067 27 = .ok (.athrow, 1) := by decide +kernel
theorem dJ2_getChar_3b067_28 : decode cJ2_getChar_3b067 28 = .ok (.iload_n 1, 1) := by decide +kernel
theorem dJ2_getChar_3b067_29 : decode cJ2_getChar_3b067 29 = .ok (.iconst 1, 1) := by decide +kernel
theorem dJ2_getChar_3b067_30 : decode cJ2_getChar_3b067 30 = .ok (.ishl, 1) := by decide +kernel
theorem dJ2_getChar_3b067_31 : decode cJ2_getChar_3b067 31 = .ok (.istore_n 1, 1) := by decide +kernel
theorem dJ2_getChar_3b067_32 : decode cJ2_getChar_3b067 32 = .ok (.aload_n 0, 1) := by decide +kernel
theorem dJ2_getChar_3b067_33 : decode cJ2_getChar_3b067 33 = .ok (.iload_n 1, 1) := by decide +kernel
theorem dJ2_getChar_3b067_34 : decode cJ2_getChar_3b067 34 = .ok (.iinc 1 1, 3) := by decide +kernel
theorem dJ2_getChar_3b067_37 : decode cJ2_getChar_3b067 37 = .ok (.baload, 1) := by decide +kernel
theorem dJ2_getChar_3b067_38 : decode cJ2_getChar_3b067 38 = .ok (.sipush 255, 3) := by decide +kernel
theorem dJ2_getChar_3b067_41 : decode cJ2_getChar_3b067 41 = .ok (.iand, 1) := by decide +kernel
theorem dJ2_getChar_3b067_42 : decode cJ2_getChar_3b067 42 = .ok (.getstatic 59, 3) := by decide +kernel
theorem dJ2_getChar_3b067_45 : decode cJ2_getChar_3b067 45 = .ok (.ishl, 1) := by decide +kernel
theorem dJ2_getChar_3b067_46 : decode cJ2_getChar_3b067 46 = .ok (.aload_n 0, 1) := by decide +kernel
theorem dJ2_getChar_3b067_47 : decode cJ2_getChar_3b067 47 = .ok (.iload_n 1, 1) := by decide +kernel
theorem dJ2_getChar_3b067_48 : decode cJ2_getChar_3b067 48 = .ok (.baload, 1) := by decide +kernel
theorem dJ2_getChar_3b067_49 : decode cJ2_getChar_3b067 49 = .ok (.sipush 255, 3) := by decide +kernel
theorem dJ2_getChar_3b067_52 : decode cJ2_getChar_3b067 52 = .ok (.iand, 1) := by decide +kernel
theorem dJ2_getChar_3b067_53 : decode cJ2_getChar_3b067 53 = .ok (.getstatic 63, 3) := by decide +kernel
theorem dJ2_getChar_3b067_56 : decode cJ2_getChar_3b067 56 = .ok (.ishl, 1) := by decide +kernel
theorem dJ2_getChar_3b067_57 : decode cJ2_getChar_3b067 57 = .ok (.ior, 1) := by decide +kernel
theorem dJ2_getChar_3b067_58 : decode cJ2_getChar_3b067 58 = .ok (.i2c, 1) := by decide +kernel
theorem dJ2_getChar_3b067_59 : decode cJ2_getChar_3b067 59 = .ok (.ireturn, 1) := by decide +kernel
theorem dJ2_length_9d52b_0 : decode cJ2_length_9d52b 0 = .ok (.aload_n 0, 1) := by decide +kernel
theorem dJ2_length_9d52b_1 : decode cJ2_length_9d52b 1 = .ok (.arraylength, 1) := by decide +kernel
theorem dJ2_length_9d52b_2 : decode cJ2_length_9d52b 2 = .ok (.iconst 1, 1) := by decide +kernel
theorem dJ2_length_9d52b_3 : decode cJ2_length_9d52b 3 = .ok (.ishr, 1) := by decide +kernel
theorem dJ2_length_9d52b_4 : decode cJ2_length_9d52b 4 = .ok (.ireturn, 1) := by decide +kernel
theorem dJ2_charAt_3b067_0 : decode cJ2_charAt_3b067 0 = .ok (.iload_n 1, 1) := by decide +kernel
theorem dJ2_charAt_3b067_1 : decode cJ2_charAt_3b067 1 = .ok (.aload_n 0, 1) := by decide +kernel
theorem dJ2_charAt_3b067_2 : decode cJ2_charAt_3b067 2 = .ok (.invokestatic 67, 3) := by decide +kernel
theorem dJ2_charAt_3b067_5 : decode cJ2_charAt_3b067 5 = .ok (.aload_n 0, 1) := by decide +kernel
theorem dJ2_charAt_3b067_6 : decode cJ2_charAt_3b067 6 = .ok (.iload_n 1, 1) := by decide +kernel
theorem dJ2_charAt_3b067_7 : decode cJ2_charAt_3b067 7 = .ok (.invokestatic 71, 3) := by decide +kernel
theorem dJ2_charAt_3b067_10 : decode cJ2_charAt_3b067 10 = .ok (.ireturn, 1) := by decide +kernel
theorem dJ2_checkIndex_2214a_0 : decode cJ2_checkIndex_2214a 0 = .ok (.iload_n 0, 1) := by decide +kernel
theorem dJ2_checkIndex_2214a_1 : decode cJ2_checkIndex_2214a 1 = .ok (.aload_n 1, 1) := by decide +kernel
theorem dJ2_checkIndex_2214a_2 : decode cJ2_checkIndex_2214a 2 = .ok (.invokestatic 48, 3) := by decide +kernel
theorem dJ2_checkIndex_2214a_5 : decode cJ2_checkIndex_2214a 5 = .ok (.invokestatic 414, 3) := by decide +kernel
theorem dJ2_checkIndex_2214a_8 : decode cJ2_checkIndex_2214a 8 = .ok (.return_, 1) := by decide +kernel
theorem dJ3_checkIndex_8e157_0 : decode cJ3_checkIndex_8e157 0 = .ok (.iload_n 0, 1) := by decide +kernel
theorem dJ3_checkIndex_8e157_1 : decode cJ3_checkIndex_8e157 1 = .ok (.ifCond .lt 8, 3) := by decide +kernel
theorem dJ3_checkIndex_8e157_4 : decode cJ3_checkIndex_8e157 4 = .ok (.iload_n 0, 1) := by decide +kernel
theorem dJ3_checkIndex_8e157_5 : decode cJ3_checkIndex_8e157 5 = .ok (.iload_n 1, 1) := by decide +kernel
theorem dJ3_checkIndex_8e157_6 : decode cJ3_checkIndex_8e157 6 = .ok (.if_icmp .lt 10, 3) := by decide +kernel
theorem dJ3_checkIndex_8e157_9 : decode cJ3_checkIndex_8e157 9 = .ok (.aload_n 2, 1) := by decide +kernel
theorem dJ3_checkIndex_8e157_10 : decode cJ3_checkIndex_8e157 10 = .ok (.iload_n 0, 1) := by decide +kernel
theorem dJ3_checkIndex_8e157_11 : decode cJ3_checkIndex_8e157 11 = .ok (.iload_n 1, 1) := by decide +kernel
theorem dJ3_checkIndex_8e157_12 : decode cJ3_checkIndex_8e157 12 = .ok (.invokestatic 95, 3) := by decide +kernel
theorem dJ3_checkIndex_8e157_15 : decode cJ3_checkIndex_8e157 15 = .ok (.athrow, 1) := by decide +kernel
theorem dJ3_checkIndex_8e157_16 : decode cJ3_checkIndex_8e157 16 = .ok (.iload_n 0, 1) := by decide +kernel
theorem dJ3_checkIndex_8e157_17 : decode cJ3_checkIndex_8e157 17 = .ok (.ireturn, 1) := by decide +kernel
theorem dL_law_0 : decode cL_law 0 = .ok (.new 7, 3) := by decide +kernel
theorem dL_law_3 : decode cL_law 3 = .ok (.dup, 1) := by decide +kernel
theorem dL_law_4 : decode cL_law 4 = .ok (.invokespecial 9, 3) := by decide +kernel
theorem dL_law_7 : decode cL_law 7 = .ok (.astore_n 1, 1) := by decide +kernel
theorem dL_law_8 : decode cL_law 8 = .ok (.new 10, 3) := by decide +kernel
theorem dL_law_11 : decode cL_law 11 = .ok (.dup, 1) := by decide +kernel
theorem dL_law_12 : decode cL_law 12 = .ok (.invokespecial 12, 3) := by decide +kernel
theorem dL_law_15 : decode cL_law 15 = .ok (.astore_n 2, 1) := by decide +kernel
theorem dL_law_16 : decode cL_law 16 = .ok (.iconst 0, 1) := by decide +kernel
theorem dL_law_17 : decode cL_law 17 = .ok (.istore_n 3, 1) := by decide +kernel
theorem dL_law_18 : decode cL_law 18 = .ok (.iload_n 3, 1) := by decide +kernel
theorem dL_law_19 : decode cL_law 19 = .ok (.aload_n 0, 1) := by decide +kernel
theorem dL_law_20 : decode cL_law 20 = .ok (.arraylength, 1) := by decide +kernel
theorem dL_law_21 : decode cL_law 21 = .ok (.iconst 4, 1) := by decide +kernel
theorem dL_law_22 : decode cL_law 22 = .ok (.isub, 1) := by decide +kernel
theorem dL_law_23 : decode cL_law 23 = .ok (.if_icmp .gt 910, 3) := by decide +kernel
theorem dL_law_26 : decode cL_law 26 = .ok (.aload_n 0, 1) := by decide +kernel
theorem dL_law_27 : decode cL_law 27 = .ok (.iload_n 3, 1) := by decide +kernel
theorem dL_law_28 : decode cL_law 28 = .ok (.iaload, 1) := by decide +kernel
theorem dL_law_29 : decode cL_law 29 = .ok (.bipush 31, 2) := by decide +kernel
theorem dL_law_31 : decode cL_law 31 = .ok (.iand, 1) := by decide +kernel
theorem dL_law_32 : decode cL_law 32 = .ok (.tableswitch 895 0 30 #[140, 153, 176, 219, 242, 255, 268, 291, 304, 317, 350, 373, 406, 419, 462, 485, 518, 551, 564, 587, 610, 633, 656, 699, 732, 765, 789, 812, 835, 858, 881], 140) := by decide +kernel
theorem dL_law_172 : decode cL_law 172 = .ok (.aload_n 1, 1) := by decide +kernel
theorem dL_law_173 : decode cL_law 173 = .ok (.invokevirtual 13, 3) := by decide +kernel
theorem dL_law_176 : decode cL_law 176 = .ok (.aload_n 2, 1) := by decide +kernel
theorem dL_law_177 : decode cL_law 177 = .ok (.invokevirtual 17, 3) := by decide +kernel
theorem dL_law_180 : decode cL_law 180 = .ok (.if_icmp .eq 747, 3) := by decide +kernel
theorem dL_law_183 : decode cL_law 183 = .ok (.iconst 0, 1) := by decide +kernel
theorem dL_law_184 : decode cL_law 184 = .ok (.ireturn, 1) := by decide +kernel
theorem dL_law_185 : decode cL_law 185 = .ok (.aload_n 1, 1) := by decide +kernel
theorem dL_law_186 : decode cL_law 186 = .ok (.aload_n 0, 1) := by decide +kernel
theorem dL_law_187 : decode cL_law 187 = .ok (.iload_n 3, 1) := by decide +kernel
theorem dL_law_188 : decode cL_law 188 = .ok (.iconst 1, 1) := by decide +kernel
theorem dL_law_189 : decode cL_law 189 = .ok (.iadd, 1) := by decide +kernel
theorem dL_law_190 : decode cL_law 190 = .ok (.iaload, 1) := by decide +kernel
theorem dL_law_191 : decode cL_law 191 = .ok (.invokevirtual 18, 3) := by decide +kernel
theorem dL_law_194 : decode cL_law 194 = .ok (.aload_n 2, 1) := by decide +kernel
theorem dL_law_195 : decode cL_law 195 = .ok (.aload_n 0, 1) := by decide +kernel
theorem dL_law_196 : decode cL_law 196 = .ok (.iload_n 3, 1) := by decide +kernel
theorem dL_law_197 : decode cL_law 197 = .ok (.iconst 1, 1) := by decide +kernel
theorem dL_law_198 : decode cL_law 198 = .ok (.iadd, 1) := by decide +kernel
theorem dL_law_199 : decode cL_law 199 = .ok (.iaload, 1) := by decide +kernel
theorem dL_law_200 : decode cL_law 200 = .ok (.invokevirtual 22, 3) := by decide +kernel
theorem dL_law_203 : decode cL_law 203 = .ok (.if_icmp .eq 724, 3) := by decide +kernel
theorem dL_law_206 : decode cL_law 206 = .ok (.iconst 0, 1) := by decide +kernel
theorem dL_law_207 : decode cL_law 207 = .ok (.ireturn, 1) := by decide +kernel
theorem dL_law_208 : decode cL_law 208 = .ok (.aload_n 1, 1) := by decide +kernel
theorem dL_law_209 : decode cL_law 209 = .ok (.aload_n 0, 1) := by decide +kernel
theorem dL_law_210 : decode cL_law 210 = .ok (.iload_n 3, 1) := by decide +kernel
theorem dL_law_211 : decode cL_law 211 = .ok (.iconst 1, 1) := by decide +kernel
theorem dL_law_212 : decode cL_law 212 = .ok (.iadd, 1) := by decide +kernel
theorem dL_law_213 : decode cL_law 213 = .ok (.iaload, 1) := by decide +kernel
theorem dL_law_214 : decode cL_law 214 = .ok (.aload_n 0, 1) := by decide +kernel
theorem dL_law_215 : decode cL_law 215 = .ok (.iload_n 3, 1) := by decide +kernel
theorem dL_law_216 : decode cL_law 216 = .ok (.iconst 2, 1) := by decide +kernel
theorem dL_law_217 : decode cL_law 217 = .ok (.iadd, 1) := by decide +kernel
theorem dL_law_218 : decode cL_law 218 = .ok (.iaload, 1) := by decide +kernel
theorem dL_law_219 : decode cL_law 219 = .ok (.aload_n 0, 1) := by decide +kernel
theorem dL_law_220 : decode cL_law 220 = .ok (.iload_n 3, 1) := by decide +kernel
theorem dL_law_221 : decode cL_law 221 = .ok (.iconst 3, 1) := by decide +kernel
theorem dL_law_222 : decode cL_law 222 = .ok (.iadd, 1) := by decide +kernel
theorem dL_law_223 : decode cL_law 223 = .ok (.iaload, 1) := by decide +kernel
theorem dL_law_224 : decode cL_law 224 = .ok (.invokevirtual 23, 3) := by decide +kernel
theorem dL_law_227 : decode cL_law 227 = .ok (.aload_n 2, 1) := by decide +kernel
theorem dL_law_228 : decode cL_law 228 = .ok (.aload_n 0, 1) := by decide +kernel
theorem dL_law_229 : decode cL_law 229 = .ok (.iload_n 3, 1) := by decide +kernel
theorem dL_law_230 : decode cL_law 230 = .ok (.iconst 1, 1) := by decide +kernel
theorem dL_law_231 : decode cL_law 231 = .ok (.iadd, 1) := by decide +kernel
theorem dL_law_232 : decode cL_law 232 = .ok (.iaload, 1) := by decide +kernel
theorem dL_law_233 : decode cL_law 233 = .ok (.aload_n 0, 1) := by decide +kernel
theorem dL_law_234 : decode cL_law 234 = .ok (.iload_n 3, 1) := by decide +kernel
theorem dL_law_235 : decode cL_law 235 = .ok (.iconst 2, 1) := by decide +kernel
theorem dL_law_236 : decode cL_law 236 = .ok (.iadd, 1) := by decide +kernel
theorem dL_law_237 : decode cL_law 237 = .ok (.iaload, 1) := by decide +kernel
theorem dL_law_238 : decode cL_law 238 = .ok (.aload_n 0, 1) := by decide +kernel
theorem dL_law_239 : decode cL_law 239 = .ok (.iload_n 3, 1) := by decide +kernel
theorem dL_law_240 : decode cL_law 240 = .ok (.iconst 3, 1) := by decide +kernel
theorem dL_law_241 : decode cL_law 241 = .ok (.iadd, 1) := by decide +kernel
theorem dL_law_242 : decode cL_law 242 = .ok (.iaload, 1) := by decide +kernel
theorem dL_law_243 : decode cL_law 243 = .ok (.invokevirtual 27, 3) := by decide +kernel
theorem dL_law_246 : decode cL_law 246 = .ok (.if_icmp .eq 681, 3) := by decide +kernel
theorem dL_law_249 : decode cL_law 249 = .ok (.iconst 0, 1) := by decide +kernel
theorem dL_law_250 : decode cL_law 250 = .ok (.ireturn, 1) := by decide +kernel
theorem dL_law_251 : decode cL_law 251 = .ok (.aload_n 1, 1) := by decide +kernel
theorem dL_law_252 : decode cL_law 252 = .ok (.aload_n 0, 1) := by decide +kernel
theorem dL_law_253 : decode cL_law 253 = .ok (.iload_n 3, 1) := by decide +kernel
theorem dL_law_254 : decode cL_law 254 = .ok (.iconst 1, 1) := by decide +kernel
theorem dL_law_255 : decode cL_law 255 = .ok (.iadd, 1) := by decide +kernel
theorem dL_law_256 : decode cL_law 256 = .ok (.iaload, 1) := by decide +kernel
theorem dL_law_257 : decode cL_law 257 = .ok (.invokevirtual 28, 3) := by decide +kernel
theorem dL_law_260 : decode cL_law 260 = .ok (.aload_n 2, 1) := by decide +kernel
theorem dL_law_261 : decode cL_law 261 = .ok (.aload_n 0, 1) := by decide +kernel
theorem dL_law_262 : decode cL_law 262 = .ok (.iload_n 3, 1) := by decide +kernel
theorem dL_law_263 : decode cL_law 263 = .ok (.iconst 1, 1) := by decide +kernel
theorem dL_law_264 : decode cL_law 264 = .ok (.iadd, 1) := by decide +kernel
theorem dL_law_265 : decode cL_law 265 = .ok (.iaload, 1) := by decide +kernel
theorem dL_law_266 : decode cL_law 266 = .ok (.invokevirtual 31, 3) := by decide +kernel
theorem dL_law_269 : decode cL_law 269 = .ok (.if_icmp .eq 658, 3) := by decide +kernel
theorem dL_law_272 : decode cL_law 272 = .ok (.iconst 0, 1) := by decide +kernel
theorem dL_law_273 : decode cL_law 273 = .ok (.ireturn, 1) := by decide +kernel
theorem dL_law_274 : decode cL_law 274 = .ok (.aload_n 1, 1) := by decide +kernel
theorem dL_law_275 : decode cL_law 275 = .ok (.invokevirtual 32, 3) := by decide +kernel
theorem dL_law_278 : decode cL_law 278 = .ok (.aload_n 2, 1) := by decide +kernel
theorem dL_law_279 : decode cL_law 279 = .ok (.invokevirtual 35, 3) := by decide +kernel
theorem dL_law_282 : decode cL_law 282 = .ok (.if_icmp .eq 645, 3) := by decide +kernel
theorem dL_law_285 : decode cL_law 285 = .ok (.iconst 0, 1) := by decide +kernel
theorem dL_law_286 : decode cL_law 286 = .ok (.ireturn, 1) := by decide +kernel
theorem dL_law_287 : decode cL_law 287 = .ok (.aload_n 1, 1) := by decide +kernel
theorem dL_law_288 : decode cL_law 288 = .ok (.invokevirtual 36, 3) := by decide +kernel
theorem dL_law_291 : decode cL_law 291 = .ok (.aload_n 2, 1) := by decide +kernel
theorem dL_law_292 : decode cL_law 292 = .ok (.invokevirtual 39, 3) := by decide +kernel
theorem dL_law_295 : decode cL_law 295 = .ok (.if_icmp .eq 632, 3) := by decide +kernel
theorem dL_law_298 : decode cL_law 298 = .ok (.iconst 0, 1) := by decide +kernel
theorem dL_law_299 : decode cL_law 299 = .ok (.ireturn, 1) := by decide +kernel
theorem dL_law_300 : decode cL_law 300 = .ok (.aload_n 1, 1) := by decide +kernel
theorem dL_law_301 : decode cL_law 301 = .ok (.aload_n 0, 1) := by decide +kernel
theorem dL_law_302 : decode cL_law 302 = .ok (.iload_n 3, 1) := by decide +kernel
theorem dL_law_303 : decode cL_law 303 = .ok (.iconst 1, 1) := by decide +kernel
theorem dL_law_304 : decode cL_law 304 = .ok (.iadd, 1) := by decide +kernel
theorem dL_law_305 : decode cL_law 305 = .ok (.iaload, 1) := by decide +kernel
theorem dL_law_306 : decode cL_law 306 = .ok (.invokevirtual 40, 3) := by decide +kernel
theorem dL_law_309 : decode cL_law 309 = .ok (.aload_n 2, 1) := by decide +kernel
theorem dL_law_310 : decode cL_law 310 = .ok (.aload_n 0, 1) := by decide +kernel
theorem dL_law_311 : decode cL_law 311 = .ok (.iload_n 3, 1) := by decide +kernel
theorem dL_law_312 : decode cL_law 312 = .ok (.iconst 1, 1) := by decide +kernel
theorem dL_law_313 : decode cL_law 313 = .ok (.iadd, 1) := by decide +kernel
theorem dL_law_314 : decode cL_law 314 = .ok (.iaload, 1) := by decide +kernel
theorem dL_law_315 : decode cL_law 315 = .ok (.invokevirtual 43, 3) := by decide +kernel
theorem dL_law_318 : decode cL_law 318 = .ok (.if_icmp .eq 609, 3) := by decide +kernel
theorem dL_law_321 : decode cL_law 321 = .ok (.iconst 0, 1) := by decide +kernel
theorem dL_law_322 : decode cL_law 322 = .ok (.ireturn, 1) := by decide +kernel
theorem dL_law_323 : decode cL_law 323 = .ok (.aload_n 1, 1) := by decide +kernel
theorem dL_law_324 : decode cL_law 324 = .ok (.invokevirtual 44, 3) := by decide +kernel
theorem dL_law_327 : decode cL_law 327 = .ok (.aload_n 2, 1) := by decide +kernel
theorem dL_law_328 : decode cL_law 328 = .ok (.invokevirtual 47, 3) := by decide +kernel
theorem dL_law_331 : decode cL_law 331 = .ok (.if_icmp .eq 596, 3) := by decide +kernel
theorem dL_law_334 : decode cL_law 334 = .ok (.iconst 0, 1) := by decide +kernel
theorem dL_law_335 : decode cL_law 335 = .ok (.ireturn, 1) := by decide +kernel
theorem dL_law_336 : decode cL_law 336 = .ok (.aload_n 1, 1) := by decide +kernel
theorem dL_law_337 : decode cL_law 337 = .ok (.invokevirtual 48, 3) := by decide +kernel
theorem dL_law_340 : decode cL_law 340 = .ok (.aload_n 2, 1) := by decide +kernel
theorem dL_law_341 : decode cL_law 341 = .ok (.invokevirtual 51, 3) := by decide +kernel
theorem dL_law_344 : decode cL_law 344 = .ok (.if_icmp .eq 583, 3) := by decide +kernel
theorem dL_law_347 : decode cL_law 347 = .ok (.iconst 0, 1) := by decide +kernel
theorem dL_law_348 : decode cL_law 348 = .ok (.ireturn, 1) := by decide +kernel
theorem dL_law_349 : decode cL_law 349 = .ok (.aload_n 1, 1) := by decide +kernel
theorem dL_law_350 : decode cL_law 350 = .ok (.aload_n 0, 1) := by decide +kernel
theorem dL_law_351 : decode cL_law 351 = .ok (.iload_n 3, 1) := by decide +kernel
theorem dL_law_352 : decode cL_law 352 = .ok (.iconst 1, 1) := by decide +kernel
theorem dL_law_353 : decode cL_law 353 = .ok (.iadd, 1) := by decide +kernel
theorem dL_law_354 : decode cL_law 354 = .ok (.iaload, 1) := by decide +kernel
theorem dL_law_355 : decode cL_law 355 = .ok (.aload_n 0, 1) := by decide +kernel
theorem dL_law_356 : decode cL_law 356 = .ok (.iload_n 3, 1) := by decide +kernel
theorem dL_law_357 : decode cL_law 357 = .ok (.iconst 2, 1) := by decide +kernel
theorem dL_law_358 : decode cL_law 358 = .ok (.iadd, 1) := by decide +kernel
theorem dL_law_359 : decode cL_law 359 = .ok (.iaload, 1) := by decide +kernel
theorem dL_law_360 : decode cL_law 360 = .ok (.invokevirtual 52, 3) := by decide +kernel
theorem dL_law_363 : decode cL_law 363 = .ok (.aload_n 2, 1) := by decide +kernel
theorem dL_law_364 : decode cL_law 364 = .ok (.aload_n 0, 1) := by decide +kernel
theorem dL_law_365 : decode cL_law 365 = .ok (.iload_n 3, 1) := by decide +kernel
theorem dL_law_366 : decode cL_law 366 = .ok (.iconst 1, 1) := by decide +kernel
theorem dL_law_367 : decode cL_law 367 = .ok (.iadd, 1) := by decide +kernel
theorem dL_law_368 : decode cL_law 368 = .ok (.iaload, 1) := by decide +kernel
theorem dL_law_369 : decode cL_law 369 = .ok (.aload_n 0, 1) := by decide +kernel
theorem dL_law_370 : decode cL_law 370 = .ok (.iload_n 3, 1) := by decide +kernel
theorem dL_law_371 : decode cL_law 371 = .ok (.iconst 2, 1) := by decide +kernel
theorem dL_law_372 : decode cL_law 372 = .ok (.iadd, 1) := by decide +kernel
theorem dL_law_373 : decode cL_law 373 = .ok (.iaload, 1) := by decide +kernel
theorem dL_law_374 : decode cL_law 374 = .ok (.invokevirtual 56, 3) := by decide +kernel
theorem dL_law_377 : decode cL_law 377 = .ok (.if_icmp .eq 550, 3) := by decide +kernel
theorem dL_law_380 : decode cL_law 380 = .ok (.iconst 0, 1) := by decide +kernel
theorem dL_law_381 : decode cL_law 381 = .ok (.ireturn, 1) := by decide +kernel
theorem dL_law_382 : decode cL_law 382 = .ok (.aload_n 1, 1) := by decide +kernel
theorem dL_law_383 : decode cL_law 383 = .ok (.aload_n 0, 1) := by decide +kernel
theorem dL_law_384 : decode cL_law 384 = .ok (.iload_n 3, 1) := by decide +kernel
theorem dL_law_385 : decode cL_law 385 = .ok (.iconst 1, 1) := by decide +kernel
theorem dL_law_386 : decode cL_law 386 = .ok (.iadd, 1) := by decide +kernel
theorem dL_law_387 : decode cL_law 387 = .ok (.iaload, 1) := by decide +kernel
theorem dL_law_388 : decode cL_law 388 = .ok (.invokevirtual 57, 3) := by decide +kernel
theorem dL_law_391 : decode cL_law 391 = .ok (.aload_n 2, 1) := by decide +kernel
theorem dL_law_392 : decode cL_law 392 = .ok (.aload_n 0, 1) := by decide +kernel
theorem dL_law_393 : decode cL_law 393 = .ok (.iload_n 3, 1) := by decide +kernel
theorem dL_law_394 : decode cL_law 394 = .ok (.iconst 1, 1) := by decide +kernel
theorem dL_law_395 : decode cL_law 395 = .ok (.iadd, 1) := by decide +kernel
theorem dL_law_396 : decode cL_law 396 = .ok (.iaload, 1) := by decide +kernel
theorem dL_law_397 : decode cL_law 397 = .ok (.invokevirtual 60, 3) := by decide +kernel
theorem dL_law_400 : decode cL_law 400 = .ok (.if_icmp .eq 527, 3) := by decide +kernel
theorem dL_law_403 : decode cL_law 403 = .ok (.iconst 0, 1) := by decide +kernel
theorem dL_law_404 : decode cL_law 404 = .ok (.ireturn, 1) := by decide +kernel
theorem dL_law_405 : decode cL_law 405 = .ok (.aload_n 1, 1) := by decide +kernel
theorem dL_law_406 : decode cL_law 406 = .ok (.aload_n 0, 1) := by decide +kernel
theorem dL_law_407 : decode cL_law 407 = .ok (.iload_n 3, 1) := by decide +kernel
theorem dL_law_408 : decode cL_law 408 = .ok (.iconst 1, 1) := by decide +kernel
theorem dL_law_409 : decode cL_law 409 = .ok (.iadd, 1) := by decide +kernel
theorem dL_law_410 : decode cL_law 410 = .ok (.iaload, 1) := by decide +kernel
theorem dL_law_411 : decode cL_law 411 = .ok (.aload_n 0, 1) := by decide +kernel
theorem dL_law_412 : decode cL_law 412 = .ok (.iload_n 3, 1) := by decide +kernel
theorem dL_law_413 : decode cL_law 413 = .ok (.iconst 2, 1) := by decide +kernel
theorem dL_law_414 : decode cL_law 414 = .ok (.iadd, 1) := by decide +kernel
theorem dL_law_415 : decode cL_law 415 = .ok (.iaload, 1) := by decide +kernel
theorem dL_law_416 : decode cL_law 416 = .ok (.invokevirtual 61, 3) := by decide +kernel
theorem dL_law_419 : decode cL_law 419 = .ok (.aload_n 2, 1) := by decide +kernel
theorem dL_law_420 : decode cL_law 420 = .ok (.aload_n 0, 1) := by decide +kernel
theorem dL_law_421 : decode cL_law 421 = .ok (.iload_n 3, 1) := by decide +kernel
theorem dL_law_422 : decode cL_law 422 = .ok (.iconst 1, 1) := by decide +kernel
theorem dL_law_423 : decode cL_law 423 = .ok (.iadd, 1) := by decide +kernel
theorem dL_law_424 : decode cL_law 424 = .ok (.iaload, 1) := by decide +kernel
theorem dL_law_425 : decode cL_law 425 = .ok (.aload_n 0, 1) := by decide +kernel
theorem dL_law_426 : decode cL_law 426 = .ok (.iload_n 3, 1) := by decide +kernel
theorem dL_law_427 : decode cL_law 427 = .ok (.iconst 2, 1) := by decide +kernel
theorem dL_law_428 : decode cL_law 428 = .ok (.iadd, 1) := by decide +kernel
theorem dL_law_429 : decode cL_law 429 = .ok (.iaload, 1) := by decide +kernel
theorem dL_law_430 : decode cL_law 430 = .ok (.invokevirtual 64, 3) := by decide +kernel
theorem dL_law_433 : decode cL_law 433 = .ok (.if_icmp .eq 494, 3) := by decide +kernel
theorem dL_law_436 : decode cL_law 436 = .ok (.iconst 0, 1) := by decide +kernel
theorem dL_law_437 : decode cL_law 437 = .ok (.ireturn, 1) := by decide +kernel
theorem dL_law_438 : decode cL_law 438 = .ok (.aload_n 1, 1) := by decide +kernel
theorem dL_law_439 : decode cL_law 439 = .ok (.invokevirtual 65, 3) := by decide +kernel
theorem dL_law_442 : decode cL_law 442 = .ok (.aload_n 2, 1) := by decide +kernel
theorem dL_law_443 : decode cL_law 443 = .ok (.invokevirtual 68, 3) := by decide +kernel
theorem dL_law_446 : decode cL_law 446 = .ok (.if_icmp .eq 481, 3) := by decide +kernel
theorem dL_law_449 : decode cL_law 449 = .ok (.iconst 0, 1) := by decide +kernel
theorem dL_law_450 : decode cL_law 450 = .ok (.ireturn, 1) := by decide +kernel
theorem dL_law_451 : decode cL_law 451 = .ok (.aload_n 1, 1) := by decide +kernel
theorem dL_law_452 : decode cL_law 452 = .ok (.aload_n 0, 1) := by decide +kernel
theorem dL_law_453 : decode cL_law 453 = .ok (.iload_n 3, 1) := by decide +kernel
theorem dL_law_454 : decode cL_law 454 = .ok (.iconst 1, 1) := by decide +kernel
theorem dL_law_455 : decode cL_law 455 = .ok (.iadd, 1) := by decide +kernel
theorem dL_law_456 : decode cL_law 456 = .ok (.iaload, 1) := by decide +kernel
theorem dL_law_457 : decode cL_law 457 = .ok (.aload_n 0, 1) := by decide +kernel
theorem dL_law_458 : decode cL_law 458 = .ok (.iload_n 3, 1) := by decide +kernel
theorem dL_law_459 : decode cL_law 459 = .ok (.iconst 2, 1) := by decide +kernel
theorem dL_law_460 : decode cL_law 460 = .ok (.iadd, 1) := by decide +kernel
theorem dL_law_461 : decode cL_law 461 = .ok (.iaload, 1) := by decide +kernel
theorem dL_law_462 : decode cL_law 462 = .ok (.aload_n 0, 1) := by decide +kernel
theorem dL_law_463 : decode cL_law 463 = .ok (.iload_n 3, 1) := by decide +kernel
theorem dL_law_464 : decode cL_law 464 = .ok (.iconst 3, 1) := by decide +kernel
theorem dL_law_465 : decode cL_law 465 = .ok (.iadd, 1) := by decide +kernel
theorem dL_law_466 : decode cL_law 466 = .ok (.iaload, 1) := by decide +kernel
theorem dL_law_467 : decode cL_law 467 = .ok (.invokevirtual 69, 3) := by decide +kernel
theorem dL_law_470 : decode cL_law 470 = .ok (.aload_n 2, 1) := by decide +kernel
theorem dL_law_471 : decode cL_law 471 = .ok (.aload_n 0, 1) := by decide +kernel
theorem dL_law_472 : decode cL_law 472 = .ok (.iload_n 3, 1) := by decide +kernel
theorem dL_law_473 : decode cL_law 473 = .ok (.iconst 1, 1) := by decide +kernel
theorem dL_law_474 : decode cL_law 474 = .ok (.iadd, 1) := by decide +kernel
theorem dL_law_475 : decode cL_law 475 = .ok (.iaload, 1) := by decide +kernel
theorem dL_law_476 : decode cL_law 476 = .ok (.aload_n 0, 1) := by decide +kernel
theorem dL_law_477 : decode cL_law 477 = .ok (.iload_n 3, 1) := by decide +kernel
theorem dL_law_478 : decode cL_law 478 = .ok (.iconst 2, 1) := by decide +kernel
theorem dL_law_479 : decode cL_law 479 = .ok (.iadd, 1) := by decide +kernel
theorem dL_law_480 : decode cL_law 480 = .ok (.iaload, 1) := by decide +kernel
theorem dL_law_481 : decode cL_law 481 = .ok (.aload_n 0, 1) := by decide +kernel
theorem dL_law_482 : decode cL_law 482 = .ok (.iload_n 3, 1) := by decide +kernel
theorem dL_law_483 : decode cL_law 483 = .ok (.iconst 3, 1) := by decide +kernel
theorem dL_law_484 : decode cL_law 484 = .ok (.iadd, 1) := by decide +kernel
theorem dL_law_485 : decode cL_law 485 = .ok (.iaload, 1) := by decide +kernel
theorem dL_law_486 : decode cL_law 486 = .ok (.invokevirtual 72, 3) := by decide +kernel
theorem dL_law_489 : decode cL_law 489 = .ok (.if_icmp .eq 438, 3) := by decide +kernel
theorem dL_law_492 : decode cL_law 492 = .ok (.iconst 0, 1) := by decide +kernel
theorem dL_law_493 : decode cL_law 493 = .ok (.ireturn, 1) := by decide +kernel
theorem dL_law_494 : decode cL_law 494 = .ok (.aload_n 1, 1) := by decide +kernel
theorem dL_law_495 : decode cL_law 495 = .ok (.aload_n 0, 1) := by decide +kernel
theorem dL_law_496 : decode cL_law 496 = .ok (.iload_n 3, 1) := by decide +kernel
theorem dL_law_497 : decode cL_law 497 = .ok (.iconst 1, 1) := by decide +kernel
theorem dL_law_498 : decode cL_law 498 = .ok (.iadd, 1) := by decide +kernel
theorem dL_law_499 : decode cL_law 499 = .ok (.iaload, 1) := by decide +kernel
theorem dL_law_500 : decode cL_law 500 = .ok (.invokevirtual 73, 3) := by decide +kernel
theorem dL_law_503 : decode cL_law 503 = .ok (.aload_n 2, 1) := by decide +kernel
theorem dL_law_504 : decode cL_law 504 = .ok (.aload_n 0, 1) := by decide +kernel
theorem dL_law_505 : decode cL_law 505 = .ok (.iload_n 3, 1) := by decide +kernel
theorem dL_law_506 : decode cL_law 506 = .ok (.iconst 1, 1) := by decide +kernel
theorem dL_law_507 : decode cL_law 507 = .ok (.iadd, 1) := by decide +kernel
theorem dL_law_508 : decode cL_law 508 = .ok (.iaload, 1) := by decide +kernel
theorem dL_law_509 : decode cL_law 509 = .ok (.invokevirtual 76, 3) := by decide +kernel
theorem dL_law_512 : decode cL_law 512 = .ok (.if_icmp .eq 415, 3) := by decide +kernel
theorem dL_law_515 : decode cL_law 515 = .ok (.iconst 0, 1) := by decide +kernel
theorem dL_law_516 : decode cL_law 516 = .ok (.ireturn, 1) := by decide +kernel
theorem dL_law_517 : decode cL_law 517 = .ok (.aload_n 1, 1) := by decide +kernel
theorem dL_law_518 : decode cL_law 518 = .ok (.aload_n 0, 1) := by decide +kernel
theorem dL_law_519 : decode cL_law 519 = .ok (.iload_n 3, 1) := by decide +kernel
theorem dL_law_520 : decode cL_law 520 = .ok (.iconst 1, 1) := by decide +kernel
theorem dL_law_521 : decode cL_law 521 = .ok (.iadd, 1) := by decide +kernel
theorem dL_law_522 : decode cL_law 522 = .ok (.iaload, 1) := by decide +kernel
theorem dL_law_523 : decode cL_law 523 = .ok (.aload_n 0, 1) := by decide +kernel
theorem dL_law_524 : decode cL_law 524 = .ok (.iload_n 3, 1) := by decide +kernel
theorem dL_law_525 : decode cL_law 525 = .ok (.iconst 2, 1) := by decide +kernel
theorem dL_law_526 : decode cL_law 526 = .ok (.iadd, 1) := by decide +kernel
theorem dL_law_527 : decode cL_law 527 = .ok (.iaload, 1) := by decide +kernel
theorem dL_law_528 : decode cL_law 528 = .ok (.invokevirtual 77, 3) := by decide +kernel
theorem dL_law_531 : decode cL_law 531 = .ok (.aload_n 2, 1) := by decide +kernel
theorem dL_law_532 : decode cL_law 532 = .ok (.aload_n 0, 1) := by decide +kernel
theorem dL_law_533 : decode cL_law 533 = .ok (.iload_n 3, 1) := by decide +kernel
theorem dL_law_534 : decode cL_law 534 = .ok (.iconst 1, 1) := by decide +kernel
theorem dL_law_535 : decode cL_law 535 = .ok (.iadd, 1) := by decide +kernel
theorem dL_law_536 : decode cL_law 536 = .ok (.iaload, 1) := by decide +kernel
theorem dL_law_537 : decode cL_law 537 = .ok (.aload_n 0, 1) := by decide +kernel
theorem dL_law_538 : decode cL_law 538 = .ok (.iload_n 3, 1) := by decide +kernel
theorem dL_law_539 : decode cL_law 539 = .ok (.iconst 2, 1) := by decide +kernel
theorem dL_law_540 : decode cL_law 540 = .ok (.iadd, 1) := by decide +kernel
theorem dL_law_541 : decode cL_law 541 = .ok (.iaload, 1) := by decide +kernel
theorem dL_law_542 : decode cL_law 542 = .ok (.invokevirtual 80, 3) := by decide +kernel
theorem dL_law_545 : decode cL_law 545 = .ok (.if_icmp .eq 382, 3) := by decide +kernel
theorem dL_law_548 : decode cL_law 548 = .ok (.iconst 0, 1) := by decide +kernel
theorem dL_law_549 : decode cL_law 549 = .ok (.ireturn, 1) := by decide +kernel
theorem dL_law_550 : decode cL_law 550 = .ok (.aload_n 1, 1) := by decide +kernel
theorem dL_law_551 : decode cL_law 551 = .ok (.aload_n 0, 1) := by decide +kernel
theorem dL_law_552 : decode cL_law 552 = .ok (.iload_n 3, 1) := by decide +kernel
theorem dL_law_553 : decode cL_law 553 = .ok (.iconst 1, 1) := by decide +kernel
theorem dL_law_554 : decode cL_law 554 = .ok (.iadd, 1) := by decide +kernel
theorem dL_law_555 : decode cL_law 555 = .ok (.iaload, 1) := by decide +kernel
theorem dL_law_556 : decode cL_law 556 = .ok (.aload_n 0, 1) := by decide +kernel
theorem dL_law_557 : decode cL_law 557 = .ok (.iload_n 3, 1) := by decide +kernel
theorem dL_law_558 : decode cL_law 558 = .ok (.iconst 2, 1) := by decide +kernel
theorem dL_law_559 : decode cL_law 559 = .ok (.iadd, 1) := by decide +kernel
theorem dL_law_560 : decode cL_law 560 = .ok (.iaload, 1) := by decide +kernel
theorem dL_law_561 : decode cL_law 561 = .ok (.invokevirtual 81, 3) := by decide +kernel
theorem dL_law_564 : decode cL_law 564 = .ok (.aload_n 2, 1) := by decide +kernel
theorem dL_law_565 : decode cL_law 565 = .ok (.aload_n 0, 1) := by decide +kernel
theorem dL_law_566 : decode cL_law 566 = .ok (.iload_n 3, 1) := by decide +kernel
theorem dL_law_567 : decode cL_law 567 = .ok (.iconst 1, 1) := by decide +kernel
theorem dL_law_568 : decode cL_law 568 = .ok (.iadd, 1) := by decide +kernel
theorem dL_law_569 : decode cL_law 569 = .ok (.iaload, 1) := by decide +kernel
theorem dL_law_570 : decode cL_law 570 = .ok (.aload_n 0, 1) := by decide +kernel
theorem dL_law_571 : decode cL_law 571 = .ok (.iload_n 3, 1) := by decide +kernel
theorem dL_law_572 : decode cL_law 572 = .ok (.iconst 2, 1) := by decide +kernel
theorem dL_law_573 : decode cL_law 573 = .ok (.iadd, 1) := by decide +kernel
theorem dL_law_574 : decode cL_law 574 = .ok (.iaload, 1) := by decide +kernel
theorem dL_law_575 : decode cL_law 575 = .ok (.invokevirtual 84, 3) := by decide +kernel
theorem dL_law_578 : decode cL_law 578 = .ok (.if_icmp .eq 349, 3) := by decide +kernel
theorem dL_law_581 : decode cL_law 581 = .ok (.iconst 0, 1) := by decide +kernel
theorem dL_law_582 : decode cL_law 582 = .ok (.ireturn, 1) := by decide +kernel
theorem dL_law_583 : decode cL_law 583 = .ok (.aload_n 1, 1) := by decide +kernel
theorem dL_law_584 : decode cL_law 584 = .ok (.invokevirtual 85, 3) := by decide +kernel
theorem dL_law_587 : decode cL_law 587 = .ok (.aload_n 2, 1) := by decide +kernel
theorem dL_law_588 : decode cL_law 588 = .ok (.invokevirtual 88, 3) := by decide +kernel
theorem dL_law_591 : decode cL_law 591 = .ok (.if_icmp .eq 336, 3) := by decide +kernel
theorem dL_law_594 : decode cL_law 594 = .ok (.iconst 0, 1) := by decide +kernel
theorem dL_law_595 : decode cL_law 595 = .ok (.ireturn, 1) := by decide +kernel
theorem dL_law_596 : decode cL_law 596 = .ok (.aload_n 1, 1) := by decide +kernel
theorem dL_law_597 : decode cL_law 597 = .ok (.aload_n 0, 1) := by decide +kernel
theorem dL_law_598 : decode cL_law 598 = .ok (.iload_n 3, 1) := by decide +kernel
theorem dL_law_599 : decode cL_law 599 = .ok (.iconst 1, 1) := by decide +kernel
theorem dL_law_600 : decode cL_law 600 = .ok (.iadd, 1) := by decide +kernel
theorem dL_law_601 : decode cL_law 601 = .ok (.iaload, 1) := by decide +kernel
theorem dL_law_602 : decode cL_law 602 = .ok (.invokevirtual 89, 3) := by decide +kernel
theorem dL_law_605 : decode cL_law 605 = .ok (.aload_n 2, 1) := by decide +kernel
theorem dL_law_606 : decode cL_law 606 = .ok (.aload_n 0, 1) := by decide +kernel
theorem dL_law_607 : decode cL_law 607 = .ok (.iload_n 3, 1) := by decide +kernel
theorem dL_law_608 : decode cL_law 608 = .ok (.iconst 1, 1) := by decide +kernel
theorem dL_law_609 : decode cL_law 609 = .ok (.iadd, 1) := by decide +kernel
theorem dL_law_610 : decode cL_law 610 = .ok (.iaload, 1) := by decide +kernel
theorem dL_law_611 : decode cL_law 611 = .ok (.invokevirtual 92, 3) := by decide +kernel
theorem dL_law_614 : decode cL_law 614 = .ok (.if_icmp .eq 313, 3) := by decide +kernel
theorem dL_law_617 : decode cL_law 617 = .ok (.iconst 0, 1) := by decide +kernel
theorem dL_law_618 : decode cL_law 618 = .ok (.ireturn, 1) := by decide +kernel
theorem dL_law_619 : decode cL_law 619 = .ok (.aload_n 1, 1) := by decide +kernel
theorem dL_law_620 : decode cL_law 620 = .ok (.aload_n 0, 1) := by decide +kernel
theorem dL_law_621 : decode cL_law 621 = .ok (.iload_n 3, 1) := by decide +kernel
theorem dL_law_622 : decode cL_law 622 = .ok (.iconst 1, 1) := by decide +kernel
theorem dL_law_623 : decode cL_law 623 = .ok (.iadd, 1) := by decide +kernel
theorem dL_law_624 : decode cL_law 624 = .ok (.iaload, 1) := by decide +kernel
theorem dL_law_625 : decode cL_law 625 = .ok (.invokevirtual 93, 3) := by decide +kernel
theorem dL_law_628 : decode cL_law 628 = .ok (.aload_n 2, 1) := by decide +kernel
theorem dL_law_629 : decode cL_law 629 = .ok (.aload_n 0, 1) := by decide +kernel
theorem dL_law_630 : decode cL_law 630 = .ok (.iload_n 3, 1) := by decide +kernel
theorem dL_law_631 : decode cL_law 631 = .ok (.iconst 1, 1) := by decide +kernel
theorem dL_law_632 : decode cL_law 632 = .ok (.iadd, 1) := by decide +kernel
theorem dL_law_633 : decode cL_law 633 = .ok (.iaload, 1) := by decide +kernel
theorem dL_law_634 : decode cL_law 634 = .ok (.invokevirtual 96, 3) := by decide +kernel
theorem dL_law_637 : decode cL_law 637 = .ok (.if_icmp .eq 290, 3) := by decide +kernel
theorem dL_law_640 : decode cL_law 640 = .ok (.iconst 0, 1) := by decide +kernel
theorem dL_law_641 : decode cL_law 641 = .ok (.ireturn, 1) := by decide +kernel
theorem dL_law_642 : decode cL_law 642 = .ok (.aload_n 1, 1) := by decide +kernel
theorem dL_law_643 : decode cL_law 643 = .ok (.aload_n 0, 1) := by decide +kernel
theorem dL_law_644 : decode cL_law 644 = .ok (.iload_n 3, 1) := by decide +kernel
theorem dL_law_645 : decode cL_law 645 = .ok (.iconst 1, 1) := by decide +kernel
theorem dL_law_646 : decode cL_law 646 = .ok (.iadd, 1) := by decide +kernel
theorem dL_law_647 : decode cL_law 647 = .ok (.iaload, 1) := by decide +kernel
theorem dL_law_648 : decode cL_law 648 = .ok (.invokevirtual 97, 3) := by decide +kernel
theorem dL_law_651 : decode cL_law 651 = .ok (.aload_n 2, 1) := by decide +kernel
theorem dL_law_652 : decode cL_law 652 = .ok (.aload_n 0, 1) := by decide +kernel
theorem dL_law_653 : decode cL_law 653 = .ok (.iload_n 3, 1) := by decide +kernel
theorem dL_law_654 : decode cL_law 654 = .ok (.iconst 1, 1) := by decide +kernel
theorem dL_law_655 : decode cL_law 655 = .ok (.iadd, 1) := by decide +kernel
theorem dL_law_656 : decode cL_law 656 = .ok (.iaload, 1) := by decide +kernel
theorem dL_law_657 : decode cL_law 657 = .ok (.invokevirtual 100, 3) := by decide +kernel
theorem dL_law_660 : decode cL_law 660 = .ok (.if_icmp .eq 267, 3) := by decide +kernel
theorem dL_law_663 : decode cL_law 663 = .ok (.iconst 0, 1) := by decide +kernel
theorem dL_law_664 : decode cL_law 664 = .ok (.ireturn, 1) := by decide +kernel
theorem dL_law_665 : decode cL_law 665 = .ok (.aload_n 1, 1) := by decide +kernel
theorem dL_law_666 : decode cL_law 666 = .ok (.aload_n 0, 1) := by decide +kernel
theorem dL_law_667 : decode cL_law 667 = .ok (.iload_n 3, 1) := by decide +kernel
theorem dL_law_668 : decode cL_law 668 = .ok (.iconst 1, 1) := by decide +kernel
theorem dL_law_669 : decode cL_law 669 = .ok (.iadd, 1) := by decide +kernel
theorem dL_law_670 : decode cL_law 670 = .ok (.iaload, 1) := by decide +kernel
theorem dL_law_671 : decode cL_law 671 = .ok (.invokevirtual 101, 3) := by decide +kernel
theorem dL_law_674 : decode cL_law 674 = .ok (.aload_n 2, 1) := by decide +kernel
theorem dL_law_675 : decode cL_law 675 = .ok (.aload_n 0, 1) := by decide +kernel
theorem dL_law_676 : decode cL_law 676 = .ok (.iload_n 3, 1) := by decide +kernel
theorem dL_law_677 : decode cL_law 677 = .ok (.iconst 1, 1) := by decide +kernel
theorem dL_law_678 : decode cL_law 678 = .ok (.iadd, 1) := by decide +kernel
theorem dL_law_679 : decode cL_law 679 = .ok (.iaload, 1) := by decide +kernel
theorem dL_law_680 : decode cL_law 680 = .ok (.invokevirtual 104, 3) := by decide +kernel
theorem dL_law_683 : decode cL_law 683 = .ok (.if_icmp .eq 244, 3) := by decide +kernel
theorem dL_law_686 : decode cL_law 686 = .ok (.iconst 0, 1) := by decide +kernel
theorem dL_law_687 : decode cL_law 687 = .ok (.ireturn, 1) := by decide +kernel
theorem dL_law_688 : decode cL_law 688 = .ok (.aload_n 1, 1) := by decide +kernel
theorem dL_law_689 : decode cL_law 689 = .ok (.aload_n 0, 1) := by decide +kernel
theorem dL_law_690 : decode cL_law 690 = .ok (.iload_n 3, 1) := by decide +kernel
theorem dL_law_691 : decode cL_law 691 = .ok (.iconst 1, 1) := by decide +kernel
theorem dL_law_692 : decode cL_law 692 = .ok (.iadd, 1) := by decide +kernel
theorem dL_law_693 : decode cL_law 693 = .ok (.iaload, 1) := by decide +kernel
theorem dL_law_694 : decode cL_law 694 = .ok (.aload_n 0, 1) := by decide +kernel
theorem dL_law_695 : decode cL_law 695 = .ok (.iload_n 3, 1) := by decide +kernel
theorem dL_law_696 : decode cL_law 696 = .ok (.iconst 2, 1) := by decide +kernel
theorem dL_law_697 : decode cL_law 697 = .ok (.iadd, 1) := by decide +kernel
theorem dL_law_698 : decode cL_law 698 = .ok (.iaload, 1) := by decide +kernel
theorem dL_law_699 : decode cL_law 699 = .ok (.aload_n 0, 1) := by decide +kernel
theorem dL_law_700 : decode cL_law 700 = .ok (.iload_n 3, 1) := by decide +kernel
theorem dL_law_701 : decode cL_law 701 = .ok (.iconst 3, 1) := by decide +kernel
theorem dL_law_702 : decode cL_law 702 = .ok (.iadd, 1) := by decide +kernel
theorem dL_law_703 : decode cL_law 703 = .ok (.iaload, 1) := by decide +kernel
theorem dL_law_704 : decode cL_law 704 = .ok (.invokevirtual 105, 3) := by decide +kernel
theorem dL_law_707 : decode cL_law 707 = .ok (.aload_n 2, 1) := by decide +kernel
theorem dL_law_708 : decode cL_law 708 = .ok (.aload_n 0, 1) := by decide +kernel
theorem dL_law_709 : decode cL_law 709 = .ok (.iload_n 3, 1) := by decide +kernel
theorem dL_law_710 : decode cL_law 710 = .ok (.iconst 1, 1) := by decide +kernel
theorem dL_law_711 : decode cL_law 711 = .ok (.iadd, 1) := by decide +kernel
theorem dL_law_712 : decode cL_law 712 = .ok (.iaload, 1) := by decide +kernel
theorem dL_law_713 : decode cL_law 713 = .ok (.aload_n 0, 1) := by decide +kernel
theorem dL_law_714 : decode cL_law 714 = .ok (.iload_n 3, 1) := by decide +kernel
theorem dL_law_715 : decode cL_law 715 = .ok (.iconst 2, 1) := by decide +kernel
theorem dL_law_716 : decode cL_law 716 = .ok (.iadd, 1) := by decide +kernel
theorem dL_law_717 : decode cL_law 717 = .ok (.iaload, 1) := by decide +kernel
theorem dL_law_718 : decode cL_law 718 = .ok (.aload_n 0, 1) := by decide +kernel
theorem dL_law_719 : decode cL_law 719 = .ok (.iload_n 3, 1) := by decide +kernel
theorem dL_law_720 : decode cL_law 720 = .ok (.iconst 3, 1) := by decide +kernel
theorem dL_law_721 : decode cL_law 721 = .ok (.iadd, 1) := by decide +kernel
theorem dL_law_722 : decode cL_law 722 = .ok (.iaload, 1) := by decide +kernel
theorem dL_law_723 : decode cL_law 723 = .ok (.invokevirtual 108, 3) := by decide +kernel
theorem dL_law_726 : decode cL_law 726 = .ok (.if_icmp .eq 201, 3) := by decide +kernel
theorem dL_law_729 : decode cL_law 729 = .ok (.iconst 0, 1) := by decide +kernel
theorem dL_law_730 : decode cL_law 730 = .ok (.ireturn, 1) := by decide +kernel
theorem dL_law_731 : decode cL_law 731 = .ok (.aload_n 1, 1) := by decide +kernel
theorem dL_law_732 : decode cL_law 732 = .ok (.aload_n 0, 1) := by decide +kernel
theorem dL_law_733 : decode cL_law 733 = .ok (.iload_n 3, 1) := by decide +kernel
theorem dL_law_734 : decode cL_law 734 = .ok (.iconst 1, 1) := by decide +kernel
theorem dL_law_735 : decode cL_law 735 = .ok (.iadd, 1) := by decide +kernel
theorem dL_law_736 : decode cL_law 736 = .ok (.iaload, 1) := by decide +kernel
theorem dL_law_737 : decode cL_law 737 = .ok (.aload_n 0, 1) := by decide +kernel
theorem dL_law_738 : decode cL_law 738 = .ok (.iload_n 3, 1) := by decide +kernel
theorem dL_law_739 : decode cL_law 739 = .ok (.iconst 2, 1) := by decide +kernel
theorem dL_law_740 : decode cL_law 740 = .ok (.iadd, 1) := by decide +kernel
theorem dL_law_741 : decode cL_law 741 = .ok (.iaload, 1) := by decide +kernel
theorem dL_law_742 : decode cL_law 742 = .ok (.invokevirtual 109, 3) := by decide +kernel
theorem dL_law_745 : decode cL_law 745 = .ok (.aload_n 2, 1) := by decide +kernel
theorem dL_law_746 : decode cL_law 746 = .ok (.aload_n 0, 1) := by decide +kernel
theorem dL_law_747 : decode cL_law 747 = .ok (.iload_n 3, 1) := by decide +kernel
theorem dL_law_748 : decode cL_law 748 = .ok (.iconst 1, 1) := by decide +kernel
theorem dL_law_749 : decode cL_law 749 = .ok (.iadd, 1) := by decide +kernel
theorem dL_law_750 : decode cL_law 750 = .ok (.iaload, 1) := by decide +kernel
theorem dL_law_751 : decode cL_law 751 = .ok (.aload_n 0, 1) := by decide +kernel
theorem dL_law_752 : decode cL_law 752 = .ok (.iload_n 3, 1) := by decide +kernel
theorem dL_law_753 : decode cL_law 753 = .ok (.iconst 2, 1) := by decide +kernel
theorem dL_law_754 : decode cL_law 754 = .ok (.iadd, 1) := by decide +kernel
theorem dL_law_755 : decode cL_law 755 = .ok (.iaload, 1) := by decide +kernel
theorem dL_law_756 : decode cL_law 756 = .ok (.invokevirtual 112, 3) := by decide +kernel
theorem dL_law_759 : decode cL_law 759 = .ok (.if_icmp .eq 168, 3) := by decide +kernel
theorem dL_law_762 : decode cL_law 762 = .ok (.iconst 0, 1) := by decide +kernel
theorem dL_law_763 : decode cL_law 763 = .ok (.ireturn, 1) := by decide +kernel
theorem dL_law_764 : decode cL_law 764 = .ok (.aload_n 1, 1) := by decide +kernel
theorem dL_law_765 : decode cL_law 765 = .ok (.aload_n 0, 1) := by decide +kernel
theorem dL_law_766 : decode cL_law 766 = .ok (.iload_n 3, 1) := by decide +kernel
theorem dL_law_767 : decode cL_law 767 = .ok (.iconst 1, 1) := by decide +kernel
theorem dL_law_768 : decode cL_law 768 = .ok (.iadd, 1) := by decide +kernel
theorem dL_law_769 : decode cL_law 769 = .ok (.iaload, 1) := by decide +kernel
theorem dL_law_770 : decode cL_law 770 = .ok (.aload_n 0, 1) := by decide +kernel
theorem dL_law_771 : decode cL_law 771 = .ok (.iload_n 3, 1) := by decide +kernel
theorem dL_law_772 : decode cL_law 772 = .ok (.iconst 2, 1) := by decide +kernel
theorem dL_law_773 : decode cL_law 773 = .ok (.iadd, 1) := by decide +kernel
theorem dL_law_774 : decode cL_law 774 = .ok (.iaload, 1) := by decide +kernel
theorem dL_law_775 : decode cL_law 775 = .ok (.invokevirtual 113, 3) := by decide +kernel
theorem dL_law_778 : decode cL_law 778 = .ok (.aload_n 2, 1) := by decide +kernel
theorem dL_law_779 : decode cL_law 779 = .ok (.aload_n 0, 1) := by decide +kernel
theorem dL_law_780 : decode cL_law 780 = .ok (.iload_n 3, 1) := by decide +kernel
theorem dL_law_781 : decode cL_law 781 = .ok (.iconst 1, 1) := by decide +kernel
theorem dL_law_782 : decode cL_law 782 = .ok (.iadd, 1) := by decide +kernel
theorem dL_law_783 : decode cL_law 783 = .ok (.iaload, 1) := by decide +kernel
theorem dL_law_784 : decode cL_law 784 = .ok (.aload_n 0, 1) := by decide +kernel
theorem dL_law_785 : decode cL_law 785 = .ok (.iload_n 3, 1) := by decide +kernel
theorem dL_law_786 : decode cL_law 786 = .ok (.iconst 2, 1) := by decide +kernel
theorem dL_law_787 : decode cL_law 787 = .ok (.iadd, 1) := by decide +kernel
theorem dL_law_788 : decode cL_law 788 = .ok (.iaload, 1) := by decide +kernel
theorem dL_law_789 : decode cL_law 789 = .ok (.invokevirtual 116, 3) := by decide +kernel
theorem dL_law_792 : decode cL_law 792 = .ok (.if_icmp .eq 135, 3) := by decide +kernel
theorem dL_law_795 : decode cL_law 795 = .ok (.iconst 0, 1) := by decide +kernel
theorem dL_law_796 : decode cL_law 796 = .ok (.ireturn, 1) := by decide +kernel
theorem dL_law_797 : decode cL_law 797 = .ok (.aload_n 1, 1) := by decide +kernel
theorem dL_law_798 : decode cL_law 798 = .ok (.aload_n 0, 1) := by decide +kernel
theorem dL_law_799 : decode cL_law 799 = .ok (.iload_n 3, 1) := by decide +kernel
theorem dL_law_800 : decode cL_law 800 = .ok (.iconst 1, 1) := by decide +kernel
theorem dL_law_801 : decode cL_law 801 = .ok (.iadd, 1) := by decide +kernel
theorem dL_law_802 : decode cL_law 802 = .ok (.iaload, 1) := by decide +kernel
theorem dL_law_803 : decode cL_law 803 = .ok (.invokevirtual 117, 3) := by decide +kernel
theorem dL_law_806 : decode cL_law 806 = .ok (.aload_n 2, 1) := by decide +kernel
theorem dL_law_807 : decode cL_law 807 = .ok (.aload_n 0, 1) := by decide +kernel
theorem dL_law_808 : decode cL_law 808 = .ok (.iload_n 3, 1) := by decide +kernel
theorem dL_law_809 : decode cL_law 809 = .ok (.iconst 1, 1) := by decide +kernel
theorem dL_law_810 : decode cL_law 810 = .ok (.iadd, 1) := by decide +kernel
theorem dL_law_811 : decode cL_law 811 = .ok (.iaload, 1) := by decide +kernel
theorem dL_law_812 : decode cL_law 812 = .ok (.invokevirtual 121, 3) := by decide +kernel
theorem dL_law_815 : decode cL_law 815 = .ok (.lcmp, 1) := by decide +kernel
theorem dL_law_816 : decode cL_law 816 = .ok (.ifCond .eq 111, 3) := by decide +kernel
theorem dL_law_819 : decode cL_law 819 = .ok (.iconst 0, 1) := by decide +kernel
theorem dL_law_820 : decode cL_law 820 = .ok (.ireturn, 1) := by decide +kernel
theorem dL_law_821 : decode cL_law 821 = .ok (.aload_n 1, 1) := by decide +kernel
theorem dL_law_822 : decode cL_law 822 = .ok (.aload_n 0, 1) := by decide +kernel
theorem dL_law_823 : decode cL_law 823 = .ok (.iload_n 3, 1) := by decide +kernel
theorem dL_law_824 : decode cL_law 824 = .ok (.iconst 1, 1) := by decide +kernel
theorem dL_law_825 : decode cL_law 825 = .ok (.iadd, 1) := by decide +kernel
theorem dL_law_826 : decode cL_law 826 = .ok (.iaload, 1) := by decide +kernel
theorem dL_law_827 : decode cL_law 827 = .ok (.invokevirtual 122, 3) := by decide +kernel
theorem dL_law_830 : decode cL_law 830 = .ok (.aload_n 2, 1) := by decide +kernel
theorem dL_law_831 : decode cL_law 831 = .ok (.aload_n 0, 1) := by decide +kernel
theorem dL_law_832 : decode cL_law 832 = .ok (.iload_n 3, 1) := by decide +kernel
theorem dL_law_833 : decode cL_law 833 = .ok (.iconst 1, 1) := by decide +kernel
theorem dL_law_834 : decode cL_law 834 = .ok (.iadd, 1) := by decide +kernel
theorem dL_law_835 : decode cL_law 835 = .ok (.iaload, 1) := by decide +kernel
theorem dL_law_836 : decode cL_law 836 = .ok (.invokevirtual 125, 3) := by decide +kernel
theorem dL_law_839 : decode cL_law 839 = .ok (.if_icmp .eq 88, 3) := by decide +kernel
theorem dL_law_842 : decode cL_law 842 = .ok (.iconst 0, 1) := by decide +kernel
theorem dL_law_843 : decode cL_law 843 = .ok (.ireturn, 1) := by decide +kernel
theorem dL_law_844 : decode cL_law 844 = .ok (.aload_n 1, 1) := by decide +kernel
theorem dL_law_845 : decode cL_law 845 = .ok (.aload_n 0, 1) := by decide +kernel
theorem dL_law_846 : decode cL_law 846 = .ok (.iload_n 3, 1) := by decide +kernel
theorem dL_law_847 : decode cL_law 847 = .ok (.iconst 1, 1) := by decide +kernel
theorem dL_law_848 : decode cL_law 848 = .ok (.iadd, 1) := by decide +kernel
theorem dL_law_849 : decode cL_law 849 = .ok (.iaload, 1) := by decide +kernel
theorem dL_law_850 : decode cL_law 850 = .ok (.invokevirtual 126, 3) := by decide +kernel
theorem dL_law_853 : decode cL_law 853 = .ok (.aload_n 2, 1) := by decide +kernel
theorem dL_law_854 : decode cL_law 854 = .ok (.aload_n 0, 1) := by decide +kernel
theorem dL_law_855 : decode cL_law 855 = .ok (.iload_n 3, 1) := by decide +kernel
theorem dL_law_856 : decode cL_law 856 = .ok (.iconst 1, 1) := by decide +kernel
theorem dL_law_857 : decode cL_law 857 = .ok (.iadd, 1) := by decide +kernel
theorem dL_law_858 : decode cL_law 858 = .ok (.iaload, 1) := by decide +kernel
theorem dL_law_859 : decode cL_law 859 = .ok (.invokevirtual 129, 3) := by decide +kernel
theorem dL_law_862 : decode cL_law 862 = .ok (.if_icmp .eq 65, 3) := by decide +kernel
theorem dL_law_865 : decode cL_law 865 = .ok (.iconst 0, 1) := by decide +kernel
theorem dL_law_866 : decode cL_law 866 = .ok (.ireturn, 1) := by decide +kernel
theorem dL_law_867 : decode cL_law 867 = .ok (.aload_n 1, 1) := by decide +kernel
theorem dL_law_868 : decode cL_law 868 = .ok (.aload_n 0, 1) := by decide +kernel
theorem dL_law_869 : decode cL_law 869 = .ok (.iload_n 3, 1) := by decide +kernel
theorem dL_law_870 : decode cL_law 870 = .ok (.iconst 1, 1) := by decide +kernel
theorem dL_law_871 : decode cL_law 871 = .ok (.iadd, 1) := by decide +kernel
theorem dL_law_872 : decode cL_law 872 = .ok (.iaload, 1) := by decide +kernel
theorem dL_law_873 : decode cL_law 873 = .ok (.invokevirtual 130, 3) := by decide +kernel
theorem dL_law_876 : decode cL_law 876 = .ok (.aload_n 2, 1) := by decide +kernel
theorem dL_law_877 : decode cL_law 877 = .ok (.aload_n 0, 1) := by decide +kernel
theorem dL_law_878 : decode cL_law 878 = .ok (.iload_n 3, 1) := by decide +kernel
theorem dL_law_879 : decode cL_law 879 = .ok (.iconst 1, 1) := by decide +kernel
theorem dL_law_880 : decode cL_law 880 = .ok (.iadd, 1) := by decide +kernel
theorem dL_law_881 : decode cL_law 881 = .ok (.iaload, 1) := by decide +kernel
theorem dL_law_882 : decode cL_law 882 = .ok (.invokevirtual 133, 3) := by decide +kernel
theorem dL_law_885 : decode cL_law 885 = .ok (.if_icmp .eq 42, 3) := by decide +kernel
theorem dL_law_888 : decode cL_law 888 = .ok (.iconst 0, 1) := by decide +kernel
theorem dL_law_889 : decode cL_law 889 = .ok (.ireturn, 1) := by decide +kernel
theorem dL_law_890 : decode cL_law 890 = .ok (.aload_n 1, 1) := by decide +kernel
theorem dL_law_891 : decode cL_law 891 = .ok (.aload_n 0, 1) := by decide +kernel
theorem dL_law_892 : decode cL_law 892 = .ok (.iload_n 3, 1) := by decide +kernel
theorem dL_law_893 : decode cL_law 893 = .ok (.iconst 1, 1) := by decide +kernel
theorem dL_law_894 : decode cL_law 894 = .ok (.iadd, 1) := by decide +kernel
theorem dL_law_895 : decode cL_law 895 = .ok (.iaload, 1) := by decide +kernel
theorem dL_law_896 : decode cL_law 896 = .ok (.invokevirtual 134, 3) := by decide +kernel
theorem dL_law_899 : decode cL_law 899 = .ok (.aload_n 2, 1) := by decide +kernel
theorem dL_law_900 : decode cL_law 900 = .ok (.aload_n 0, 1) := by decide +kernel
theorem dL_law_901 : decode cL_law 901 = .ok (.iload_n 3, 1) := by decide +kernel
theorem dL_law_902 : decode cL_law 902 = .ok (.iconst 1, 1) := by decide +kernel
theorem dL_law_903 : decode cL_law 903 = .ok (.iadd, 1) := by decide +kernel
theorem dL_law_904 : decode cL_law 904 = .ok (.iaload, 1) := by decide +kernel
theorem dL_law_905 : decode cL_law 905 = .ok (.invokevirtual 137, 3) := by decide +kernel
theorem dL_law_908 : decode cL_law 908 = .ok (.if_icmp .eq 19, 3) := by decide +kernel
theorem dL_law_911 : decode cL_law 911 = .ok (.iconst 0, 1) := by decide +kernel
theorem dL_law_912 : decode cL_law 912 = .ok (.ireturn, 1) := by decide +kernel
theorem dL_law_913 : decode cL_law 913 = .ok (.aload_n 1, 1) := by decide +kernel
theorem dL_law_914 : decode cL_law 914 = .ok (.invokevirtual 138, 3) := by decide +kernel
theorem dL_law_917 : decode cL_law 917 = .ok (.aload_n 2, 1) := by decide +kernel
theorem dL_law_918 : decode cL_law 918 = .ok (.invokevirtual 142, 3) := by decide +kernel
theorem dL_law_921 : decode cL_law 921 = .ok (.lcmp, 1) := by decide +kernel
theorem dL_law_922 : decode cL_law 922 = .ok (.ifCond .eq 5, 3) := by decide +kernel
theorem dL_law_925 : decode cL_law 925 = .ok (.iconst 0, 1) := by decide +kernel
theorem dL_law_926 : decode cL_law 926 = .ok (.ireturn, 1) := by decide +kernel
theorem dL_law_927 : decode cL_law 927 = .ok (.iinc 3 4, 3) := by decide +kernel
theorem dL_law_930 : decode cL_law 930 = .ok (.goto (-912), 3) := by decide +kernel
theorem dL_law_933 : decode cL_law 933 = .ok (.iconst 1, 1) := by decide +kernel
theorem dL_law_934 : decode cL_law 934 = .ok (.ireturn, 1) := by decide +kernel
end
section
/-! ===== our memory, and the judgement PW: a method's frame over it ===== -/
abbrev GE : Type := (Nat → ClassId) × (Nat → Nat → Nat) × (Nat → ClassId) × (Nat → Nat) × Nat
abbrev g_D (G : GE) : va_G := (G.1, G.2.1)
abbrev g_A (G : GE) : Nat → ClassId := G.2.2.1
abbrev g_s (G : GE) : Nat → Nat := G.2.2.2.1
abbrev g_b (G : GE) : Nat := G.2.2.2.2
abbrev Mm : Type := (Nat → Nat → Int32) × (Nat → Nat → Int64) × (Nat → Nat → Option Nat) × (Nat → Nat × Nat) × Nat
def mi (M : Mm) : Nat → Nat → Int32 := M.1
def ml (M : Mm) : Nat → Nat → Int64 := M.2.1
def mr (M : Mm) : Nat → Nat → Option Nat := M.2.2.1
def mt (M : Mm) : Nat → Nat × Nat := M.2.2.2.1
def mn (M : Mm) : Nat := M.2.2.2.2
def wI (M : Mm) (a k : Nat) (v : Int32) : Mm := (va_up M.1 a (upd (M.1 a) k v), M.2)
def wL (M : Mm) (a k : Nat) (v : Int64) : Mm := (M.1, va_up M.2.1 a (vp_updL (M.2.1 a) k v), M.2.2)
def wR (M : Mm) (a k : Nat) (v : Option Nat) : Mm := (M.1, M.2.1, va_up M.2.2.1 a (va_up (M.2.2.1 a) k v), M.2.2.2)
def wA (M : Mm) (a : Nat) (f : Nat → Int32) : Mm := (va_up M.1 a f, M.2)
def wN (M : Mm) (t : Nat × Nat) : Mm := (va_up M.1 M.2.2.2.2 (fun _ => 0), va_up M.2.1 M.2.2.2.2 (fun _ => 0), va_up M.2.2.1 M.2.2.2.2 (fun _ => none), va_up M.2.2.2.1 M.2.2.2.2 t, M.2.2.2.2 + 1)
/-- the kinds of a class's fields: 0 int, 1 long, 2 a reference -/
def fks : Nat → List Nat := fun c => match c with
  | 3 => [2, 2, 2]
  | 4 => [2, 2, 2, 2, 0, 0, 0, 0]
  | 6 => [2, 2, 2, 0, 0, 0]
  | 9 => [2, 0, 0, 0, 0, 0, 0]
  | 10 => [2, 2, 2, 2, 2, 0, 0, 0]
  | 11 => [2, 2, 2, 2, 2, 2, 2, 2, 0, 0, 0, 0, 0]
  | 12 => [2, 0, 0, 0, 0, 0, 2, 2, 2, 2, 2, 2, 2, 2, 0, 0, 0, 0, 2, 2, 0, 2, 0, 2, 2, 2, 2, 2, 1, 1, 2, 2, 1]
  | _ => []
def fv (M : Mm) (a : Nat) (ks : List Nat) (k : Nat) : Value := match ks.getD k 2 with
  | 0 => .int (mi M a k)
  | 1 => .long (ml M a k)
  | _ => va_rf (mr M a k)
def avl (M : Mm) (a j : Nat) : Value := if (mt M a).1 < 15 then .int (mi M a j) else va_rf (mr M a j)
def cellOk (G : GE) (M : Mm) (a : Nat) (H : Heap) : Prop :=
  ((mt M a).1 < 13 → t_OB a (G.1 (mt M a).1) (fks (mt M a).1).length (G.2.1 (mt M a).1) H (fv M a (fks (mt M a).1))) ∧
  (¬ (mt M a).1 < 13 → H[a]? = some (arrV (g_A G (mt M a).1) (mt M a).2 (avl M a)))
def Sim (G : GE) (M : Mm) (H : Heap) : Prop := H.size = mn M ∧ g_b G ≤ mn M ∧ ∀ a : Nat, (mt M a).1 < 18 → g_b G ≤ a ∧ a < mn M ∧ cellOk G M a H
/-- the tables' words that may be handed on, and the nest's -/
def wsG : List Cond := lw_tbl.filter goodWord
def isNw : Cond → Bool
  | .fieldLinkNest _ _ _ _ _ _ => true
  | .methodLinkNest _ _ _ _ => true
  | .castable _ _ => true
  | _ => false
def wsN : List Cond := lw_tbl.filter isNw
theorem mgG {w : Cond} (i : Nat) (h : lw_tbl[i]? = some w) (hg : goodWord w = true) : w ∈ wsG := List.mem_filter.mpr ⟨List.mem_of_getElem? h, hg⟩
theorem mgN {w : Cond} (i : Nat) (h : lw_tbl[i]? = some w) (hg : isNw w = true) : w ∈ wsN := List.mem_filter.mpr ⟨List.mem_of_getElem? h, hg⟩
theorem wsG_good : ∀ w ∈ wsG, (w.onTables && w.keeps) = true ∨ ∃ ty, w = .arrayClass ty := fun w h => good_of_word (List.mem_filter.mp h).2
abbrev tysG (G : GE) : List (ClassId × FieldType) := [(g_A G 13, .int), (g_A G 14, .boolean), (g_A G 15, .object "SleepyHelm$Helm"), (g_A G 16, .object "SleepyHelm$Plain"), (g_A G 17, .object "SleepyHelm$Voyage")]
/-- the five String constants -/
def sBy : List (List Int32) := [[115, 104, 105, 112], [114, 111, 99, 107], [114, 101, 101, 102], [104, 97, 110, 100], [108, 101, 97, 110]]
abbrev sIx : List (Nat × String) := [(33, "ship"), (52, "rock"), (58, "reef"), (60, "hand"), (65, "lean")]
def EnvS (G : GE) (U : State) : Prop := (∃ adV : Nat → Nat, vk_S 5 [4, 4, 4, 4, 4] sBy (g_s G) adV (fun q => g_b G ≤ q) U U.heap) ∧ (∀ i : Nat, i < 5 → vk_R "SleepyHelm$Text" (sIx.getD i (0, "")).1 (sIx.getD i (0, "")).2 (g_s G i) U) ∧ va_Z "java/lang/String" "COMPACT_STRINGS" "Z" (.int 1) (fun q => g_b G ≤ q) U U.heap
def EnvK (G : GE) (U : State) : Prop := va_K (g_D G) vwCl (tysG G) U ∧ (∀ w ∈ wsN, va_Nw w U) ∧ va_AO "SleepyHelm$Helm" U ∧ va_AO "SleepyHelm$Plain" U ∧ va_AO "SleepyHelm$Voyage" U
def EnvOk (G : GE) (U : State) : Prop := EnvK G U ∧ EnvS G U
abbrev MI : Type := MethodName × ByteArray × Nat × Option FieldType × Nat × Nat
def rmOf (d mc ms : Nat) : Room := { frames := d + 1, cells := mc, slots := ms, locals := 64 * (d + 1) }
def wsM (I : MI) : List Cond := Cond.code I.1 I.2.1 I.2.2.1 I.2.2.2.1 :: wsG
def QQ (G : GE) (Post : Option Value → Mm → Prop) : Array Value → State → Outcome → State → Prop := fun _ st oc t => (∃ (v : Option Value) (M' : Mm), oc = .returned v ∧ Post v M' ∧ Sim G M' t.heap) ∧ va_F (fun q => g_b G ≤ q) st t
/-- a method's contract at these arguments and this memory -/
def Mt (G : GE) (I : MI) (d : Nat) (args : List Value) (M : Mm) (Post : Option Value → Mm → Prop) : Prop :=
  ∀ l : Launch, Met l I.1 (wsM I) (rmOf d I.2.2.2.2.1 I.2.2.2.2.2) (va_Pc args (fun U => EnvOk G U ∧ Sim G M U.heap)) (QQ G Post) I.2.2.2.2.1 I.2.2.2.2.2 (fun q => g_b G ≤ q)
def CX (G : GE) (I : MI) (p : Program) (s : State) (m : MethodId) (args : Array Value) (meth : Method) (c : Code) : Prop :=
  p.tables.exec = Jvm.exec ∧ c.code = I.2.1 ∧ c.maxLocals = I.2.2.1 ∧ meth.sig.returnType = I.2.2.2.1 ∧ meth.locks = false ∧ s.vm.findClass I.1.cls = some m.cls ∧ (∀ w ∈ wsG, w.before args s = true) ∧ meth.name = I.1.name ∧ EnvOk G s
def lok (la : Array Slot) (nL : Nat) (ls : List Value) : Prop := la.size = nL ∧ lv_wf la ∧ ∀ (i : Nat) (v : Value), ls[i]? = some v → v ≠ .null → la[i]? = some (.val v)
def PW (G : GE) (I : MI) (d : Nat) (Post : Option Value → Mm → Prop) (pc : Nat) (ls st : List Value) (M : Mm) (nc ns : Nat) : Prop :=
  ∀ (p : Program) (l : Launch) (e : Env) (s : State) (m : MethodId) (args : Array Value) (below : List Frame) (meth : Method) (c : Code), CX G I p s m args meth c → ∀ (H : Heap) (locs : List Loc) (la : Array Slot), Sim G M H → va_S (fun q => g_b G ≤ q) s.heap H locs → lok la I.2.2.1 ls →
    W p l e (rmOf d I.2.2.2.2.1 I.2.2.2.2.2) s m args below meth c H locs nc ns (MQ below (QQ G Post) args s I.2.2.2.2.1 I.2.2.2.2.2 (fun q => g_b G ≤ q)) (F0 m pc la st)
/-! ===== locals ===== -/
def lvl (ls : List Value) : List (Nat × Value) := (ls.zipIdx.filter (fun q => decide (q.1 ≠ .null))).map (fun q => (q.2, q.1))
theorem lvl_mem {ls : List Value} {q : Nat × Value} : q ∈ lvl ls ↔ ls[q.1]? = some q.2 ∧ q.2 ≠ .null := by
  obtain ⟨i, v⟩ := q
  simp only [lvl, List.mem_map, List.mem_filter, List.mem_zipIdx_iff_getElem?, decide_eq_true_eq, Prod.exists, Prod.mk.injEq]
  constructor
  · rintro ⟨a, b, ⟨h1, h2⟩, rfl, rfl⟩
    exact ⟨h1, h2⟩
  · rintro ⟨h1, h2⟩
    exact ⟨v, i, ⟨h1, h2⟩, rfl, rfl⟩
theorem lok_has {la : Array Slot} {nL : Nat} {ls : List Value} (h : lok la nL ls) : lv_has la nL (lvl ls) := ⟨h.1, h.2.1, fun q hq => h.2.2 q.1 q.2 (lvl_mem.mp hq).1 (lvl_mem.mp hq).2⟩
def okS (ls : List Value) (i : Nat) : Bool := match i with
  | 0 => true
  | j + 1 => match ls[j]? with
    | some w => w.category != 2
    | none => true
theorem okS_ne {ls : List Value} {i j : Nat} {w : Value} (h : okS ls i = true) (hj : j + 1 = i) (hw : ls[j]? = some w) : w.category ≠ 2 := by
  subst hj
  simp [okS, hw] at h
  exact h
theorem lok_set {la : Array Slot} {nL : Nat} {ls : List Value} {i : Nat} {v : Value} (h : lv_has la nL ((i, v) :: (lvl ls).filter (fun q => !(q.1 == i) && !(q.1 + 1 == i && q.2.category == 2)))) (hk : okS ls i = true) : lok la nL (ls.set i v) := by
  refine ⟨h.1, h.2.1, fun j w hw hn => ?_⟩
  by_cases hj : i = j
  · subst hj
    have hl : i < ls.length := by
      have := (List.getElem?_eq_some_iff.mp hw).1
      simpa using this
    rw [List.getElem?_set_self hl] at hw
    cases hw
    exact h.2.2 (i, v) List.mem_cons_self
  · rw [List.getElem?_set_ne hj] at hw
    refine h.2.2 (j, w) (List.mem_cons_of_mem _ (List.mem_filter.mpr ⟨lvl_mem.mpr ⟨hw, hn⟩, ?_⟩))
    have h2 : ¬ (j + 1 = i ∧ w.category = 2) := fun q => okS_ne hk q.1 hw q.2
    simp only [Bool.and_eq_true, Bool.not_eq_true', beq_eq_false_iff_ne, Bool.and_eq_false_iff, ne_eq]
    exact ⟨fun q => hj q.symm, by
      by_cases q : j + 1 = i
      · exact Or.inr (fun q2 => h2 ⟨q, q2⟩)
      · exact Or.inl q⟩
theorem lok_set2 {la : Array Slot} {nL : Nat} {ls : List Value} {i : Nat} {v : Value} (h : lv_has la nL ((i, v) :: (lvl ls).filter (fun q => !(q.1 == i) && (!(q.1 == i + 1) && !(q.1 + 1 == i && q.2.category == 2))))) (hk : okS ls i = true) : lok la nL ((ls.set i v).set (i + 1) .null) := by
  refine ⟨h.1, h.2.1, fun j w hw hn => ?_⟩
  by_cases h1 : i + 1 = j
  · subst h1
    have hl : i + 1 < (ls.set i v).length := by
      have := (List.getElem?_eq_some_iff.mp hw).1
      simpa using this
    rw [List.getElem?_set_self hl] at hw
    cases hw
    exact absurd rfl hn
  rw [List.getElem?_set_ne h1] at hw
  by_cases hj : i = j
  · subst hj
    have hl : i < ls.length := by
      have := (List.getElem?_eq_some_iff.mp hw).1
      simpa using this
    rw [List.getElem?_set_self hl] at hw
    cases hw
    exact h.2.2 (i, v) List.mem_cons_self
  · rw [List.getElem?_set_ne hj] at hw
    refine h.2.2 (j, w) (List.mem_cons_of_mem _ (List.mem_filter.mpr ⟨lvl_mem.mpr ⟨hw, hn⟩, ?_⟩))
    have h2 : ¬ (j + 1 = i ∧ w.category = 2) := fun q => okS_ne hk q.1 hw q.2
    simp only [Bool.and_eq_true, Bool.not_eq_true', beq_eq_false_iff_ne, Bool.and_eq_false_iff, ne_eq]
    exact ⟨fun q => hj q.symm, fun q => h1 q.symm, by
      by_cases q : j + 1 = i
      · exact Or.inr (fun q2 => h2 ⟨q, q2⟩)
      · exact Or.inl q⟩
section PWR
variable {G : GE} {I : MI} {d : Nat} {Post : Option Value → Mm → Prop} {pc : Nat} {ls st : List Value} {M : Mm} {nc ns : Nat}
theorem PW_eqM {M' : Mm} (h : M' = M) (k : PW G I d Post pc ls st M nc ns) : PW G I d Post pc ls st M' nc ns := h ▸ k
theorem PW_eqS {st' : List Value} (h : st' = st) (k : PW G I d Post pc ls st M nc ns) : PW G I d Post pc ls st' M nc ns := h ▸ k
theorem PW_eqL {ls' : List Value} (h : ls' = ls) (k : PW G I d Post pc ls st M nc ns) : PW G I d Post pc ls' st M nc ns := h ▸ k
theorem PW_eqi {x y : Int32} (h : x = y) (k : PW G I d Post pc ls (.int y :: st) M nc ns) : PW G I d Post pc ls (.int x :: st) M nc ns := h ▸ k
/-- some locals are forgotten -/
theorem PW_forget {ls' : List Value} (h : ∀ (i : Nat) (v : Value), ls'[i]? = some v → v ≠ .null → ls[i]? = some v) (k : PW G I d Post pc ls' st M nc ns) : PW G I d Post pc ls st M nc ns :=
  fun p l e s m args below meth c C H locs la hS hV hl => k p l e s m args below meth c C H locs la hS hV ⟨hl.1, hl.2.1, fun i v h1 h2 => hl.2.2 i v (h i v h1 h2) h2⟩
theorem PW_mono {Post' : Option Value → Mm → Prop} (h : ∀ v M', Post' v M' → Post v M') (k : PW G I d Post' pc ls st M nc ns) : PW G I d Post pc ls st M nc ns := by
  intro p l e s m args below meth c C H locs la hS hV hl T hT X
  obtain ⟨t, a, o, b1, b2, ⟨⟨v, M', h1, h2, h3⟩, h4⟩, b4⟩ := k p l e s m args below meth c C H locs la hS hV hl T hT X
  exact ⟨t, a, o, b1, b2, ⟨⟨v, M', h1, h _ _ h2, h3⟩, h4⟩, b4⟩
theorem PW_iadd {x y : Int32} (hd : decode I.2.1 pc = .ok (.iadd, 1)) (k : PW G I d Post (pc + 1) ls (.int (x + y) :: st) M nc ns) : PW G I d Post pc ls (.int y :: .int x :: st) M nc ns :=
  fun p l e s m args below meth c C H locs la hS hV hl => lv_iadd C.1 C.2.1 hd (k p l e s m args below meth c C H locs la hS hV hl)
theorem PW_isub {x y : Int32} (hd : decode I.2.1 pc = .ok (.isub, 1)) (k : PW G I d Post (pc + 1) ls (.int (x - y) :: st) M nc ns) : PW G I d Post pc ls (.int y :: .int x :: st) M nc ns :=
  fun p l e s m args below meth c C H locs la hS hV hl => lv_isub C.1 C.2.1 hd (k p l e s m args below meth c C H locs la hS hV hl)
theorem PW_imul {x y : Int32} (hd : decode I.2.1 pc = .ok (.imul, 1)) (k : PW G I d Post (pc + 1) ls (.int (x * y) :: st) M nc ns) : PW G I d Post pc ls (.int y :: .int x :: st) M nc ns :=
  fun p l e s m args below meth c C H locs la hS hV hl => lv_imul C.1 C.2.1 hd (k p l e s m args below meth c C H locs la hS hV hl)
theorem PW_iand {x y : Int32} (hd : decode I.2.1 pc = .ok (.iand, 1)) (k : PW G I d Post (pc + 1) ls (.int (x &&& y) :: st) M nc ns) : PW G I d Post pc ls (.int y :: .int x :: st) M nc ns :=
  fun p l e s m args below meth c C H locs la hS hV hl => lv_iand C.1 C.2.1 hd (k p l e s m args below meth c C H locs la hS hV hl)
theorem PW_ior {x y : Int32} (hd : decode I.2.1 pc = .ok (.ior, 1)) (k : PW G I d Post (pc + 1) ls (.int (x ||| y) :: st) M nc ns) : PW G I d Post pc ls (.int y :: .int x :: st) M nc ns :=
  fun p l e s m args below meth c C H locs la hS hV hl => lv_ior C.1 C.2.1 hd (k p l e s m args below meth c C H locs la hS hV hl)
theorem PW_ixor {x y : Int32} (hd : decode I.2.1 pc = .ok (.ixor, 1)) (k : PW G I d Post (pc + 1) ls (.int (x ^^^ y) :: st) M nc ns) : PW G I d Post pc ls (.int y :: .int x :: st) M nc ns :=
  fun p l e s m args below meth c C H locs la hS hV hl => lv_ixor C.1 C.2.1 hd (k p l e s m args below meth c C H locs la hS hV hl)
theorem PW_ishl {x y : Int32} (hd : decode I.2.1 pc = .ok (.ishl, 1)) (k : PW G I d Post (pc + 1) ls (.int (x <<< (y &&& 31)) :: st) M nc ns) : PW G I d Post pc ls (.int y :: .int x :: st) M nc ns :=
  fun p l e s m args below meth c C H locs la hS hV hl => lv_ishl C.1 C.2.1 hd (k p l e s m args below meth c C H locs la hS hV hl)
theorem PW_ishr {x y : Int32} (hd : decode I.2.1 pc = .ok (.ishr, 1)) (k : PW G I d Post (pc + 1) ls (.int (x >>> (y &&& 31)) :: st) M nc ns) : PW G I d Post pc ls (.int y :: .int x :: st) M nc ns :=
  fun p l e s m args below meth c C H locs la hS hV hl => lv_ishr C.1 C.2.1 hd (k p l e s m args below meth c C H locs la hS hV hl)
theorem PW_ladd {x y : Int64} (hd : decode I.2.1 pc = .ok (.ladd, 1)) (k : PW G I d Post (pc + 1) ls (.long (x + y) :: st) M nc ns) : PW G I d Post pc ls (.long y :: .long x :: st) M nc ns :=
  fun p l e s m args below meth c C H locs la hS hV hl => lv_ladd C.1 C.2.1 hd (k p l e s m args below meth c C H locs la hS hV hl)
theorem PW_lmul {x y : Int64} (hd : decode I.2.1 pc = .ok (.lmul, 1)) (k : PW G I d Post (pc + 1) ls (.long (x * y) :: st) M nc ns) : PW G I d Post pc ls (.long y :: .long x :: st) M nc ns :=
  fun p l e s m args below meth c C H locs la hS hV hl => lv_lmul C.1 C.2.1 hd (k p l e s m args below meth c C H locs la hS hV hl)
theorem PW_idiv {x y : Int32} (hd : decode I.2.1 pc = .ok (.idiv, 1)) (hn : ¬ y = 0) (k : PW G I d Post (pc + 1) ls (.int (x / y) :: st) M nc ns) : PW G I d Post pc ls (.int y :: .int x :: st) M nc ns :=
  fun p l e s m args below meth c C H locs la hS hV hl => lv_idiv C.1 C.2.1 hd hn (k p l e s m args below meth c C H locs la hS hV hl)
theorem PW_irem {x y : Int32} (hd : decode I.2.1 pc = .ok (.irem, 1)) (hn : ¬ y = 0) (k : PW G I d Post (pc + 1) ls (.int (x - x / y * y) :: st) M nc ns) : PW G I d Post pc ls (.int y :: .int x :: st) M nc ns :=
  fun p l e s m args below meth c C H locs la hS hV hl => lv_irem C.1 C.2.1 hd hn (k p l e s m args below meth c C H locs la hS hV hl)
theorem PW_ldiv {x y : Int64} (hd : decode I.2.1 pc = .ok (.ldiv, 1)) (hn : ¬ y = 0) (k : PW G I d Post (pc + 1) ls (.long (x / y) :: st) M nc ns) : PW G I d Post pc ls (.long y :: .long x :: st) M nc ns :=
  fun p l e s m args below meth c C H locs la hS hV hl => lv_ldiv C.1 C.2.1 hd hn (k p l e s m args below meth c C H locs la hS hV hl)
theorem PW_lrem {x y : Int64} (hd : decode I.2.1 pc = .ok (.lrem, 1)) (hn : ¬ y = 0) (k : PW G I d Post (pc + 1) ls (.long (x - x / y * y) :: st) M nc ns) : PW G I d Post pc ls (.long y :: .long x :: st) M nc ns :=
  fun p l e s m args below meth c C H locs la hS hV hl => lv_lrem C.1 C.2.1 hd hn (k p l e s m args below meth c C H locs la hS hV hl)
theorem PW_ineg {x : Int32} (hd : decode I.2.1 pc = .ok (.ineg, 1)) (k : PW G I d Post (pc + 1) ls (.int (-x) :: st) M nc ns) : PW G I d Post pc ls (.int x :: st) M nc ns :=
  fun p l e s m args below meth c C H locs la hS hV hl => lv_ineg C.1 C.2.1 hd (k p l e s m args below meth c C H locs la hS hV hl)
theorem PW_iushr {x y v : Int32} (hd : decode I.2.1 pc = .ok (.iushr, 1)) (hv : (x.toUInt32 >>> (y.toUInt32 &&& Int32.toUInt32 31)).toInt32 = v) (k : PW G I d Post (pc + 1) ls (.int v :: st) M nc ns) : PW G I d Post pc ls (.int y :: .int x :: st) M nc ns :=
  fun p l e s m args below meth c C H locs la hS hV hl => lv_iushr C.1 C.2.1 hd hv (k p l e s m args below meth c C H locs la hS hV hl)
theorem PW_i2l {x : Int32} (hd : decode I.2.1 pc = .ok (.i2l, 1)) (k : PW G I d Post (pc + 1) ls (.long x.toInt64 :: st) M nc ns) : PW G I d Post pc ls (.int x :: st) M nc ns :=
  fun p l e s m args below meth c C H locs la hS hV hl => lv_i2l C.1 C.2.1 hd rfl (k p l e s m args below meth c C H locs la hS hV hl)
theorem PW_l2i {x : Int64} (hd : decode I.2.1 pc = .ok (.l2i, 1)) (k : PW G I d Post (pc + 1) ls (.int x.toInt32 :: st) M nc ns) : PW G I d Post pc ls (.long x :: st) M nc ns :=
  fun p l e s m args below meth c C H locs la hS hV hl => lv_l2i C.1 C.2.1 hd rfl (k p l e s m args below meth c C H locs la hS hV hl)
theorem PW_lcmp {x y : Int64} (hd : decode I.2.1 pc = .ok (.lcmp, 1)) (k : PW G I d Post (pc + 1) ls (.int (lg_cmp x y) :: st) M nc ns) : PW G I d Post pc ls (.long y :: .long x :: st) M nc ns :=
  fun p l e s m args below meth c C H locs la hS hV hl => W.lcmp C.1 C.2.1 hd (k p l e s m args below meth c C H locs la hS hV hl)
theorem PW_dup {v : Value} (hd : decode I.2.1 pc = .ok (.dup, 1)) (hc : v.category = 1) (k : PW G I d Post (pc + 1) ls (v :: v :: st) M nc ns) : PW G I d Post pc ls (v :: st) M nc ns :=
  fun p l e s m args below meth c C H locs la hS hV hl => lv_dup C.1 C.2.1 hd hc (k p l e s m args below meth c C H locs la hS hV hl)
theorem PW_dup2 {v u : Value} (hd : decode I.2.1 pc = .ok (.dup2, 1)) (hc : v.category = 1) (hc2 : u.category = 1) (k : PW G I d Post (pc + 1) ls (v :: u :: v :: u :: st) M nc ns) : PW G I d Post pc ls (v :: u :: st) M nc ns :=
  fun p l e s m args below meth c C H locs la hS hV hl => lv_dup2_11 C.1 C.2.1 hd hc hc2 (k p l e s m args below meth c C H locs la hS hV hl)
theorem PW_pop {v : Value} (hd : decode I.2.1 pc = .ok (.pop, 1)) (hc : v.category = 1) (k : PW G I d Post (pc + 1) ls (st) M nc ns) : PW G I d Post pc ls (v :: st) M nc ns :=
  fun p l e s m args below meth c C H locs la hS hV hl => lv_pop C.1 C.2.1 hd hc (k p l e s m args below meth c C H locs la hS hV hl)
theorem PW_iconst {n : Int} {v : Int32} (hd : decode I.2.1 pc = .ok (.iconst n, 1)) (hv : Int32.ofInt n = v) (k : PW G I d Post (pc + 1) ls (.int v :: st) M nc ns) : PW G I d Post pc ls (st) M nc ns :=
  fun p l e s m args below meth c C H locs la hS hV hl => lv_iconst C.1 C.2.1 hd hv (k p l e s m args below meth c C H locs la hS hV hl)
theorem PW_lconst {n : Fin 2} {v : Int64} (hd : decode I.2.1 pc = .ok (.lconst n, 1)) (hv : Int64.ofNat (n : Nat) = v) (k : PW G I d Post (pc + 1) ls (.long v :: st) M nc ns) : PW G I d Post pc ls (st) M nc ns :=
  fun p l e s m args below meth c C H locs la hS hV hl => lv_lconst C.1 C.2.1 hd hv (k p l e s m args below meth c C H locs la hS hV hl)
theorem PW_bipush {n : Int} {v : Int32} (hd : decode I.2.1 pc = .ok (.bipush n, 2)) (hv : (Int8.ofInt n).toInt32 = v) (k : PW G I d Post (pc + 2) ls (.int v :: st) M nc ns) : PW G I d Post pc ls (st) M nc ns :=
  fun p l e s m args below meth c C H locs la hS hV hl => lv_bipush C.1 C.2.1 hd hv (k p l e s m args below meth c C H locs la hS hV hl)
theorem PW_sipush {n : Int} {v : Int32} (hd : decode I.2.1 pc = .ok (.sipush n, 3)) (hv : (Int16.ofInt n).toInt32 = v) (k : PW G I d Post (pc + 3) ls (.int v :: st) M nc ns) : PW G I d Post pc ls (st) M nc ns :=
  fun p l e s m args below meth c C H locs la hS hV hl => lv_sipush C.1 C.2.1 hd hv (k p l e s m args below meth c C H locs la hS hV hl)
theorem PW_iload {i : Nat} {x : Int32} (hd : decode I.2.1 pc = .ok (.iload i, 2)) (hx : ls[i]? = some (.int x)) (k : PW G I d Post (pc + 2) ls (.int x :: st) M nc ns) : PW G I d Post pc ls (st) M nc ns :=
  fun p l e s m args below meth c C H locs la hS hV hl => lv_iload C.1 C.2.1 hd (hl.2.2 i _ hx (fun h => by cases h)) (k p l e s m args below meth c C H locs la hS hV hl)
theorem PW_iload_n {q : Fin 4} {i : Nat} {x : Int32} (hd : decode I.2.1 pc = .ok (.iload_n q, 1)) (hq : (q : Nat) = i) (hx : ls[i]? = some (.int x)) (k : PW G I d Post (pc + 1) ls (.int x :: st) M nc ns) : PW G I d Post pc ls (st) M nc ns :=
  fun p l e s m args below meth c C H locs la hS hV hl => lv_iload_n C.1 C.2.1 hd hq (hl.2.2 i _ hx (fun h => by cases h)) (k p l e s m args below meth c C H locs la hS hV hl)
theorem PW_lload {i : Nat} {x : Int64} (hd : decode I.2.1 pc = .ok (.lload i, 2)) (hx : ls[i]? = some (.long x)) (k : PW G I d Post (pc + 2) ls (.long x :: st) M nc ns) : PW G I d Post pc ls (st) M nc ns :=
  fun p l e s m args below meth c C H locs la hS hV hl => lv_lload C.1 C.2.1 hd (hl.2.2 i _ hx (fun h => by cases h)) (k p l e s m args below meth c C H locs la hS hV hl)
theorem PW_lload_n {q : Fin 4} {i : Nat} {x : Int64} (hd : decode I.2.1 pc = .ok (.lload_n q, 1)) (hq : (q : Nat) = i) (hx : ls[i]? = some (.long x)) (k : PW G I d Post (pc + 1) ls (.long x :: st) M nc ns) : PW G I d Post pc ls (st) M nc ns :=
  fun p l e s m args below meth c C H locs la hS hV hl => lv_lload_n C.1 C.2.1 hd hq (hl.2.2 i _ hx (fun h => by cases h)) (k p l e s m args below meth c C H locs la hS hV hl)
theorem PW_aload {i : Nat} {x : Nat} (hd : decode I.2.1 pc = .ok (.aload i, 2)) (hx : ls[i]? = some (.ref x)) (k : PW G I d Post (pc + 2) ls (.ref x :: st) M nc ns) : PW G I d Post pc ls (st) M nc ns :=
  fun p l e s m args below meth c C H locs la hS hV hl => lv_aload C.1 C.2.1 hd (hl.2.2 i _ hx (fun h => by cases h)) (k p l e s m args below meth c C H locs la hS hV hl)
theorem PW_aload_n {q : Fin 4} {i : Nat} {x : Nat} (hd : decode I.2.1 pc = .ok (.aload_n q, 1)) (hq : (q : Nat) = i) (hx : ls[i]? = some (.ref x)) (k : PW G I d Post (pc + 1) ls (.ref x :: st) M nc ns) : PW G I d Post pc ls (st) M nc ns :=
  fun p l e s m args below meth c C H locs la hS hV hl => lv_aload_n C.1 C.2.1 hd hq (hl.2.2 i _ hx (fun h => by cases h)) (k p l e s m args below meth c C H locs la hS hV hl)
theorem PW_istore {i : Nat} {x : Int32} (hd : decode I.2.1 pc = .ok (.istore i, 2)) (hi : i < I.2.2.1) (hk : okS ls i = true) (k : PW G I d Post (pc + 2) (ls.set i (.int x)) st M nc ns) : PW G I d Post pc ls (.int x :: st) M nc ns :=
  fun p l e s m args below meth c C H locs la hS hV hl => lv_istore C.1 C.2.1 hd (lok_has hl) hi rfl (fun la' h' => k p l e s m args below meth c C H locs la' hS hV (lok_set h' hk))
theorem PW_istore_n {q : Fin 4} {i : Nat} {x : Int32} (hd : decode I.2.1 pc = .ok (.istore_n q, 1)) (hq : (q : Nat) = i) (hi : i < I.2.2.1) (hk : okS ls i = true) (k : PW G I d Post (pc + 1) (ls.set i (.int x)) st M nc ns) : PW G I d Post pc ls (.int x :: st) M nc ns :=
  fun p l e s m args below meth c C H locs la hS hV hl => lv_istore_n C.1 C.2.1 hd hq (lok_has hl) hi rfl (fun la' h' => k p l e s m args below meth c C H locs la' hS hV (lok_set h' hk))
theorem PW_astore {i : Nat} {x : Nat} (hd : decode I.2.1 pc = .ok (.astore i, 2)) (hi : i < I.2.2.1) (hk : okS ls i = true) (k : PW G I d Post (pc + 2) (ls.set i (.ref x)) st M nc ns) : PW G I d Post pc ls (.ref x :: st) M nc ns :=
  fun p l e s m args below meth c C H locs la hS hV hl => lv_astore C.1 C.2.1 hd (lok_has hl) hi rfl (fun la' h' => k p l e s m args below meth c C H locs la' hS hV (lok_set h' hk))
theorem PW_astore_n {q : Fin 4} {i : Nat} {x : Nat} (hd : decode I.2.1 pc = .ok (.astore_n q, 1)) (hq : (q : Nat) = i) (hi : i < I.2.2.1) (hk : okS ls i = true) (k : PW G I d Post (pc + 1) (ls.set i (.ref x)) st M nc ns) : PW G I d Post pc ls (.ref x :: st) M nc ns :=
  fun p l e s m args below meth c C H locs la hS hV hl => lv_astore_n C.1 C.2.1 hd hq (lok_has hl) hi rfl (fun la' h' => k p l e s m args below meth c C H locs la' hS hV (lok_set h' hk))
theorem PW_lstore {i : Nat} {x : Int64} (hd : decode I.2.1 pc = .ok (.lstore i, 2)) (hi : i + 1 < I.2.2.1) (hk : okS ls i = true) (k : PW G I d Post (pc + 2) ((ls.set i (.long x)).set (i + 1) .null) st M nc ns) : PW G I d Post pc ls (.long x :: st) M nc ns :=
  fun p l e s m args below meth c C H locs la hS hV hl => lv_lstore C.1 C.2.1 hd (lok_has hl) hi rfl (fun la' h' => k p l e s m args below meth c C H locs la' hS hV (lok_set2 h' hk))
theorem PW_lstore_n {q : Fin 4} {i : Nat} {x : Int64} (hd : decode I.2.1 pc = .ok (.lstore_n q, 1)) (hq : (q : Nat) = i) (hi : i + 1 < I.2.2.1) (hk : okS ls i = true) (k : PW G I d Post (pc + 1) ((ls.set i (.long x)).set (i + 1) .null) st M nc ns) : PW G I d Post pc ls (.long x :: st) M nc ns :=
  fun p l e s m args below meth c C H locs la hS hV hl => lv_lstore_n C.1 C.2.1 hd hq (lok_has hl) hi rfl (fun la' h' => k p l e s m args below meth c C H locs la' hS hV (lok_set2 h' hk))
theorem PW_iinc {i : Nat} {n : Int} {x : Int32} (hd : decode I.2.1 pc = .ok (.iinc i n, 3)) (hx : ls[i]? = some (.int x)) (hi : i < I.2.2.1) (hk : okS ls i = true) (k : PW G I d Post (pc + 3) (ls.set i (.int (x + Int32.ofInt n))) st M nc ns) : PW G I d Post pc ls st M nc ns := by
  intro p l e s m args below meth c C H locs la hS hV hl
  obtain ⟨j, hj⟩ := List.getElem?_of_mem (lvl_mem.mpr ⟨hx, fun h => by cases h⟩ : (i, Value.int x) ∈ lvl ls)
  exact lv_iinc C.1 C.2.1 hd (lok_has hl) hj rfl hi rfl (fun la' h' => k p l e s m args below meth c C H locs la' hS hV (lok_set h' hk))
theorem PW_if_eq {x : Int32} {off : Int} (tgt : Nat) (hd : decode I.2.1 pc = .ok (.ifCond .eq off, 3)) (ht : (pc : Int) + off = (tgt : Int)) (kt : x = 0 → PW G I d Post tgt ls st M nc ns) (kf : ¬ x = 0 → PW G I d Post (pc + 3) ls st M nc ns) : PW G I d Post pc ls (.int x :: st) M nc ns :=
  fun p l e s m args below meth c C H locs la hS hV hl => lv_if_eq C.1 C.2.1 hd ht (fun h => kt h p l e s m args below meth c C H locs la hS hV hl) (fun h => kf h p l e s m args below meth c C H locs la hS hV hl)
theorem PW_icmp_eq {x y : Int32} {off : Int} (tgt : Nat) (hd : decode I.2.1 pc = .ok (.if_icmp .eq off, 3)) (ht : (pc : Int) + off = (tgt : Int)) (kt : x = y → PW G I d Post tgt ls st M nc ns) (kf : ¬ x = y → PW G I d Post (pc + 3) ls st M nc ns) : PW G I d Post pc ls (.int y :: .int x :: st) M nc ns :=
  fun p l e s m args below meth c C H locs la hS hV hl => lv_icmp_eq C.1 C.2.1 hd ht (fun h => kt h p l e s m args below meth c C H locs la hS hV hl) (fun h => kf h p l e s m args below meth c C H locs la hS hV hl)
theorem PW_if_ne {x : Int32} {off : Int} (tgt : Nat) (hd : decode I.2.1 pc = .ok (.ifCond .ne off, 3)) (ht : (pc : Int) + off = (tgt : Int)) (kt : ¬ x = 0 → PW G I d Post tgt ls st M nc ns) (kf : x = 0 → PW G I d Post (pc + 3) ls st M nc ns) : PW G I d Post pc ls (.int x :: st) M nc ns :=
  fun p l e s m args below meth c C H locs la hS hV hl => lv_if_ne C.1 C.2.1 hd ht (fun h => kt h p l e s m args below meth c C H locs la hS hV hl) (fun h => kf h p l e s m args below meth c C H locs la hS hV hl)
theorem PW_icmp_ne {x y : Int32} {off : Int} (tgt : Nat) (hd : decode I.2.1 pc = .ok (.if_icmp .ne off, 3)) (ht : (pc : Int) + off = (tgt : Int)) (kt : ¬ x = y → PW G I d Post tgt ls st M nc ns) (kf : x = y → PW G I d Post (pc + 3) ls st M nc ns) : PW G I d Post pc ls (.int y :: .int x :: st) M nc ns :=
  fun p l e s m args below meth c C H locs la hS hV hl => lv_icmp_ne C.1 C.2.1 hd ht (fun h => kt h p l e s m args below meth c C H locs la hS hV hl) (fun h => kf h p l e s m args below meth c C H locs la hS hV hl)
theorem PW_if_lt {x : Int32} {off : Int} (tgt : Nat) (hd : decode I.2.1 pc = .ok (.ifCond .lt off, 3)) (ht : (pc : Int) + off = (tgt : Int)) (kt : x < 0 → PW G I d Post tgt ls st M nc ns) (kf : ¬ x < 0 → PW G I d Post (pc + 3) ls st M nc ns) : PW G I d Post pc ls (.int x :: st) M nc ns :=
  fun p l e s m args below meth c C H locs la hS hV hl => lv_if_lt C.1 C.2.1 hd ht (fun h => kt h p l e s m args below meth c C H locs la hS hV hl) (fun h => kf h p l e s m args below meth c C H locs la hS hV hl)
theorem PW_icmp_lt {x y : Int32} {off : Int} (tgt : Nat) (hd : decode I.2.1 pc = .ok (.if_icmp .lt off, 3)) (ht : (pc : Int) + off = (tgt : Int)) (kt : x < y → PW G I d Post tgt ls st M nc ns) (kf : ¬ x < y → PW G I d Post (pc + 3) ls st M nc ns) : PW G I d Post pc ls (.int y :: .int x :: st) M nc ns :=
  fun p l e s m args below meth c C H locs la hS hV hl => lv_icmp_lt C.1 C.2.1 hd ht (fun h => kt h p l e s m args below meth c C H locs la hS hV hl) (fun h => kf h p l e s m args below meth c C H locs la hS hV hl)
theorem PW_if_ge {x : Int32} {off : Int} (tgt : Nat) (hd : decode I.2.1 pc = .ok (.ifCond .ge off, 3)) (ht : (pc : Int) + off = (tgt : Int)) (kt : 0 ≤ x → PW G I d Post tgt ls st M nc ns) (kf : ¬ 0 ≤ x → PW G I d Post (pc + 3) ls st M nc ns) : PW G I d Post pc ls (.int x :: st) M nc ns :=
  fun p l e s m args below meth c C H locs la hS hV hl => lv_if_ge C.1 C.2.1 hd ht (fun h => kt h p l e s m args below meth c C H locs la hS hV hl) (fun h => kf h p l e s m args below meth c C H locs la hS hV hl)
theorem PW_icmp_ge {x y : Int32} {off : Int} (tgt : Nat) (hd : decode I.2.1 pc = .ok (.if_icmp .ge off, 3)) (ht : (pc : Int) + off = (tgt : Int)) (kt : y ≤ x → PW G I d Post tgt ls st M nc ns) (kf : ¬ y ≤ x → PW G I d Post (pc + 3) ls st M nc ns) : PW G I d Post pc ls (.int y :: .int x :: st) M nc ns :=
  fun p l e s m args below meth c C H locs la hS hV hl => lv_icmp_ge C.1 C.2.1 hd ht (fun h => kt h p l e s m args below meth c C H locs la hS hV hl) (fun h => kf h p l e s m args below meth c C H locs la hS hV hl)
theorem PW_if_gt {x : Int32} {off : Int} (tgt : Nat) (hd : decode I.2.1 pc = .ok (.ifCond .gt off, 3)) (ht : (pc : Int) + off = (tgt : Int)) (kt : 0 < x → PW G I d Post tgt ls st M nc ns) (kf : ¬ 0 < x → PW G I d Post (pc + 3) ls st M nc ns) : PW G I d Post pc ls (.int x :: st) M nc ns :=
  fun p l e s m args below meth c C H locs la hS hV hl => lv_if_gt C.1 C.2.1 hd ht (fun h => kt h p l e s m args below meth c C H locs la hS hV hl) (fun h => kf h p l e s m args below meth c C H locs la hS hV hl)
theorem PW_icmp_gt {x y : Int32} {off : Int} (tgt : Nat) (hd : decode I.2.1 pc = .ok (.if_icmp .gt off, 3)) (ht : (pc : Int) + off = (tgt : Int)) (kt : y < x → PW G I d Post tgt ls st M nc ns) (kf : ¬ y < x → PW G I d Post (pc + 3) ls st M nc ns) : PW G I d Post pc ls (.int y :: .int x :: st) M nc ns :=
  fun p l e s m args below meth c C H locs la hS hV hl => lv_icmp_gt C.1 C.2.1 hd ht (fun h => kt h p l e s m args below meth c C H locs la hS hV hl) (fun h => kf h p l e s m args below meth c C H locs la hS hV hl)
theorem PW_if_le {x : Int32} {off : Int} (tgt : Nat) (hd : decode I.2.1 pc = .ok (.ifCond .le off, 3)) (ht : (pc : Int) + off = (tgt : Int)) (kt : x ≤ 0 → PW G I d Post tgt ls st M nc ns) (kf : ¬ x ≤ 0 → PW G I d Post (pc + 3) ls st M nc ns) : PW G I d Post pc ls (.int x :: st) M nc ns :=
  fun p l e s m args below meth c C H locs la hS hV hl => lv_if_le C.1 C.2.1 hd ht (fun h => kt h p l e s m args below meth c C H locs la hS hV hl) (fun h => kf h p l e s m args below meth c C H locs la hS hV hl)
theorem PW_icmp_le {x y : Int32} {off : Int} (tgt : Nat) (hd : decode I.2.1 pc = .ok (.if_icmp .le off, 3)) (ht : (pc : Int) + off = (tgt : Int)) (kt : x ≤ y → PW G I d Post tgt ls st M nc ns) (kf : ¬ x ≤ y → PW G I d Post (pc + 3) ls st M nc ns) : PW G I d Post pc ls (.int y :: .int x :: st) M nc ns :=
  fun p l e s m args below meth c C H locs la hS hV hl => lv_icmp_le C.1 C.2.1 hd ht (fun h => kt h p l e s m args below meth c C H locs la hS hV hl) (fun h => kf h p l e s m args below meth c C H locs la hS hV hl)
theorem PW_goto {off : Int} (tgt : Nat) (hd : decode I.2.1 pc = .ok (.goto off, 3)) (ht : (pc : Int) + off = (tgt : Int)) (k : PW G I d Post tgt ls st M nc ns) : PW G I d Post pc ls st M nc ns :=
  fun p l e s m args below meth c C H locs la hS hV hl => lv_goto C.1 C.2.1 hd ht (k p l e s m args below meth c C H locs la hS hV hl)
theorem PW_tableIn {dflt lo hi : Int} {offs : Array Int} {len : Nat} {x : Int32} {off : Int} (tgt : Nat) (hd : decode I.2.1 pc = .ok (.tableswitch dflt lo hi offs, len)) (h1 : ¬ x.toInt < lo) (h2 : ¬ hi < x.toInt) (ho : offs[(x.toInt - lo).toNat]? = some off) (ht : (pc : Int) + off = (tgt : Int)) (k : PW G I d Post tgt ls st M nc ns) : PW G I d Post pc ls (.int x :: st) M nc ns :=
  fun p l e s m args below meth c C H locs la hS hV hl => lv_tableIn C.1 C.2.1 hd h1 h2 ho ht (k p l e s m args below meth c C H locs la hS hV hl)
theorem PW_tableOut {dflt lo hi : Int} {offs : Array Int} {len : Nat} {x : Int32} (tgt : Nat) (hd : decode I.2.1 pc = .ok (.tableswitch dflt lo hi offs, len)) (h : x.toInt < lo ∨ hi < x.toInt) (ht : (pc : Int) + dflt = (tgt : Int)) (k : PW G I d Post tgt ls st M nc ns) : PW G I d Post pc ls (.int x :: st) M nc ns :=
  fun p l e s m args below meth c C H locs la hS hV hl => lv_tableOut C.1 C.2.1 hd h ht (k p l e s m args below meth c C H locs la hS hV hl)
theorem PW_lookup {dflt : Int} {ps : Array (Int × Int)} {len : Nat} {x : Int32} {off : Int} (tgt : Nat) (hd : decode I.2.1 pc = .ok (.lookupswitch dflt ps, len)) (hp : (ps.toList.zip (ps.toList.drop 1)).all (fun (a, next) => a.1 < next.1) = true) (ho : Op.lookupswitch.offset ps.toList dflt x.toInt = off) (ht : (pc : Int) + off = (tgt : Int)) (k : PW G I d Post tgt ls st M nc ns) : PW G I d Post pc ls (.int x :: st) M nc ns :=
  fun p l e s m args below meth c C H locs la hS hV hl => lv_lookup C.1 C.2.1 hd hp ho ht (k p l e s m args below meth c C H locs la hS hV hl)
theorem PW_ldc {index : Nat} {v : Int32} (hd : decode I.2.1 pc = .ok (.ldc index, 2)) (hc : Cond.constant I.1.cls index v ∈ wsG) (k : PW G I d Post (pc + 2) ls (.int v :: st) M nc ns) : PW G I d Post pc ls st M nc ns :=
  fun p l e s m args below meth c C H locs la hS hV hl => lv_ldc C.1 C.2.1 C.2.2.2.2.2.1 (C.2.2.2.2.2.2.1 _ hc) hd (k p l e s m args below meth c C H locs la hS hV hl)
theorem PW_ldcw {index : Nat} {v : Int32} (hd : decode I.2.1 pc = .ok (.ldc_w index, 3)) (hc : Cond.constant I.1.cls index v ∈ wsG) (k : PW G I d Post (pc + 3) ls (.int v :: st) M nc ns) : PW G I d Post pc ls st M nc ns :=
  fun p l e s m args below meth c C H locs la hS hV hl => lv_ldcw C.1 C.2.1 C.2.2.2.2.2.1 (C.2.2.2.2.2.2.1 _ hc) hd (k p l e s m args below meth c C H locs la hS hV hl)
theorem PW_ldc2 {index : Nat} {v : Int64} (hd : decode I.2.1 pc = .ok (.ldc2_w index, 3)) (hc : Cond.constantLong I.1.cls index v ∈ wsG) (k : PW G I d Post (pc + 3) ls (.long v :: st) M nc ns) : PW G I d Post pc ls st M nc ns :=
  fun p l e s m args below meth c C H locs la hS hV hl => lv_ldc2 C.1 C.2.1 C.2.2.2.2.2.1 (C.2.2.2.2.2.2.1 _ hc) hd (k p l e s m args below meth c C H locs la hS hV hl)
theorem PW_ldcS {index : Nat} (i : Nat) (hi : i < 5) (hx : (sIx.getD i (0, "")).1 = index) (ho : I.1.cls = "SleepyHelm$Text") (hd : decode I.2.1 pc = .ok (.ldc index, 2)) (k : PW G I d Post (pc + 2) ls (.ref (g_s G i) :: st) M nc ns) : PW G I d Post pc ls st M nc ns := by
  intro p l e s m args below meth c C H locs la hS hV hl
  have hR := C.2.2.2.2.2.2.2.2.2.2.1 i hi
  rw [hx, ← ho] at hR
  exact va_ldcS C.1 C.2.1 C.2.2.2.2.2.1 hR hd (k p l e s m args below meth c C H locs la hS hV hl)
theorem PW_ireturn {v : Int32} {ty : FieldType} (hr : I.2.2.2.1 = some ty) (hn : narrow ty (.int v) = .int v) (hd : decode I.2.1 pc = .ok (.ireturn, 1)) (hc : nc ≤ I.2.2.2.2.1) (hs : ns ≤ I.2.2.2.2.2) (hp : Post (some (.int v)) M) : PW G I d Post pc ls [.int v] M nc ns := by
  intro p l e s m args below meth c C H locs la hS hV hl
  refine W.widen hc hs ?_
  exact W.zret C.1 C.2.1 (C.2.2.2.1.trans hr) hn (fun t ht hW => ⟨⟨_, M, rfl, hp, by rw [ht]; exact hS⟩, hV.F ht⟩) hV.2.2 hd C.2.2.2.2.1
theorem PW_lreturn {v : Int64} (hr : I.2.2.2.1 = some .long) (hd : decode I.2.1 pc = .ok (.lreturn, 1)) (hc : nc ≤ I.2.2.2.2.1) (hs : ns ≤ I.2.2.2.2.2) (hp : Post (some (.long v)) M) : PW G I d Post pc ls [.long v] M nc ns := by
  intro p l e s m args below meth c C H locs la hS hV hl
  refine W.widen hc hs ?_
  exact W.lret C.1 C.2.1 (C.2.2.2.1.trans hr) (fun t ht hW => ⟨⟨_, M, rfl, hp, by rw [ht]; exact hS⟩, hV.F ht⟩) hV.2.2 hd C.2.2.2.2.1
theorem PW_return (hr : I.2.2.2.1 = none) (hd : decode I.2.1 pc = .ok (.return_, 1)) (hc : nc ≤ I.2.2.2.2.1) (hs : ns ≤ I.2.2.2.2.2) (hp : Post none M) : PW G I d Post pc ls [] M nc ns := by
  intro p l e s m args below meth c C H locs la hS hV hl
  refine W.widen hc hs ?_
  exact W.vret C.1 C.2.1 (C.2.2.2.1.trans hr) (fun t ht hW => ⟨⟨_, M, rfl, hp, by rw [ht]; exact hS⟩, hV.F ht⟩) hV.2.2 hd C.2.2.2.2.1
end PWR
end
section
/-! ===== fields, arrays, new, calls over our memory ===== -/
def kTy (kd : Nat) (ty : FieldType) : Prop := match kd with
  | 0 => ty = .int
  | 1 => ty = .long
  | _ => (∃ n, ty = .object n) ∨ ∃ t, ty = .array t
/-- a class as the tables have it -/
def CO (ci : Nat) (C : String) (T : u_T) (N : Nat) (ty0 : Nat → FieldType) : Prop :=
  vwCl[ci]? = some (C, T, N) ∧ (fks ci).length = N ∧ ci < 13 ∧ (∀ w ∈ u_ws C T N, w ∈ wsG) ∧ (∀ k, k < N → parseFieldDescriptor (T k).2.2.1 = some (ty0 k)) ∧ (∀ a, a < N → ∀ b, b < N → a ≠ b → (T a).2.1 ≠ (T b).2.1) ∧ ∀ k, k < N → kTy ((fks ci).getD k 2) (ty0 k)
/-- a field by its link -/
def FR (own : String) (idx ci k kd : Nat) (fin : Bool) : Prop := ∃ (C : String) (T : u_T) (N : Nat) (ty0 : Nat → FieldType), CO ci C T N ty0 ∧ k < N ∧ (fks ci).getD k 2 = kd ∧ (T k).2.2.2 = fin ∧ (fin = true → (T k).1 = own) ∧
  (Cond.fieldLink own idx (T k).1 (T k).2.1 (T k).2.2.1 ∈ wsG ∨ ∃ host, fin = false ∧ Cond.fieldLinkNest own idx (T k).1 (T k).2.1 (T k).2.2.1 host ∈ wsN)
/-- a field by its link, read where it is final elsewhere -/
def FRr (own : String) (idx ci k kd : Nat) : Prop := ∃ (C : String) (T : u_T) (N : Nat) (ty0 : Nat → FieldType), CO ci C T N ty0 ∧ k < N ∧ (fks ci).getD k 2 = kd ∧
  (Cond.fieldLink own idx (T k).1 (T k).2.1 (T k).2.2.1 ∈ wsG ∨ ∃ host, Cond.fieldLinkNest own idx (T k).1 (T k).2.1 (T k).2.2.1 host ∈ wsN)
theorem sim_ob {G : GE} {M : Mm} {H : Heap} (hS : Sim G M H) {a ci z : Nat} (ht : mt M a = (ci, z)) (hc : ci < 13) : g_b G ≤ a ∧ a < mn M ∧ t_OB a (G.1 ci) (fks ci).length (G.2.1 ci) H (fv M a (fks ci)) := by
  have h := hS.2.2 a (by rw [ht]; show ci < 18; omega)
  have h2 := h.2.2.1 (by rw [ht]; exact hc)
  rw [ht] at h2
  exact ⟨h.1, h.2.1, h2⟩
theorem sim_ar {G : GE} {M : Mm} {H : Heap} (hS : Sim G M H) {a ci n : Nat} (ht : mt M a = (ci, n)) (hc : ¬ ci < 13) (hc2 : ci < 18) : g_b G ≤ a ∧ a < mn M ∧ H[a]? = some (arrV (g_A G ci) n (avl M a)) := by
  have h := hS.2.2 a (by rw [ht]; exact hc2)
  have h2 := h.2.2.2 (by rw [ht]; exact hc)
  rw [ht] at h2
  exact ⟨h.1, h.2.1, h2⟩
/-- one cell has changed, as told -/
theorem sim_put {G : GE} {M M' : Mm} {H H' : Heap} (hS : Sim G M H) {a : Nat} (hty : mt M' = mt M) (hnx : mn M' = mn M) (hz : H'.size = H.size) (ho : ∀ q, q ≠ a → H'[q]? = H[q]?) (hm : ∀ q, q ≠ a → mi M' q = mi M q ∧ ml M' q = ml M q ∧ mr M' q = mr M q) (ha : (mt M a).1 < 18 → cellOk G M' a H') : Sim G M' H' := by
  refine ⟨hz.trans (hS.1.trans hnx.symm), by rw [hnx]; exact hS.2.1, fun q hq => ?_⟩
  rw [hty] at hq
  obtain ⟨h1, h2, h3⟩ := hS.2.2 q hq
  refine ⟨h1, by rw [hnx]; exact h2, ?_⟩
  by_cases hqa : q = a
  · subst hqa
    exact ha hq
  · obtain ⟨m1, m2, m3⟩ := hm q hqa
    have e1 : fv M' q = fv M q := by funext ks k; simp only [fv, m1, m2, m3]
    have e2 : avl M' q = avl M q := by funext k; simp only [avl, hty, m1, m3]
    refine ⟨fun h => ?_, fun h => ?_⟩
    · rw [hty] at h ⊢
      rw [e1]
      exact (h3.1 h).kept (ho q hqa)
    · rw [hty] at h ⊢
      rw [e2, ho q hqa]
      exact h3.2 h
theorem va_Sput {A : Nat → Prop} {H0 H H1 : Heap} {locs : List Loc} {a i : Nat} (h : va_S A H0 H locs) (z : H1.size = H.size) (o : ∀ q : Nat, q ≠ a → H1[q]? = H[q]?) (ha : A a) : va_S A H0 H1 (locs ++ [⟨a, i⟩]) := by
  refine ⟨by rw [z]; exact h.1, fun q h1 h2 => ?_, fun l hl => ?_⟩
  · rw [o q (fun e => h2 (by rw [e]; exact ha))]
    exact h.2.1 q h1 h2
  · rcases List.mem_append.mp hl with q | q
    · exact h.2.2 l q
    · rw [List.mem_singleton.mp q]; exact ha
section PWF
variable {G : GE} {I : MI} {d : Nat} {Post : Option Value → Mm → Prop} {pc : Nat} {ls st : List Value} {M : Mm} {nc ns : Nat}
theorem PW_getV {a idx ci k kd : Nat} (hd : decode I.2.1 pc = .ok (.getfield idx, 3)) (hf : FRr I.1.cls idx ci k kd) (ht : mt M a = (ci, 0)) (kk : PW G I d Post (pc + 3) ls (fv M a (fks ci) k :: st) M nc ns) : PW G I d Post pc ls (.ref a :: st) M nc ns := by
  intro p l e s m args below meth c C H locs la hS hV hl
  obtain ⟨C', T, N, ty0, ⟨hcl, hN, hci, hin, hty, hnm, hkd⟩, hk, hkd', hlink⟩ := hf
  obtain ⟨hx, hb, hml, hr, hlk, hown, hts, hnme, hE⟩ := C
  have kk' := kk p l e s m args below meth c ⟨hx, hb, hml, hr, hlk, hown, hts, hnme, hE⟩ H locs la hS hV hl
  have hK := hE.1.1
  obtain ⟨-, -, cell, q1, q2, q3, q4⟩ := sim_ob hS ht hci
  obtain ⟨hSl, hfc, kC, hkC, hkind⟩ := hK.1 ci _ hcl
  obtain ⟨cf, kf, fi, f, hi, hsl⟩ := hSl k hk
  have hst := (u_facts hfc hkC (u_lays hts hin hk) hi).1
  have hslot : cell.slots[f.slot]? = some (fv M a (fks ci) k) := by
    rw [hsl]; exact q4 k (by rw [hN]; exact hk)
  rcases hlink with h | ⟨host, h⟩
  · exact W.getf hx hb hown (hts _ h) hi hst q1 (by rw [q3]; exact fun h => by cases h) hslot rfl rfl hd kk'
  · exact va_Wgetf hx hb hown (va_Nw.use rfl (hE.1.2.1 _ h)) hi hst q1 (by rw [q3]; exact fun h => by cases h) hslot rfl rfl hd kk'
theorem FR.rd {own : String} {idx ci k kd : Nat} {fin : Bool} (h : FR own idx ci k kd fin) : FRr own idx ci k kd := by
  obtain ⟨C', T, N, ty0, h1, h2, h3, h4, h5, h6⟩ := h
  exact ⟨C', T, N, ty0, h1, h2, h3, h6.elim Or.inl (fun ⟨host, _, h⟩ => Or.inr ⟨host, h⟩)⟩
theorem FRr.kd {own : String} {idx ci k kd : Nat} (h : FRr own idx ci k kd) : (fks ci).getD k 2 = kd := by
  obtain ⟨C', T, N, ty0, h1, h2, h3, h4⟩ := h
  exact h3
theorem PW_getI {a idx ci k : Nat} (hd : decode I.2.1 pc = .ok (.getfield idx, 3)) (hf : FRr I.1.cls idx ci k 0) (ht : mt M a = (ci, 0)) (kk : PW G I d Post (pc + 3) ls (.int (mi M a k) :: st) M nc ns) : PW G I d Post pc ls (.ref a :: st) M nc ns := by
  refine PW_getV hd hf ht ?_
  have e : fv M a (fks ci) k = .int (mi M a k) := by unfold fv; rw [hf.kd] <;> rfl
  rw [e]; exact kk
theorem PW_getL {a idx ci k : Nat} (hd : decode I.2.1 pc = .ok (.getfield idx, 3)) (hf : FRr I.1.cls idx ci k 1) (ht : mt M a = (ci, 0)) (kk : PW G I d Post (pc + 3) ls (.long (ml M a k) :: st) M nc ns) : PW G I d Post pc ls (.ref a :: st) M nc ns := by
  refine PW_getV hd hf ht ?_
  have e : fv M a (fks ci) k = .long (ml M a k) := by unfold fv; rw [hf.kd] <;> rfl
  rw [e]; exact kk
theorem PW_getR {a idx ci k b : Nat} (hd : decode I.2.1 pc = .ok (.getfield idx, 3)) (hf : FRr I.1.cls idx ci k 2) (ht : mt M a = (ci, 0)) (hr : mr M a k = some b) (kk : PW G I d Post (pc + 3) ls (.ref b :: st) M nc ns) : PW G I d Post pc ls (.ref a :: st) M nc ns := by
  refine PW_getV hd hf ht ?_
  have e : fv M a (fks ci) k = .ref b := by unfold fv; rw [hf.kd]; show va_rf (mr M a k) = _; rw [hr]; rfl
  rw [e]; exact kk
/-- the field's cell behind a write -/
theorem PW_putV {a idx ci k kd : Nat} {fin : Bool} {v : Value} {M' : Mm} (hd : decode I.2.1 pc = .ok (.putfield idx, 3)) (hf : FR I.1.cls idx ci k kd fin) (hini : fin = true → I.1.name = "<init>") (ht : mt M a = (ci, 0)) (hnf : ∀ ty, kTy kd ty → narrow ty v = v ∧ fits ty v = true)
    (hty : mt M' = mt M) (hnx : mn M' = mn M) (hm : ∀ q, q ≠ a → mi M' q = mi M q ∧ ml M' q = ml M q ∧ mr M' q = mr M q) (hfv : ∀ j, fv M' a (fks ci) j = updV (fv M a (fks ci)) k v j) (kk : PW G I d Post (pc + 3) ls st M' nc ns) : PW G I d Post pc ls (v :: .ref a :: st) M nc ns := by
  intro p l e s m args below meth c C H locs la hS hV hl
  obtain ⟨C', T, N, ty0, ⟨hcl, hN, hci, hin, htyp, hnm, hkd⟩, hk, hkd', hfin, hown2, hlink⟩ := hf
  have C0 := C
  obtain ⟨hx, hb, hml, hr, hlk, hown, hts, hnme, hE⟩ := C
  have hK := hE.1.1
  obtain ⟨hba, -, cell, q1, q2, q3, q4⟩ := sim_ob hS ht hci
  rw [hN] at q4
  obtain ⟨hSl, hfc, kC, hkC, hkind⟩ := hK.1 ci _ hcl
  obtain ⟨cf, kf, fi, f, hi, hsl⟩ := hSl k hk
  have hst := (u_facts hfc hkC (u_lays hts hin hk) hi).1
  have hap := va_apart (own := I.1.cls) hts hin ty0 htyp hnm hK hcl
  obtain ⟨hn, hfit⟩ := hnf (ty0 k) (hkd' ▸ hkd k hk)
  have fin' : ∀ H' : Heap, H'[a]? = some (cell.setSlot f.slot v) → H'.size = H.size → (∀ q, q ≠ a → H'[q]? = H[q]?) → W p l e (rmOf d I.2.2.2.2.1 I.2.2.2.2.2) s m args below meth c H' (locs ++ [⟨a, f.slot⟩]) nc ns (MQ below (QQ G Post) args s I.2.2.2.2.1 I.2.2.2.2.2 (fun q => g_b G ≤ q)) (F0 m (pc + 3) la st) := by
    intro H' e1 e2 e3
    refine kk p l e s m args below meth c C0 H' _ la (sim_put hS hty hnx e2 e3 hm (fun _ => ⟨fun _ => ?_, fun h => absurd (show (mt M' a).1 < 13 by rw [hty, ht]; exact hci) h⟩)) (va_Sput hV e2 e3 hba) hl
    rw [hty, ht]
    show t_OB a (G.1 ci) (fks ci).length (G.2.1 ci) H' (fv M' a (fks ci))
    rw [hN]
    rw [hsl] at e1
    exact t_OB.to (V := updV (fv M a (fks ci)) k v) ⟨_, e1, q2, q3, t_set q4 hap hk v⟩ (fun j _ => (hfv j).symm)
  have hlt : f.slot < cell.slots.size := by rw [hsl]; exact k2_hasslot (q4 k hk)
  have hlay := hts _ (hin _ (u_in_lay hk))
  unfold u_lay at hlay
  cases fin with
  | false =>
    rw [if_neg (by rw [hfin]; decide)] at hlay
    have h6 := u_store hfc hkC hkind hlay hi (htyp k hk) hn hfit
    rcases hlink with h | ⟨host, -, h⟩
    · exact W.putK hx hb (f := f) ⟨hown, hts _ h, ⟨_, _, _, hi⟩, hst⟩ (by rw [q2]; exact h6) q1 q3 hlt rfl rfl hd fin'
    · exact va_WputK hx hb hown (va_Nw.use rfl (hE.1.2.1 _ h)) hi hst (by rw [q2]; exact h6) q1 q3 hlt rfl rfl hd fin'
  | true =>
    rw [if_pos hfin] at hlay
    rcases hlink with h | ⟨host, h2, -⟩
    · have hcf : m.cls = cf := by
        obtain ⟨_, _, c', _, _, _, -, -, hf', -, -, -, hown3, -⟩ := Cond.laysFinal_spec hlay
        have e1 : c' = cf := by have := hi.symm.trans hf'; simp at this; exact this.1.symm
        rw [hown2 rfl] at hown3
        rw [← e1]; exact Option.some.inj (hown.symm.trans hown3)
      have h6 := u_fits hfc hkC hkind (Or.inr hlay) hi (htyp k hk) hn hfit
      exact W.putFinK hx hb hown (hts _ h) hi hst hcf (hnme.trans (hini rfl)) (by rw [q2]; exact h6) q1 q3 hlt rfl rfl hd fin'
    · cases h2
theorem up_ne {α : Type} {f : Nat → α} {a q : Nat} {v : α} (h : q ≠ a) : va_up f a v q = f q := by simp [va_up, h]
theorem up_eq {α : Type} {f : Nat → α} {a : Nat} {v : α} : va_up f a v a = v := by simp [va_up]
theorem PW_putI {a idx ci k : Nat} {fin : Bool} {v : Int32} (hd : decode I.2.1 pc = .ok (.putfield idx, 3)) (hf : FR I.1.cls idx ci k 0 fin) (hini : fin = true → I.1.name = "<init>") (ht : mt M a = (ci, 0)) (kk : PW G I d Post (pc + 3) ls st (wI M a k v) nc ns) : PW G I d Post pc ls (.int v :: .ref a :: st) M nc ns := by
  refine PW_putV (M' := wI M a k v) hd hf hini ht (fun ty h => by cases (show ty = .int from h); exact ⟨rfl, rfl⟩) rfl rfl (fun q hq => ⟨up_ne hq, rfl, rfl⟩) (fun j => ?_) kk
  have hk := hf.rd.kd
  by_cases hj : j = k
  · subst hj
    unfold updV
    rw [if_pos rfl]
    unfold fv
    rw [hk]
    simp [mi, wI, va_up, upd]
  · unfold updV
    rw [if_neg hj]
    simp [fv, mi, ml, mr, wI, va_up, upd, hj]
theorem PW_putL {a idx ci k : Nat} {fin : Bool} {v : Int64} (hd : decode I.2.1 pc = .ok (.putfield idx, 3)) (hf : FR I.1.cls idx ci k 1 fin) (hini : fin = true → I.1.name = "<init>") (ht : mt M a = (ci, 0)) (kk : PW G I d Post (pc + 3) ls st (wL M a k v) nc ns) : PW G I d Post pc ls (.long v :: .ref a :: st) M nc ns := by
  refine PW_putV (M' := wL M a k v) hd hf hini ht (fun ty h => by cases (show ty = .long from h); exact ⟨rfl, rfl⟩) rfl rfl (fun q hq => ⟨rfl, up_ne hq, rfl⟩) (fun j => ?_) kk
  have hk := hf.rd.kd
  by_cases hj : j = k
  · subst hj
    unfold updV
    rw [if_pos rfl]
    unfold fv
    rw [hk]
    simp [ml, wL, va_up, vp_updL]
  · unfold updV
    rw [if_neg hj]
    simp [fv, mi, ml, mr, wL, va_up, vp_updL, hj]
theorem PW_putR {a idx ci k b : Nat} {fin : Bool} (hd : decode I.2.1 pc = .ok (.putfield idx, 3)) (hf : FR I.1.cls idx ci k 2 fin) (hini : fin = true → I.1.name = "<init>") (ht : mt M a = (ci, 0)) (kk : PW G I d Post (pc + 3) ls st (wR M a k (some b)) nc ns) : PW G I d Post pc ls (.ref b :: .ref a :: st) M nc ns := by
  refine PW_putV (M' := wR M a k (some b)) hd hf hini ht (fun ty h => by rcases (show (∃ n, ty = .object n) ∨ ∃ t, ty = .array t from h) with ⟨n, rfl⟩ | ⟨n, rfl⟩ <;> exact ⟨rfl, rfl⟩) rfl rfl (fun q hq => ⟨rfl, rfl, up_ne hq⟩) (fun j => ?_) kk
  have hk := hf.rd.kd
  by_cases hj : j = k
  · subst hj
    unfold updV
    rw [if_pos rfl]
    unfold fv
    rw [hk]
    simp [mr, wR, va_up, va_rf]
  · unfold updV
    rw [if_neg hj]
    simp [fv, mi, ml, mr, wR, va_up, hj]
/-! arrays -/
theorem tysG_at (G : GE) : (tysG G)[0]? = some (g_A G 13, .int) ∧ (tysG G)[1]? = some (g_A G 14, .boolean) ∧ (tysG G)[2]? = some (g_A G 15, .object "SleepyHelm$Helm") ∧ (tysG G)[3]? = some (g_A G 16, .object "SleepyHelm$Plain") ∧ (tysG G)[4]? = some (g_A G 17, .object "SleepyHelm$Voyage") := ⟨rfl, rfl, rfl, rfl, rfl⟩
theorem PW_iaload {a n : Nat} {i : Int32} (hd : decode I.2.1 pc = .ok (.iaload, 1)) (ht : mt M a = (13, n)) (hin : vp_in i n) (kk : PW G I d Post (pc + 1) ls (.int (mi M a i.toNatClampNeg) :: st) M nc ns) : PW G I d Post pc ls (.int i :: .ref a :: st) M nc ns := by
  intro p l e s m args below meth c C H locs la hS hV hl
  have hlt : i.toNatClampNeg < n := Nat.not_le.mp fun q => hin (Or.inr q)
  have h1 := (sim_ar hS ht (by decide) (by decide)).2.2
  refine W.iald C.1 C.2.1 h1 ((C.2.2.2.2.2.2.2.2.1.1.2 0 _ rfl).1 n _) (fun q => by cases q) (by rw [arrV_size]; exact hin) (arrV_read _ _ hlt) rfl rfl hd ?_
  have ev : avl M a i.toNatClampNeg = .int (mi M a i.toNatClampNeg) := by unfold avl; rw [ht]; rfl
  rw [ev]
  exact kk p l e s m args below meth c C H locs la hS hV hl
theorem PW_baload {a n : Nat} {i : Int32} (hd : decode I.2.1 pc = .ok (.baload, 1)) (ht : mt M a = (14, n)) (hin : vp_in i n) (kk : PW G I d Post (pc + 1) ls (.int (mi M a i.toNatClampNeg) :: st) M nc ns) : PW G I d Post pc ls (.int i :: .ref a :: st) M nc ns := by
  intro p l e s m args below meth c C H locs la hS hV hl
  have hlt : i.toNatClampNeg < n := Nat.not_le.mp fun q => hin (Or.inr q)
  have h1 := (sim_ar hS ht (by decide) (by decide)).2.2
  refine W.zald C.1 C.2.1 h1 ((C.2.2.2.2.2.2.2.2.1.1.2 1 _ rfl).1 n _) (fun q => by cases q) (by rw [arrV_size]; exact hin) (arrV_read _ _ hlt) rfl rfl hd ?_
  have ev : avl M a i.toNatClampNeg = .int (mi M a i.toNatClampNeg) := by unfold avl; rw [ht]; rfl
  rw [ev]
  exact kk p l e s m args below meth c C H locs la hS hV hl
/-- an array of references: which class its places hold -/
def eCl (k : Nat) : String := if k = 15 then "SleepyHelm$Helm" else if k = 16 then "SleepyHelm$Plain" else "SleepyHelm$Voyage"
theorem tysG_r (G : GE) {k : Nat} (h : ¬ k < 15) (h2 : k < 18) : ∃ t0 : Nat, (tysG G)[t0]? = some (g_A G k, FieldType.object (eCl k)) := by
  have : k = 15 ∨ k = 16 ∨ k = 17 := by omega
  rcases this with rfl | rfl | rfl
  · exact ⟨2, rfl⟩
  · exact ⟨3, rfl⟩
  · exact ⟨4, rfl⟩
theorem PW_aaload {a ka n b : Nat} {i : Int32} (hd : decode I.2.1 pc = .ok (.aaload, 1)) (ht : mt M a = (ka, n)) (h15 : ¬ ka < 15) (h18 : ka < 18) (hin : vp_in i n) (hr : mr M a i.toNatClampNeg = some b) (kk : PW G I d Post (pc + 1) ls (.ref b :: st) M nc ns) : PW G I d Post pc ls (.int i :: .ref a :: st) M nc ns := by
  intro p l e s m args below meth c C H locs la hS hV hl
  have hlt : i.toNatClampNeg < n := Nat.not_le.mp fun q => hin (Or.inr q)
  have h1 := (sim_ar hS ht (by omega) h18).2.2
  obtain ⟨t0, ht0⟩ := tysG_r G h15 h18
  refine W.aald (ty := .object (eCl ka)) C.1 C.2.1 h1 ((C.2.2.2.2.2.2.2.2.1.1.2 t0 _ ht0).1 n _) rfl (fun q => by cases q) (by rw [arrV_size]; exact hin) (arrV_read _ _ hlt) rfl rfl hd ?_
  have ev : avl M a i.toNatClampNeg = .ref b := by unfold avl; rw [ht, if_neg h15, hr]; rfl
  rw [ev]
  exact kk p l e s m args below meth c C H locs la hS hV hl
theorem PW_alen {a ka n : Nat} {v : Int32} (hd : decode I.2.1 pc = .ok (.arraylength, 1)) (ht : mt M a = (13, n)) (hv : Int32.ofNat n = v) (kk : PW G I d Post (pc + 1) ls (.int v :: st) M nc ns) : PW G I d Post pc ls (.ref a :: st) M nc ns := by
  intro p l e s m args below meth c C H locs la hS hV hl
  subst hv
  have h1 := (sim_ar hS ht (by decide) (by decide)).2.2
  exact W.alen (n := Int32.ofNat n) C.1 C.2.1 h1 ((C.2.2.2.2.2.2.2.2.1.1.2 0 _ rfl).1 n _) (by rw [arrV_size]) rfl rfl hd (kk p l e s m args below meth c C H locs la hS hV hl)
theorem sim_arr {M M' : Mm} {G : GE} {a ka n : Nat} {H' : Heap} (ht : mt M a = (ka, n)) (h13 : ¬ ka < 13) (hty : mt M' = mt M) (h : H'[a]? = some (arrV (g_A G ka) n (avl M' a))) : cellOk G M' a H' := by
  refine ⟨fun q => absurd (show ka < 13 by rw [hty, ht] at q; exact q) h13, fun _ => ?_⟩
  rw [hty, ht]
  exact h
theorem PW_iastore {a n : Nat} {i x : Int32} (hd : decode I.2.1 pc = .ok (.iastore, 1)) (ht : mt M a = (13, n)) (hin : vp_in i n) (kk : PW G I d Post (pc + 1) ls st (wI M a i.toNatClampNeg x) nc ns) : PW G I d Post pc ls (.int x :: .int i :: .ref a :: st) M nc ns := by
  intro p l e s m args below meth c C H locs la hS hV hl
  obtain ⟨hb, -, h1⟩ := sim_ar hS ht (by decide) (by decide)
  refine W.iast C.1 C.2.1 h1 ((C.2.2.2.2.2.2.2.2.1.1.2 0 _ rfl).1 n _) (fun q => by cases q) (by rw [arrV_size]; exact hin) rfl rfl hd fun H1 e1 z oq => ?_
  refine kk p l e s m args below meth c C H1 _ la (sim_put (M' := wI M a i.toNatClampNeg x) (a := a) hS rfl rfl z oq (fun q hq => ⟨up_ne hq, rfl, rfl⟩) (fun _ => sim_arr ht (by decide) rfl ?_)) (va_Sput hV z oq hb) hl
  rw [e1, arrV_store]
  congr 2
  funext q
  have h15 : (mt M a).1 < 15 := by rw [ht]; exact (by decide : (13 : Nat) < 15)
  have h15' : (mt (wI M a i.toNatClampNeg x) a).1 < 15 := h15
  unfold avl
  rw [if_pos h15']
  by_cases hq : q = i.toNatClampNeg
  · subst hq
    simp [updV, mi, wI, va_up, upd]
  · simp [updV, mi, wI, va_up, upd, hq, h15]
theorem PW_bastore {a n : Nat} {i x : Int32} (hd : decode I.2.1 pc = .ok (.bastore, 1)) (ht : mt M a = (14, n)) (hin : vp_in i n) (hx : narrow .boolean (.int x) = .int x) (kk : PW G I d Post (pc + 1) ls st (wI M a i.toNatClampNeg x) nc ns) : PW G I d Post pc ls (.int x :: .int i :: .ref a :: st) M nc ns := by
  intro p l e s m args below meth c C H locs la hS hV hl
  obtain ⟨hb, -, h1⟩ := sim_ar hS ht (by decide) (by decide)
  refine W.zast C.1 C.2.1 h1 ((C.2.2.2.2.2.2.2.2.1.1.2 1 _ rfl).1 n _) (fun q => by cases q) (by rw [arrV_size]; exact hin) rfl rfl hd fun H1 e1 z oq => ?_
  refine kk p l e s m args below meth c C H1 _ la (sim_put (M' := wI M a i.toNatClampNeg x) (a := a) hS rfl rfl z oq (fun q hq => ⟨up_ne hq, rfl, rfl⟩) (fun _ => sim_arr ht (by decide) rfl ?_)) (va_Sput hV z oq hb) hl
  rw [e1, hx, arrV_store]
  congr 2
  funext q
  have h15 : (mt M a).1 < 15 := by rw [ht]; exact (by decide : (14 : Nat) < 15)
  have h15' : (mt (wI M a i.toNatClampNeg x) a).1 < 15 := h15
  unfold avl
  rw [if_pos h15']
  by_cases hq : q = i.toNatClampNeg
  · subst hq
    simp [updV, mi, wI, va_up, upd]
  · simp [updV, mi, wI, va_up, upd, hq, h15]
/-- an object of the array's own class, or (Plain's array) of a class under it -/
def eOk (ka ci : Nat) : Prop := ∃ (r : vw_C), vwCl[ci]? = some r ∧ ci < 13 ∧ (eCl ka = r.1 ∨ (ka = 16 ∧ Cond.castable r.1 "SleepyHelm$Plain" ∈ wsN))
theorem PW_aastore {a ka n b ci z0 : Nat} {i : Int32} (hd : decode I.2.1 pc = .ok (.aastore, 1)) (ht : mt M a = (ka, n)) (h15 : ¬ ka < 15) (h18 : ka < 18) (hin : vp_in i n) (htb : mt M b = (ci, z0)) (he : eOk ka ci) (kk : PW G I d Post (pc + 1) ls st (wR M a i.toNatClampNeg (some b)) nc ns) : PW G I d Post pc ls (.ref b :: .int i :: .ref a :: st) M nc ns := by
  intro p l e s m args below meth c C H locs la hS hV hl
  obtain ⟨hb, -, h1⟩ := sim_ar hS ht (by omega) h18
  obtain ⟨r, hr, hci, hcast⟩ := he
  obtain ⟨-, -, cellV, g1, g2, g3, -⟩ := sim_ob hS htb hci
  have hlt : i.toNatClampNeg < n := Nat.not_le.mp fun q => hin (Or.inr q)
  have h0 : ¬ i < 0 := fun q => hin (Or.inl q)
  have hK := C.2.2.2.2.2.2.2.2.1.1
  have hcls := (hK.1 ci r hr).2
  obtain ⟨t0, ht0⟩ := tysG_r G h15 h18
  obtain ⟨kA, comp, k1, k2, k3, -⟩ := (hK.2 t0 _ ht0).2
  obtain ⟨kC, hkC, -⟩ := hcls.2
  obtain ⟨kcomp, hkcomp⟩ : ∃ kcomp : Class, s.vm.classes[comp]? = some kcomp := by
    have h16 : ka = 15 ∨ ka = 16 ∨ ka = 17 := by omega
    rcases h16 with rfl | rfl | rfl
    · have h9 := (hK.1 4 _ rfl).2
      obtain ⟨k9, hk9, -⟩ := h9.2
      have e9 : comp = G.1 4 := Option.some.inj (k3.symm.trans h9.1)
      exact ⟨k9, by rw [e9]; exact hk9⟩
    · have h9 := (hK.1 7 _ rfl).2
      obtain ⟨k9, hk9, -⟩ := h9.2
      have e9 : comp = G.1 7 := Option.some.inj (k3.symm.trans h9.1)
      exact ⟨k9, by rw [e9]; exact hk9⟩
    · have h9 := (hK.1 10 _ rfl).2
      obtain ⟨k9, hk9, -⟩ := h9.2
      have e9 : comp = G.1 10 := Option.some.inj (k3.symm.trans h9.1)
      exact ⟨k9, by rw [e9]; exact hk9⟩
  have hasg : s.vm.assignable (G.1 ci) comp = true := by
    rcases hcast with hc | ⟨rfl, hc⟩
    · have hcomp : comp = G.1 ci := Option.some.inj (k3.symm.trans (by show s.vm.findClass (eCl ka) = _; rw [hc]; exact hcls.1))
      rw [hcomp]; exact va_assign hcls
    · obtain ⟨c1, c2, e1, e2, e3⟩ := Cond.castable_spec (va_Nw.use (A := args) rfl (C.2.2.2.2.2.2.2.2.1.2.1 _ hc))
      cases hcls.1.symm.trans e1
      cases k3.symm.trans e2
      exact e3
  refine W.aast C.1 C.2.1 h1 (fun q h => by cases h) (fun h => by cases h) k1 k2 rfl hkcomp ⟨h0, by rw [arrV_size]; exact hlt⟩ g1 (fun q h => by rw [g3] at h; cases h) (by rw [g2]; exact hkC) (by rw [g2]; exact hasg) rfl rfl hd fun H1 e1 z oq => ?_
  refine kk p l e s m args below meth c C H1 _ la (sim_put (M' := wR M a i.toNatClampNeg (some b)) (a := a) hS rfl rfl z oq (fun q hq => ⟨rfl, rfl, up_ne hq⟩) (fun _ => sim_arr ht (by omega) rfl ?_)) (va_Sput hV z oq hb) hl
  rw [e1, arrV_store]
  congr 2
  funext q
  have h15a : ¬ (mt M a).1 < 15 := by rw [ht]; exact h15
  have h15' : ¬ (mt (wR M a i.toNatClampNeg (some b)) a).1 < 15 := h15a
  unfold avl
  rw [if_neg h15']
  by_cases hq : q = i.toNatClampNeg
  · subst hq
    simp [updV, mr, wR, va_up, va_rf]
  · simp [updV, mr, wR, va_up, hq, h15a]
end PWF
end
section
/-! ===== new cells, calls, a method's entry ===== -/
theorem env_same {G : GE} {u U : State} (hv : u.vm = U.vm) (hh : U.heap = u.heap) (h : EnvOk G u) : EnvOk G U := by
  have hvm : u.vm.Alike U.vm := by rw [hv]; exact Vm.Alike.refl _
  obtain ⟨⟨h1, h2, h3, h4, h5⟩, ⟨adV, h6⟩, h7, h8⟩ := h
  refine ⟨⟨va_K.moved hvm h1, fun w hw => va_Nw.same ?_ hv (h2 w hw), va_AO.moved hvm h3, va_AO.moved hvm h4, va_AO.moved hvm h5⟩, ⟨adV, ?_⟩, fun i hi => vk_R.same hv.symm (h7 i hi), ?_⟩
  · have hq := (List.mem_filter.mp hw).2
    cases w <;> first | rfl | cases hq
  · rw [hh]; exact vk_S.moved hvm h6
  · rw [hh]; exact va_Z.moved hvm h8
theorem env_warm {G : GE} {s U : State} {H : Heap} {locs : List Loc} (hW : s.WarmedH U.vm) (hh : U.heap = H) (hV : va_S (fun q => g_b G ≤ q) s.heap H locs) (h : EnvOk G s) : EnvOk G U := by
  have hvm : s.vm.Alike U.vm := hW.alike
  obtain ⟨⟨h1, h2, h3, h4, h5⟩, ⟨adV, h6⟩, h7, h8⟩ := h
  refine ⟨⟨va_K.moved hvm h1, fun w hw => ?_, va_AO.moved hvm h3, va_AO.moved hvm h4, va_AO.moved hvm h5⟩, ⟨adV, ?_⟩, fun i hi => vk_R.warm hW (h7 i hi), ?_⟩
  · have hq := (List.mem_filter.mp hw).2
    have h9 := h2 w hw
    cases w <;> first | exact va_Nw.warmF hW h9 | exact va_Nw.warmM hW h9 | exact va_Nw.warmC hW h9 | cases hq
  · rw [hh]; exact (vk_S.moved hvm h6).kept (fun a h1 h2 => hV.2.1 a h1 h2)
  · rw [hh]; exact (va_Z.moved hvm h8).kept (fun a h1 h2 => hV.2.1 a h1 h2)
theorem mt_blind (G : GE) (args : List Value) (M : Mm) : FrameBlind (va_Pc args (fun U => EnvOk G U ∧ Sim G M U.heap)) :=
  fun a U g mk h => ⟨h.1, env_same (u := U) rfl rfl h.2.1, h.2.2⟩
theorem wsM_warm {I : MI} {s : State} {args : Array Value} (hts : ∀ w ∈ wsG, w.before args s = true) (hc : Cond.code I.1 I.2.1 I.2.2.1 I.2.2.2.1 ∈ wsG) : ∀ w ∈ wsM I, ∀ (a' : Array Value) (U : State), s.WarmedH U.vm → w.before a' U = true := by
  intro w hw a' U hW
  have hm : w ∈ wsG := by
    rcases List.mem_cons.mp hw with h | h
    · rw [h]; exact hc
    · exact h
  exact word_at hW (wsG_good w hm) (hts w hm)
/-- a method as the tables have it -/
def MO (I : MI) (n : Nat) : Prop := plainName I.1.cls = true ∧ Cond.code I.1 I.2.1 I.2.2.1 I.2.2.2.1 ∈ wsG ∧ Cond.initialized I.1.cls ∈ wsG ∧ (I.1.cls ≠ "java/lang/invoke/MethodHandle" ∧ I.1.cls ≠ "java/lang/invoke/VarHandle") ∧ (parseMethodDescriptor I.1.desc).map (fun d => d.parameters.length) = some n ∧ I.2.2.1 ≤ 40
theorem MO.len {I : MI} {n : Nat} (h : MO I n) : ∀ sig, parseMethodDescriptor I.1.desc = some sig → n = sig.parameters.length := by
  intro sig hs
  have := h.2.2.2.2.1
  rw [hs] at this
  exact (Option.some.inj this).symm
def CSt (own : String) (idx : Nat) (J : MI) : Prop := Cond.methodLink own idx J.1 ∈ wsG ∧ Cond.static J.1 ∈ wsG
def CSn (own : String) (idx : Nat) (J : MI) : Prop := (∃ host, Cond.methodLinkNest own idx J.1 host ∈ wsN) ∧ Cond.static J.1 ∈ wsG
def CVi (own : String) (idx : Nat) (J : MI) (ci : Nat) : Prop := ∃ r : vw_C, vwCl[ci]? = some r ∧ ci < 13 ∧ Cond.methodLink own idx J.1 ∈ wsG ∧ Cond.instanceMethod J.1 ∈ wsG ∧ Cond.selects r.1 J.1 J.1 ∈ wsG
def CIn (own : String) (idx : Nat) (J : MI) : Prop := J.1.name = "<init>" ∧ J.2.2.2.1 = none ∧ Cond.instanceMethod J.1 ∈ wsG ∧ (Cond.methodLink own idx J.1 ∈ wsG ∨ ∃ host, Cond.methodLinkNest own idx J.1 host ∈ wsN)
def CSu (own : String) (idx : Nat) (J : MI) : Prop := Cond.methodLink own idx J.1 ∈ wsG ∧ Cond.sameMethod J.1.cls J.1.cls J.1.name J.1.desc ∈ wsG ∧ Cond.superclass own J.1.cls ∈ wsG ∧ Cond.instanceMethod J.1 ∈ wsG ∧ J.1.name ≠ "<init>"
def CVu (own : String) (idx : Nat) (x : MethodName) (J : MI) (ci : Nat) : Prop := ∃ (r : vw_C) (b0 : ByteArray) (m0 : Nat) (r0 : Option FieldType), vwCl[ci]? = some r ∧ ci < 13 ∧ Cond.methodLink own idx x ∈ wsG ∧ Cond.sameMethod x.cls x.cls x.name x.desc ∈ wsG ∧ Cond.instanceMethod x ∈ wsG ∧ Cond.selects r.1 x J.1 ∈ wsG ∧ Cond.instanceMethod J.1 ∈ wsG ∧ Cond.code x b0 m0 r0 ∈ wsG ∧ (x.cls ≠ "java/lang/invoke/MethodHandle" ∧ x.cls ≠ "java/lang/invoke/VarHandle") ∧ x.desc = J.1.desc
/-- a class's link, to be made -/
def NR (own : String) (idx ci N : Nat) : Prop := ∃ (C : String) (T : u_T) (ty0 : Nat → FieldType), CO ci C T N ty0 ∧ Cond.classLink own idx C ∈ wsG ∧ Cond.instantiable C N ∈ wsG ∧ Cond.initialized C ∈ wsG
theorem sim_new {G : GE} {M : Mm} {H H' : Heap} {t : Nat × Nat} (hS : Sim G M H) (hz : H'.size = mn M + 1) (ho : ∀ q, q < mn M → H'[q]? = H[q]?) (ha : cellOk G (wN M t) (mn M) H') : Sim G (wN M t) H' := by
  refine ⟨hz, Nat.le_trans hS.2.1 (Nat.le_succ _), fun q hq => ?_⟩
  by_cases hqa : q = mn M
  · subst hqa
    exact ⟨hS.2.1, Nat.lt_succ_self _, ha⟩
  · have et : mt (wN M t) q = mt M q := up_ne hqa
    rw [et] at hq
    obtain ⟨h1, h2, h3⟩ := hS.2.2 q hq
    have m1 : mi (wN M t) q = mi M q := up_ne hqa
    have m2 : ml (wN M t) q = ml M q := up_ne hqa
    have m3 : mr (wN M t) q = mr M q := up_ne hqa
    have e1 : fv (wN M t) q = fv M q := by funext ks k; simp only [fv, m1, m2, m3]
    have e2 : avl (wN M t) q = avl M q := by funext k; simp only [avl, et, m1, m3]
    refine ⟨h1, Nat.lt_succ_of_lt h2, fun h => ?_, fun h => ?_⟩
    · rw [et] at h ⊢
      rw [e1]
      exact (h3.1 h).kept (ho q h2)
    · rw [et] at h ⊢
      rw [e2, ho q h2]
      exact h3.2 h
theorem va_Snew {A : Nat → Prop} {H0 H H1 : Heap} {locs : List Loc} (h : va_S A H0 H locs) (z : H1.size = H.size + 1) (o : ∀ q : Nat, q < H.size → H1[q]? = H[q]?) : va_S A H0 H1 locs :=
  ⟨by rw [z]; exact Nat.le_succ_of_le h.1, fun q h1 h2 => (o q (Nat.lt_of_lt_of_le h1 h.1)).trans (h.2.1 q h1 h2), h.2.2⟩
section PWC
variable {G : GE} {I : MI} {d : Nat} {Post : Option Value → Mm → Prop} {pc : Nat} {ls st : List Value} {M : Mm} {nc ns : Nat}
theorem PW_new {idx ci N : Nat} (hd : decode I.2.1 pc = .ok (.new idx, 3)) (hn : NR I.1.cls idx ci N) (hc : nc + 1 ≤ I.2.2.2.2.1) (hs : ns + N ≤ I.2.2.2.2.2) (kk : PW G I d Post (pc + 3) ls (.ref (mn M) :: st) (wN M (ci, 0)) (nc + 1) (ns + N)) : PW G I d Post pc ls st M nc ns := by
  intro p l e s m args below meth c C H locs la hS hV hl
  obtain ⟨C', T, ty0, ⟨hcl, hN, hci, hin, hty, hnm, hkd⟩, w1, w2, w3⟩ := hn
  have C0 := C
  obtain ⟨hx, hb, hml, hr, hlk, hown, hts, hnme, hE⟩ := C
  have hKn := hE.1.1.1 ci _ hcl
  refine W.newcK hx hb hown (hts _ w1) (hts _ w2) (hts _ w3) rfl hd hc hs hKn.2.1 hS.1 fun H1 kC hkC e1 z1 o1 => ?_
  refine kk p l e s m args below meth c C0 H1 locs la (sim_new hS z1 o1 ⟨fun _ => ?_, fun h => absurd (show (mt (wN M (ci, 0)) (mn M)).1 < 13 by rw [show mt (wN M (ci, 0)) (mn M) = (ci, 0) from up_eq]; exact hci) h⟩) (va_Snew hV (by rw [z1, hS.1]) (fun q hq => o1 q (by rw [← hS.1]; exact hq))) hl
  rw [show mt (wN M (ci, 0)) (mn M) = (ci, 0) from up_eq]
  show t_OB (mn M) (G.1 ci) (fks ci).length (G.2.1 ci) H1 (fv (wN M (ci, 0)) (mn M) (fks ci))
  rw [hN]
  refine (u_born ty0 hts hin hKn hkC e1 hty).to (fun k hk => ?_)
  have hk2 := hkd k hk
  have f1 : mi (wN M (ci, 0)) (mn M) = fun _ => 0 := up_eq
  have f2 : ml (wN M (ci, 0)) (mn M) = fun _ => 0 := up_eq
  have f3 : mr (wN M (ci, 0)) (mn M) = fun _ => none := up_eq
  unfold fv
  rw [f1, f2, f3]
  generalize (fks ci).getD k 2 = kd at hk2 ⊢
  match kd, hk2 with
  | 0, h => rw [show ty0 k = .int from h]; rfl
  | 1, h => rw [show ty0 k = .long from h]; rfl
  | n + 2, h =>
    rcases (show (∃ n, ty0 k = .object n) ∨ ∃ t, ty0 k = .array t from h) with ⟨q, h⟩ | ⟨q, h⟩ <;> (rw [h]; rfl)
theorem newarr_ok {M : Mm} {G : GE} {k N : Nat} {H' : Heap} {cA : ClassId} {dv : Value} (hk : ¬ k < 13) (hA : cA = g_A G k) (hv : dv = if k < 15 then .int 0 else .null) (h : H'[mn M]? = some (arrV cA N (fun _ => dv))) : cellOk G (wN M (k, N)) (mn M) H' := by
  have et : mt (wN M (k, N)) (mn M) = (k, N) := up_eq
  have f1 : mi (wN M (k, N)) (mn M) = fun _ => 0 := up_eq
  have f3 : mr (wN M (k, N)) (mn M) = fun _ => none := up_eq
  refine ⟨fun q => absurd (show k < 13 by rw [et] at q; exact q) hk, fun _ => ?_⟩
  rw [et, h, hA]
  congr 2
  funext j
  unfold avl
  rw [et, f1, f3, hv]
  rfl
theorem PW_newI {n : Int32} {N : Nat} (hd : decode I.2.1 pc = .ok (.newarray .int, 2)) (hw : Cond.arrayClass .int ∈ wsG) (hn : ¬ n < 0) (hN : n.toNatClampNeg = N) (h4 : N ≤ 1000) (hc : nc + 1 ≤ I.2.2.2.2.1) (hs : ns + N ≤ I.2.2.2.2.2) (kk : PW G I d Post (pc + 2) ls (.ref (mn M) :: st) (wN M (13, N)) (nc + 1) (ns + N)) : PW G I d Post pc ls (.int n :: st) M nc ns := by
  intro p l e s m args below meth c C H locs la hS hV hl
  have hK := C.2.2.2.2.2.2.2.2.1.1
  refine va_newaK (atype := .int) C.1 C.2.1 (C.2.2.2.2.2.2.1 _ hw) rfl hd rfl hn hN (by show N * 4 ≤ _; omega) hc hs hS.1 fun H1 cA e1 z1 o1 hAr hfc => ?_
  have hA : cA = g_A G 13 := Option.some.inj (hfc.symm.trans (hK.2 0 _ rfl).2)
  exact kk p l e s m args below meth c C H1 locs la (sim_new hS z1 o1 (newarr_ok (by decide) hA rfl e1)) (va_Snew hV (by rw [z1, hS.1]) (fun q hq => o1 q (by rw [← hS.1]; exact hq))) hl
theorem PW_newZ {n : Int32} {N : Nat} (hd : decode I.2.1 pc = .ok (.newarray .boolean, 2)) (hw : Cond.arrayClass .boolean ∈ wsG) (hn : ¬ n < 0) (hN : n.toNatClampNeg = N) (h4 : N ≤ 1000) (hc : nc + 1 ≤ I.2.2.2.2.1) (hs : ns + N ≤ I.2.2.2.2.2) (kk : PW G I d Post (pc + 2) ls (.ref (mn M) :: st) (wN M (14, N)) (nc + 1) (ns + N)) : PW G I d Post pc ls (.int n :: st) M nc ns := by
  intro p l e s m args below meth c C H locs la hS hV hl
  have hK := C.2.2.2.2.2.2.2.2.1.1
  refine va_newaK (atype := .boolean) C.1 C.2.1 (C.2.2.2.2.2.2.1 _ hw) rfl hd rfl hn hN (by show N * 1 ≤ _; omega) hc hs hS.1 fun H1 cA e1 z1 o1 hAr hfc => ?_
  have hA : cA = g_A G 14 := Option.some.inj (hfc.symm.trans (hK.2 1 _ rfl).2)
  exact kk p l e s m args below meth c C H1 locs la (sim_new hS z1 o1 (newarr_ok (by decide) hA rfl e1)) (va_Snew hV (by rw [z1, hS.1]) (fun q hq => o1 q (by rw [← hS.1]; exact hq))) hl
theorem env_AO {G : GE} {s : State} (h : EnvOk G s) {k : Nat} (h15 : ¬ k < 15) (h18 : k < 18) : va_AO (eCl k) s := by
  have : k = 15 ∨ k = 16 ∨ k = 17 := by omega
  rcases this with rfl | rfl | rfl
  · exact h.1.2.2.1
  · exact h.1.2.2.2.1
  · exact h.1.2.2.2.2
theorem PW_anew {idx k : Nat} {n : Int32} {N : Nat} (hd : decode I.2.1 pc = .ok (.anewarray idx, 3)) (h15 : ¬ k < 15) (h18 : k < 18) (hw : Cond.classLink I.1.cls idx (eCl k) ∈ wsG) (hn : ¬ n < 0) (hN : n.toNatClampNeg = N) (h4 : N ≤ 1000) (hc : nc + 1 ≤ I.2.2.2.2.1) (hs : ns + N ≤ I.2.2.2.2.2) (kk : PW G I d Post (pc + 3) ls (.ref (mn M) :: st) (wN M (k, N)) (nc + 1) (ns + N)) : PW G I d Post pc ls (.int n :: st) M nc ns := by
  intro p l e s m args below meth c C H locs la hS hV hl
  have hK := C.2.2.2.2.2.2.2.2.1.1
  subst hN
  refine W.anew C.1 C.2.1 C.2.2.2.2.2.1 (C.2.2.2.2.2.2.1 _ hw) (va_AO.use (env_AO C.2.2.2.2.2.2.2.2 h15 h18)) rfl hd rfl hn (by omega) hc hs fun cA kA comp f1 f2 f3 f4 => ?_
  generalize hH1 : H.push ({ cls := cA, slots := Array.replicate n.toNatClampNeg .null, vm := .none } : Cell) = H1
  have z1 : H1.size = mn M + 1 := by rw [← hH1, Array.size_push, hS.1]
  have e1 : H1[mn M]? = some (arrV cA n.toNatClampNeg (fun _ => .null)) := by rw [← hS.1, ← hH1, Array.getElem?_push_size, ← arrV_new]
  have o1 : ∀ q : Nat, q < mn M → H1[q]? = H[q]? := fun q hq => by rw [← hH1, Array.getElem?_push, if_neg (by rw [hS.1]; exact Nat.ne_of_lt hq)]
  obtain ⟨t0, ht0⟩ := tysG_r G h15 h18
  obtain ⟨kB, compB, k1, k2, k3, k4⟩ := (hK.2 t0 _ ht0).2
  have hA : cA = g_A G k := Option.some.inj (f1.symm.trans k4)
  have r1 := kk p l e s m args below meth c C H1 locs la (sim_new hS z1 o1 (newarr_ok (by omega) hA (by rw [if_neg h15]) e1)) (va_Snew hV (by rw [z1, hS.1]) (fun q hq => o1 q (by rw [← hS.1]; exact hq))) hl
  rw [← hS.1] at r1
  exact r1
theorem PW_objInit {idx a : Nat} (hd : decode I.2.1 pc = .ok (.invokespecial idx, 3)) (h1 : Cond.methodLink I.1.cls idx objectInit ∈ wsG) (h2 : Cond.instanceMethod objectInit ∈ wsG) (h3 : Cond.code objectInit ⟨#[0xb1]⟩ 1 none ∈ wsG) (hw : (st.map fun v => v.category).sum ≤ 40) (kk : PW G I d Post (pc + 3) ls st M nc ns) : PW G I d Post pc ls (.ref a :: st) M nc ns := by
  intro p l e s m args below meth c C H locs la hS hV hl
  have hts := C.2.2.2.2.2.2.1
  refine W.objInit C.1 C.2.1 C.2.2.2.2.2.1 (hts _ h1) (hts _ h2) (hts _ h3) rfl (by rw [C.2.2.1]; exact hl.1) rfl hd (by show 1 ≤ d + 1; omega) (by show 2 * 0 + _ + 12 ≤ 64 * (d + 1); omega) ?_
  exact kk p l e s m args below meth c C H locs la hS hV hl
theorem PW_max {idx : Nat} {x y : Int32} (hd : decode I.2.1 pc = .ok (.invokestatic idx, 3)) (h1 : Cond.methodLink I.1.cls idx Lib.Math.max.name ∈ wsG) (h2 : Cond.static Lib.Math.max.name ∈ wsG ∧ Cond.initialized "java/lang/Math" ∈ wsG ∧ Cond.code Lib.Math.max.name Lib.Math.max.code 2 (some .int) ∈ wsG) (hw : (st.map fun v => v.category).sum ≤ 40) (hc : nc ≤ I.2.2.2.2.1) (hs : ns ≤ I.2.2.2.2.2) (kk : PW G I d Post (pc + 3) ls (.int (if x < y then y else x) :: st) M nc ns) : PW G I d Post pc ls (.int y :: .int x :: st) M nc ns := by
  intro p l e s m args below meth c C H locs la hS hV hl
  have hts := C.2.2.2.2.2.2.1
  exact va_mmax C.1 C.2.1 (by rw [C.2.2.1]; exact hl.1.symm) C.2.2.2.2.2.1 (hts _ h1) (hts _ h2.1) (hts _ h2.2.1) (hts _ h2.2.2) (by show 1 ≤ d + 1; omega) (by show _ + 13 ≤ 64 * (d + 1); omega) hc hs hd (kk p l e s m args below meth c C H locs la hS hV hl)
theorem PW_min {idx : Nat} {x y : Int32} (hd : decode I.2.1 pc = .ok (.invokestatic idx, 3)) (h1 : Cond.methodLink I.1.cls idx Lib.Math.min.name ∈ wsG) (h2 : Cond.static Lib.Math.min.name ∈ wsG ∧ Cond.initialized "java/lang/Math" ∈ wsG ∧ Cond.code Lib.Math.min.name Lib.Math.min.code 2 (some .int) ∈ wsG) (hw : (st.map fun v => v.category).sum ≤ 40) (hc : nc ≤ I.2.2.2.2.1) (hs : ns ≤ I.2.2.2.2.2) (kk : PW G I d Post (pc + 3) ls (.int (if y < x then y else x) :: st) M nc ns) : PW G I d Post pc ls (.int y :: .int x :: st) M nc ns := by
  intro p l e s m args below meth c C H locs la hS hV hl
  have hts := C.2.2.2.2.2.2.1
  exact va_mmin C.1 C.2.1 (by rw [C.2.2.1]; exact hl.1.symm) C.2.2.2.2.2.1 (hts _ h1) (hts _ h2.1) (hts _ h2.2.1) (hts _ h2.2.2) (by show 1 ≤ d + 1; omega) (by show _ + 13 ≤ 64 * (d + 1); omega) hc hs hd (kk p l e s m args below meth c C H locs la hS hV hl)
theorem PW_abs {idx : Nat} {x : Int32} (hd : decode I.2.1 pc = .ok (.invokestatic idx, 3)) (h1 : Cond.methodLink I.1.cls idx Lib.Math.abs.name ∈ wsG) (h2 : Cond.static Lib.Math.abs.name ∈ wsG ∧ Cond.initialized "java/lang/Math" ∈ wsG ∧ Cond.code Lib.Math.abs.name Lib.Math.abs.code 1 (some .int) ∈ wsG) (hw : (st.map fun v => v.category).sum ≤ 40) (hc : nc ≤ I.2.2.2.2.1) (hs : ns ≤ I.2.2.2.2.2) (kk : PW G I d Post (pc + 3) ls (.int (if 0 ≤ x then x else 0 - x) :: st) M nc ns) : PW G I d Post pc ls (.int x :: st) M nc ns := by
  intro p l e s m args below meth c C H locs la hS hV hl
  have hts := C.2.2.2.2.2.2.1
  exact va_mabs C.1 C.2.1 (by rw [C.2.2.1]; exact hl.1.symm) C.2.2.2.2.2.1 (hts _ h1) (hts _ h2.1) (hts _ h2.2.1) (hts _ h2.2.2) (by show 1 ≤ d + 1; omega) (by show _ + 13 ≤ 64 * (d + 1); omega) hc hs hd (kk p l e s m args below meth c C H locs la hS hV hl)
/-- a whole copy of ints -/
theorem PW_copy {idx a b n0 n1 : Nat} {n : Int32} (hd : decode I.2.1 pc = .ok (.invokestatic idx, 3)) (h1 : Cond.methodLink I.1.cls idx arraycopyName ∈ wsG) (h2 : Cond.native arraycopyName ∈ wsG ∧ Cond.static arraycopyName ∈ wsG ∧ Cond.initialized "java/lang/System" ∈ wsG) (ht0 : mt M b = (13, n0)) (ht1 : mt M a = (13, n1)) (h3 : ¬ n < 0) (h4 : n.toNatClampNeg ≤ n0) (h5 : n.toNatClampNeg ≤ n1) (hw : (st.map fun v => v.category).sum ≤ 8)
    (kk : PW G I d Post (pc + 3) ls st (wA M a (va_cpy (mi M b) (mi M a) 0 0 n.toNatClampNeg)) nc ns) : PW G I d Post pc ls (.int n :: .int 0 :: .ref a :: .int 0 :: .ref b :: st) M nc ns := by
  intro p l e s m args below meth c C H locs la hS hV hl
  have hts := C.2.2.2.2.2.2.1
  have hK := C.2.2.2.2.2.2.2.2.1.1
  obtain ⟨hbb, -, hc0'⟩ := sim_ar hS ht0 (by decide) (by decide)
  obtain ⟨hba, -, hc1'⟩ := sim_ar hS ht1 (by decide) (by decide)
  have ea : ∀ q, (mt M q).1 < 15 → avl M q = fun j => .int (mi M q j) := fun q hq => by funext j; unfold avl; rw [if_pos hq]
  have hc0 : H[b]? = some (vp_cell (g_A G 13) (n0, .inl (mi M b))) := by rw [hc0', ea b (by rw [ht0]; exact (by decide : (13 : Nat) < 15))]; rfl
  have hc1 : H[a]? = some (vp_cell (g_A G 13) (n1, .inl (mi M a))) := by rw [hc1', ea a (by rw [ht1]; exact (by decide : (13 : Nat) < 15))]; rfl
  have nn : ∀ z : Int32, ¬ z < 0 → z.toInt = (z.toNatClampNeg : Int) := by
    intro z hz
    have hz0 : (0 : Int) ≤ z.toInt := by
      have := Int32.not_lt.mp hz
      simpa using Int32.le_iff_toInt_le.mp this
    show z.toInt = ((z.toInt.toNat : Nat) : Int)
    omega
  intro T hT X
  obtain ⟨-, k0, hk0, cm0, hkk0⟩ := (hK.2 0 _ rfl).1 n0 (fun j => .int (mi M b j))
  obtain ⟨-, k1, hk1, cm1, hkk1⟩ := (hK.2 0 _ rfl).1 n1 (fun j => .int (mi M a j))
  have z0 : ((0 : Int32).toNatClampNeg) = 0 := rfl
  obtain ⟨vm', X', step⟩ := X.arraycopy C.1 C.2.2.2.2.2.1 (hts _ h1) (hts _ h2.1) (hts _ h2.2.1) (hts _ h2.2.2) (src := b) (dst := a) (cs := vp_cell (g_A G 13) (n0, .inl (mi M b))) (cd := vp_cell (g_A G 13) (n1, .inl (mi M a))) (srcPos := 0) (destPos := 0) (n := n) (by rw [hT]; exact hc0) (by rw [hT]; exact hc1)
    (fun _ h => by cases h) (fun _ h => by cases h) (fun h => by cases h) (fun h => by cases h) hk0 hk1 hkk0 hkk1 (by simp [refKind]) (by decide) (by decide) h3
    (by rw [nn 0 (by decide), nn n h3]; show ¬ _ > ((arrV (g_A G 13) n0 (fun j => .int (mi M b j))).slots.size : Int); rw [arrV_size, z0]; omega)
    (by rw [nn 0 (by decide), nn n h3]; show ¬ _ > ((arrV (g_A G 13) n1 (fun j => .int (mi M a j))).slots.size : Int); rw [arrV_size, z0]; omega)
    (fun vm₁ _ i hi => by
      have ev : (vp_cell (g_A G 13) (n0, .inl (mi M b))).slots.getD ((0 : Int32).toNatClampNeg + i) .null = .int (mi M b ((0 : Int32).toNatClampNeg + i)) := by
        show (arrV (g_A G 13) n0 (fun j => .int (mi M b j))).slots.getD _ _ = _
        rw [Array.getD_eq_getD_getElem?, arrV_read _ _ (by rw [z0]; omega)]
        rfl
      refine ⟨?_, ?_⟩
      · rw [ev]
        rfl
      · rw [ev]
        exact trivial)
    (g := F0 m pc la (.int n :: .int 0 :: .ref a :: .int 0 :: .ref b :: st)) rfl (by rw [C.2.2.1]; exact hl.1) (rest := st) rfl (by rw [C.2.1]; exact hd) (by show 1 ≤ d + 1; omega) (by
      have e9 : nativeFrameWords "java/lang/System" "arraycopy" 5 + 11 ≤ 50 := by decide +kernel
      show 2 * 0 + _ + _ ≤ 64 * (d + 1)
      omega)
  have e1 : copied (vp_cell (g_A G 13) (n0, .inl (mi M b))) (vp_cell (g_A G 13) (n1, .inl (mi M a))) 0 0 n = vp_cell (g_A G 13) (n1, .inl (va_cpy (mi M b) (mi M a) 0 0 n.toNatClampNeg)) := va_copied (fun z => .int z) (g_A G 13) (g_A G 13) (mi M b) (mi M a) (by rw [z0]; omega)
  rw [e1] at X' step
  generalize hc9 : vp_cell (g_A G 13) (n1, .inl (va_cpy (mi M b) (mi M a) 0 0 n.toNatClampNeg)) = c9 at X' step
  have hl9 : a < H.size := (Array.getElem?_eq_some_iff.mp hc1).1
  have hheap : ((T.setVm vm').setCell a c9).heap = H.setIfInBounds a c9 := by rw [← hT]; rfl
  have oq : ∀ q : Nat, q ≠ a → (H.setIfInBounds a c9)[q]? = H[q]? := fun q hq => by simp [Array.getElem?_setIfInBounds, Ne.symm hq]
  have oa : (H.setIfInBounds a c9)[a]? = some c9 := by simp [Array.getElem?_setIfInBounds, hl9]
  have ez : (H.setIfInBounds a c9).size = H.size := by simp
  obtain ⟨t, a1, b1⟩ := kk p l e s m args below meth c C (H.setIfInBounds a c9) _ la (sim_put (M' := wA M a (va_cpy (mi M b) (mi M a) 0 0 n.toNatClampNeg)) (a := a) hS rfl rfl ez oq (fun q hq => ⟨up_ne hq, rfl, rfl⟩) (fun _ => sim_arr ht1 (by decide) rfl (by
      rw [oa, ← hc9]
      show some (arrV (g_A G 13) n1 (fun j => .int (va_cpy (mi M b) (mi M a) 0 0 n.toNatClampNeg j))) = _
      congr 2
      funext j
      have h15 : (mt (wA M a (va_cpy (mi M b) (mi M a) 0 0 n.toNatClampNeg)) a).1 < 15 := by
        show (mt M a).1 < 15
        rw [ht1]; exact (by decide : (13 : Nat) < 15)
      unfold avl
      rw [if_pos h15]
      rw [show mi (wA M a (va_cpy (mi M b) (mi M a) 0 0 n.toNatClampNeg)) a = va_cpy (mi M b) (mi M a) 0 0 n.toNatClampNeg from up_eq]))) ⟨by rw [ez]; exact hV.1, fun q g1 g2 => by
      rw [oq q (fun e => g2 (by rw [e]; exact hba))]
      exact hV.2.1 q g1 g2, fun q hq => by
      rcases List.mem_append.mp hq with h | h
      · exact hV.2.2 q h
      · obtain ⟨z, -, hz⟩ := List.mem_map.mp h
        rw [← hz]
        exact hba⟩ hl _ hheap X'
  exact ⟨t, step t a1, b1⟩
/-- what comes behind a call -/
theorem run_go {p : Program} {l : Launch} {e : Env} {R : Room} {s : State} {m : MethodId} {args : Array Value} {below : List Frame} {meth : Method} {c : Code} {H : Heap} {locs : List Loc} {mc ms : Nat} {la : Array Slot} {st0 rest : List Value} {a : Array Value} {Q : State → Prop} {Post' : Option Value → Mm → Prop}
    (hr : va_Run p l e R s m args below meth c H locs nc ns mc ms (F0 m pc la st0) rest (QQ G Post' a) (fun q => g_b G ≤ q)) (hV : va_S (fun q => g_b G ≤ q) s.heap H locs)
    (kk : ∀ (v : Option Value) (M' : Mm) (H1 : Heap) (locs1 : List Loc), Post' v M' → Sim G M' H1 → va_S (fun q => g_b G ≤ q) s.heap H1 locs1 → W p l e R s m args below meth c H1 locs1 (nc + mc) (ns + ms) Q (F0 m (pc + 3) la (v.toList ++ rest))) : W p l e R s m args below meth c H locs nc ns Q (F0 m pc la st0) := by
  intro T hT X
  obtain ⟨v, st₀, t, T', L, h0, X', hL, e1, e2, ⟨⟨v', M', hv, hp, hb⟩, hz, hk⟩, st⟩ := hr T hT X
  cases hv
  rw [h0] at hz hk
  obtain ⟨t2, a1, b1⟩ := kk v M' T'.heap (locs ++ L) hp (by rw [e1]; exact hb)
    ⟨Nat.le_trans hV.1 (by rw [e1]; exact hz), fun q h1 h2 => by rw [e1, hk q (Nat.lt_of_lt_of_le h1 hV.1) h2]; exact hV.2.1 q h1 h2, fun q hq => by
      rcases List.mem_append.mp hq with h | h
      · exact hV.2.2 q h
      · exact hL q h⟩ T' rfl X'
  exact ⟨t2, st t2 a1, b1⟩
theorem room_ok {J : MI} {n d d' : Nat} {I : MI} (hJ : MO J n) (hd : d' < d) : (rmOf d' J.2.2.2.2.1 J.2.2.2.2.2).frames + 1 ≤ (rmOf d I.2.2.2.2.1 I.2.2.2.2.2).frames ∧ 8 + (J.2.2.1 + 11) + (rmOf d' J.2.2.2.2.1 J.2.2.2.2.2).locals ≤ (rmOf d I.2.2.2.2.1 I.2.2.2.2.2).locals := by
  have := hJ.2.2.2.2.2
  constructor
  · show d' + 1 + 1 ≤ d + 1
    omega
  · show 8 + (J.2.2.1 + 11) + 64 * (d' + 1) ≤ 64 * (d + 1)
    omega
theorem sim_recv {s : State} {H : Heap} {b ci z : Nat} {r : vw_C} (hE : EnvOk G s) (hS : Sim G M H) (ht : mt M b = (ci, z)) (hr : vwCl[ci]? = some r) (hci : ci < 13) : ∃ cellB : Cell, H[b]? = some cellB ∧ cellB.vm.isStatics = false ∧ s.vm.findClass r.1 = some cellB.cls := by
  obtain ⟨-, -, cell, g1, g2, g3, -⟩ := sim_ob hS ht hci
  exact ⟨cell, g1, by rw [g3]; rfl, by rw [g2]; exact (hE.1.1.1 ci r hr).2.1⟩
variable {J : MI} {n d' : Nat} {Post' : Option Value → Mm → Prop}
/-- static -/
theorem PW_callS {idx : Nat} {As : List Value} {st0 : List Value} (hd : decode I.2.1 pc = .ok (.invokestatic idx, 3)) (hJ : MO J n) (hC : CSt I.1.cls idx J) (hdd : d' < d) (hn : As.length = n) (hst : st0 = As.reverse ++ st) (hw : (st.map fun v => v.category).sum ≤ 8) (hc : nc + J.2.2.2.2.1 ≤ I.2.2.2.2.1) (hs : ns + J.2.2.2.2.2 ≤ I.2.2.2.2.2) (hM : Mt G J d' As M Post')
    (kk : ∀ v M', Post' v M' → PW G I d Post (pc + 3) ls (v.toList ++ st) M' (nc + J.2.2.2.2.1) (ns + J.2.2.2.2.2)) : PW G I d Post pc ls st0 M nc ns := by
  intro p l e s m args below meth c C H locs la hS hV hl
  have hts := C.2.2.2.2.2.2.1
  have hr := room_ok (I := I) hJ hdd
  refine run_go (va_runS (Ts := wsG) (n := n) (As := As) (rest := st) ⟨C.1, C.2.1, C.2.2.1, C.2.2.2.2.2.1, hts⟩ (hM l) ⟨⟨rfl, rfl, hr.1, hr.2, wsM_warm hts hJ.2.1, List.mem_cons_self, hts _ hJ.2.1, hts _ hJ.2.2.1, hJ.2.2.2.1, hJ.len, hts _ hC.1⟩, hts _ hC.2⟩ ⟨mt_blind G _ M, fun U hU hW => ⟨rfl, env_warm hW hU hV C.2.2.2.2.2.2.2.2, by rw [hU]; exact hS⟩⟩ rfl hn hl.1 hst (lv_room hw) hd ⟨hc, hs⟩) hV fun v M' H1 locs1 hp hS1 hV1 => ?_
  exact kk v M' hp p l e s m args below meth c C H1 locs1 la hS1 hV1 hl
theorem PW_callSN {idx : Nat} {As : List Value} {st0 : List Value} (hd : decode I.2.1 pc = .ok (.invokestatic idx, 3)) (hJ : MO J n) (hC : CSn I.1.cls idx J) (hdd : d' < d) (hn : As.length = n) (hst : st0 = As.reverse ++ st) (hw : (st.map fun v => v.category).sum ≤ 8) (hc : nc + J.2.2.2.2.1 ≤ I.2.2.2.2.1) (hs : ns + J.2.2.2.2.2 ≤ I.2.2.2.2.2) (hM : Mt G J d' As M Post')
    (kk : ∀ v M', Post' v M' → PW G I d Post (pc + 3) ls (v.toList ++ st) M' (nc + J.2.2.2.2.1) (ns + J.2.2.2.2.2)) : PW G I d Post pc ls st0 M nc ns := by
  intro p l e s m args below meth c C H locs la hS hV hl
  have hts := C.2.2.2.2.2.2.1
  have hr := room_ok (I := I) hJ hdd
  obtain ⟨⟨host, hN⟩, hstt⟩ := hC
  refine run_go (va_runSN (Ts := wsG) (host := host) (n := n) (As := As) (rest := st) ⟨C.1, C.2.1, C.2.2.1, C.2.2.2.2.2.1, hts⟩ (hM l) ⟨⟨⟨rfl, rfl, hr.1, hr.2, wsM_warm hts hJ.2.1, List.mem_cons_self⟩, hts _ hJ.2.1, hts _ hJ.2.2.1, hJ.2.2.2.1, hJ.len, va_Nw.use rfl (C.2.2.2.2.2.2.2.2.1.2.1 _ hN)⟩, hts _ hstt, trivial⟩ ⟨mt_blind G _ M, fun U hU hW => ⟨rfl, env_warm hW hU hV C.2.2.2.2.2.2.2.2, by rw [hU]; exact hS⟩⟩ rfl hn hl.1 hst (lv_room hw) hd ⟨hc, hs⟩) hV fun v M' H1 locs1 hp hS1 hV1 => ?_
  exact kk v M' hp p l e s m args below meth c C H1 locs1 la hS1 hV1 hl
/-- virtual, on an object of that class -/
theorem PW_callV {idx b ci z : Nat} {As : List Value} {st0 : List Value} (hd : decode I.2.1 pc = .ok (.invokevirtual idx, 3)) (hJ : MO J n) (hC : CVi I.1.cls idx J ci) (ht : mt M b = (ci, z)) (hdd : d' < d) (hn : As.length = n) (hst : st0 = As.reverse ++ .ref b :: st) (hw : (st.map fun v => v.category).sum ≤ 8) (hc : nc + J.2.2.2.2.1 ≤ I.2.2.2.2.1) (hs : ns + J.2.2.2.2.2 ≤ I.2.2.2.2.2) (hM : Mt G J d' (.ref b :: As) M Post')
    (kk : ∀ v M', Post' v M' → PW G I d Post (pc + 3) ls (v.toList ++ st) M' (nc + J.2.2.2.2.1) (ns + J.2.2.2.2.2)) : PW G I d Post pc ls st0 M nc ns := by
  intro p l e s m args below meth c C H locs la hS hV hl
  have hts := C.2.2.2.2.2.2.1
  have hr := room_ok (I := I) hJ hdd
  obtain ⟨r, hrc, hci, h1, h2, h3⟩ := hC
  refine run_go (va_runV (Ts := wsG) (C := r.1) (n := n) (As := As) (rest := st) ⟨C.1, C.2.1, C.2.2.1, C.2.2.2.2.2.1, hts⟩ (hM l) ⟨⟨rfl, rfl, hr.1, hr.2, wsM_warm hts hJ.2.1, List.mem_cons_self, hts _ hJ.2.1, hts _ hJ.2.2.1, hJ.2.2.2.1, hJ.len, hts _ h1⟩, hts _ h2, hts _ h3⟩ ⟨mt_blind G _ M, sim_recv C.2.2.2.2.2.2.2.2 hS ht hrc hci, fun U hU hW => ⟨rfl, env_warm hW hU hV C.2.2.2.2.2.2.2.2, by rw [hU]; exact hS⟩⟩ rfl hn hl.1 hst (lv_room hw) hd ⟨hc, hs⟩) hV fun v M' H1 locs1 hp hS1 hV1 => ?_
  exact kk v M' hp p l e s m args below meth c C H1 locs1 la hS1 hV1 hl
/-- virtual, chosen by the object's class -/
theorem PW_callU {idx b ci z : Nat} {x : MethodName} {As : List Value} {st0 : List Value} (hd : decode I.2.1 pc = .ok (.invokevirtual idx, 3)) (hJ : MO J n) (hC : CVu I.1.cls idx x J ci) (ht : mt M b = (ci, z)) (hdd : d' < d) (hn : As.length = n) (hst : st0 = As.reverse ++ .ref b :: st) (hw : (st.map fun v => v.category).sum ≤ 8) (hc : nc + J.2.2.2.2.1 ≤ I.2.2.2.2.1) (hs : ns + J.2.2.2.2.2 ≤ I.2.2.2.2.2) (hM : Mt G J d' (.ref b :: As) M Post')
    (kk : ∀ v M', Post' v M' → PW G I d Post (pc + 3) ls (v.toList ++ st) M' (nc + J.2.2.2.2.1) (ns + J.2.2.2.2.2)) : PW G I d Post pc ls st0 M nc ns := by
  intro p l e s m args below meth c C H locs la hS hV hl
  have hts := C.2.2.2.2.2.2.1
  have hr := room_ok (I := I) hJ hdd
  obtain ⟨r, b0, m0, r0, hrc, hci, h1, h2, h3, h4, h5, h6, h7, h8⟩ := hC
  refine run_go (va_runU (Ts := wsG) (C := r.1) (owner := x.cls) (x := x) (n := n) (As := As) (rest := st) ⟨C.1, C.2.1, C.2.2.1, C.2.2.2.2.2.1, hts⟩ (hM l) ⟨⟨rfl, rfl, hr.1, hr.2, wsM_warm hts hJ.2.1, List.mem_cons_self⟩, hts _ hJ.2.1, hts _ hJ.2.2.1, h7, (by rw [h8]; exact hJ.len), hts _ h1, hts _ h2, va_Decl.of (hts _ h3) (hts _ h6), hts _ h4, hts _ h5⟩ ⟨mt_blind G _ M, sim_recv C.2.2.2.2.2.2.2.2 hS ht hrc hci, fun U hU hW => ⟨rfl, env_warm hW hU hV C.2.2.2.2.2.2.2.2, by rw [hU]; exact hS⟩⟩ rfl hn hl.1 hst (lv_room hw) hd ⟨hc, hs⟩) hV fun v M' H1 locs1 hp hS1 hV1 => ?_
  exact kk v M' hp p l e s m args below meth c C H1 locs1 la hS1 hV1 hl
/-- a constructor -/
theorem PW_callI {idx b : Nat} {As : List Value} {st0 : List Value} (hd : decode I.2.1 pc = .ok (.invokespecial idx, 3)) (hJ : MO J n) (hC : CIn I.1.cls idx J) (hdd : d' < d) (hn : As.length = n) (hst : st0 = As.reverse ++ .ref b :: st) (hw : (st.map fun v => v.category).sum ≤ 8) (hc : nc + J.2.2.2.2.1 ≤ I.2.2.2.2.1) (hs : ns + J.2.2.2.2.2 ≤ I.2.2.2.2.2) (hM : Mt G J d' (.ref b :: As) M Post')
    (kk : ∀ v M', Post' v M' → PW G I d Post (pc + 3) ls (v.toList ++ st) M' (nc + J.2.2.2.2.1) (ns + J.2.2.2.2.2)) : PW G I d Post pc ls st0 M nc ns := by
  intro p l e s m args below meth c C H locs la hS hV hl
  have hts := C.2.2.2.2.2.2.1
  have hr := room_ok (I := I) hJ hdd
  obtain ⟨hini, hret, hin, hlink⟩ := hC
  have hcd := hJ.2.1
  have hwm := wsM_warm (I := J) hts hJ.2.1
  have hMl := hM l
  rw [hret] at hcd
  have hpre : PreS s H (va_Pc (.ref b :: As) (fun U => EnvOk G U ∧ Sim G M U.heap)) (.ref b :: As) := ⟨mt_blind G _ M, fun U hU hW => ⟨rfl, env_warm hW hU hV C.2.2.2.2.2.2.2.2, by rw [hU]; exact hS⟩⟩
  have hmem : Cond.code J.1 J.2.1 J.2.2.1 none ∈ wsM J := by rw [← hret]; exact List.mem_cons_self
  rcases hlink with h | ⟨host, h⟩
  · refine run_go (va_runI (Ts := wsG) (n := n) (As := As) (rest := st) ⟨C.1, C.2.1, C.2.2.1, C.2.2.2.2.2.1, hts⟩ hMl ⟨⟨rfl, rfl, hr.1, hr.2, hwm, hmem, hts _ hcd, hts _ hJ.2.2.1, hJ.2.2.2.1, hJ.len, hts _ h⟩, hini, hts _ hin⟩ hpre rfl hn hl.1 hst (lv_room hw) hd ⟨hc, hs⟩) hV fun v M' H1 locs1 hp hS1 hV1 => ?_
    exact kk v M' hp p l e s m args below meth c C H1 locs1 la hS1 hV1 hl
  · refine run_go (va_runIN (Ts := wsG) (host := host) (n := n) (As := As) (rest := st) ⟨C.1, C.2.1, C.2.2.1, C.2.2.2.2.2.1, hts⟩ hMl ⟨⟨⟨rfl, rfl, hr.1, hr.2, hwm, hmem⟩, hts _ hcd, hts _ hJ.2.2.1, hJ.2.2.2.1, hJ.len, va_Nw.use rfl (C.2.2.2.2.2.2.2.2.1.2.1 _ h)⟩, hini, hts _ hin⟩ hpre rfl hn hl.1 hst (lv_room hw) hd ⟨hc, hs⟩) hV fun v M' H1 locs1 hp hS1 hV1 => ?_
    exact kk v M' hp p l e s m args below meth c C H1 locs1 la hS1 hV1 hl
/-- super's method -/
theorem PW_callSU {idx b ci z : Nat} {As : List Value} {st0 : List Value} (hd : decode I.2.1 pc = .ok (.invokespecial idx, 3)) (hJ : MO J n) (hC : CSu I.1.cls idx J) (hcl : ∃ r : vw_C, vwCl[ci]? = some r ∧ ci < 13) (ht : mt M b = (ci, z)) (hdd : d' < d) (hn : As.length = n) (hst : st0 = As.reverse ++ .ref b :: st) (hw : (st.map fun v => v.category).sum ≤ 8) (hc : nc + J.2.2.2.2.1 ≤ I.2.2.2.2.1) (hs : ns + J.2.2.2.2.2 ≤ I.2.2.2.2.2) (hM : Mt G J d' (.ref b :: As) M Post')
    (kk : ∀ v M', Post' v M' → PW G I d Post (pc + 3) ls (v.toList ++ st) M' (nc + J.2.2.2.2.1) (ns + J.2.2.2.2.2)) : PW G I d Post pc ls st0 M nc ns := by
  intro p l e s m args below meth c C H locs la hS hV hl
  have hts := C.2.2.2.2.2.2.1
  have hr := room_ok (I := I) hJ hdd
  obtain ⟨r, hrc, hci⟩ := hcl
  obtain ⟨h1, h2, h3, h4, h5⟩ := hC
  refine run_go (va_runSU (Ts := wsG) (C := r.1) (n := n) (As := As) (rest := st) ((C.2.2.2.2.2.2.2.2.1.1.1 ci r hrc).2) ⟨C.1, C.2.1, C.2.2.1, C.2.2.2.2.2.1, hts⟩ (hM l) ⟨⟨rfl, rfl, hr.1, hr.2, wsM_warm hts hJ.2.1, List.mem_cons_self⟩, hts _ h1, hts _ h2, hts _ h3, hts _ h4, hts _ hJ.2.2.1, hts _ hJ.2.1, h5, hJ.len⟩ ⟨mt_blind G _ M, sim_recv C.2.2.2.2.2.2.2.2 hS ht hrc hci, fun U hU hW => ⟨rfl, env_warm hW hU hV C.2.2.2.2.2.2.2.2, by rw [hU]; exact hS⟩⟩ rfl hn hl.1 hst (lv_room hw) hd ⟨hc, hs⟩) hV fun v M' H1 locs1 hp hS1 hV1 => ?_
  exact kk v M' hp p l e s m args below meth c C H1 locs1 la hS1 hV1 hl
end PWC
/-- the locals at a method's entry -/
def lent : List Value → List Value
  | [] => []
  | v :: vs => if v.category = 2 then v :: .null :: lent vs else v :: lent vs
theorem lent_args : ∀ (vs : List Value) (i j : Nat) (v : Value), (lent vs)[j]? = some v → v ≠ .null → (i + j, v) ∈ lv_args i vs := by
  intro vs
  induction vs with
  | nil => intro i j v h; simp [lent] at h
  | cons u us ih =>
    intro i j v h hn
    unfold lent at h
    unfold lv_args
    by_cases hc : u.category = 2
    · rw [if_pos hc] at h
      match j, h with
      | 0, h => cases h; exact List.mem_cons_self
      | 1, h => cases h; exact absurd rfl hn
      | j + 2, h =>
        refine List.mem_cons_of_mem _ ?_
        have := ih (i + u.category) j v h hn
        rw [hc] at this ⊢
        rw [show i + (j + 2) = i + 2 + j by omega]
        exact this
    · have hc1 : u.category = 1 := by
        cases u <;> first | rfl | exact absurd rfl hc
      rw [if_neg hc] at h
      match j, h with
      | 0, h => cases h; exact List.mem_cons_self
      | j + 1, h =>
        refine List.mem_cons_of_mem _ ?_
        have := ih (i + u.category) j v h hn
        rw [hc1] at this ⊢
        rw [show i + (j + 1) = i + 1 + j by omega]
        exact this
theorem Mt_of {G : GE} {I : MI} {d n : Nat} {args ls : List Value} {M : Mm} {Post : Option Value → Mm → Prop} (hI : MO I n) (hlen : (lg_sl args).length ≤ I.2.2.1) (hls : ∀ (j : Nat) (v : Value), ls[j]? = some v → v ≠ .null → (lent args)[j]? = some v) (h : PW G I d Post 0 ls [] M 0 0) : Mt G I d args M Post := by
  intro l
  refine Met.ofW (cc := I.2.1) (maxL := I.2.2.1) (ret := I.2.2.2.1) hI.1 rfl ?_
  intro p e s m as below meth c s₁ B hml hv
  obtain ⟨rfl, hE, hS⟩ := hv
  have hts0 := atoms_spec (ws := wsM I) B.pre
  have hts : ∀ w ∈ wsG, w.before args.toArray s = true := fun w hw => hts0 w (List.mem_cons_of_mem _ hw)
  have hown : s.vm.findClass I.1.cls = some m.cls := findClass_of_methodNamed B.named
  have hnm : meth.name = I.1.name := (name_of_methodNamed B.named B.method).1
  have hl := lv_entry args (n := I.2.2.1) hlen
  rw [lg_entry_eq]
  generalize (lg_sl args ++ List.replicate (I.2.2.1 - (lg_sl args).length) Slot.unset).toArray = la at hl ⊢
  refine h p l e s m args.toArray below meth c ⟨B.exec, B.bytes, hml, B.returns, B.notSynchronized, hown, hts, hnm, hE⟩ s.heap [] la hS va_S.rf ⟨hl.1, hl.2.1, fun i v h1 h2 => ?_⟩
  have := lent_args args 0 i v (hls i v h1 h2) h2
  rw [Nat.zero_add] at this
  exact hl.2.2 (i, v) this
theorem Mt_mono {G : GE} {I : MI} {d : Nat} {args : List Value} {M : Mm} {Post Post' : Option Value → Mm → Prop} (h : ∀ v M', Post' v M' → Post v M') (k : Mt G I d args M Post') : Mt G I d args M Post := by
  intro l
  have k1 := k l
  unfold Met at k1 ⊢
  exact MetFree.mono k1 (fun _ _ h => h) (fun _ _ _ _ _ h => h) (fun a st o t _ hq => ⟨⟨by obtain ⟨⟨⟨v, M', h1, h2, h3⟩, h4⟩, h5⟩ := hq; exact ⟨v, M', h1, h _ _ h2, h3⟩, hq.1.2⟩, hq.2⟩)
end
section
/-! ===== printed by gen07.py: classes, fields, methods and calls as the tables have them ===== -/
theorem cok0 : CO 0 RX0 TX0 0 tyX0 := ⟨rfl, rfl, by decide, fun w hw => absurd hw (by simp [u_ws]),
  tyX0_ok, nmX0, fun k hk => absurd hk (Nat.not_lt_zero k)⟩
theorem cok1 : CO 1 RX1 TX1 0 tyX1 := ⟨rfl, rfl, by decide, fun w hw => absurd hw (by simp [u_ws]),
  tyX1_ok, nmX1, fun k hk => absurd hk (Nat.not_lt_zero k)⟩
theorem cok2 : CO 2 RX2 TX2 0 tyX2 := ⟨rfl, rfl, by decide, fun w hw => absurd hw (by simp [u_ws]),
  tyX2_ok, nmX2, fun k hk => absurd hk (Nat.not_lt_zero k)⟩
theorem ly_3_0 : u_lay RX3 TX3 0 ∈ wsG := mgG 244 (by decide +kernel) (by decide +kernel)
theorem ly_3_1 : u_lay RX3 TX3 1 ∈ wsG := mgG 246 (by decide +kernel) (by decide +kernel)
theorem ly_3_2 : u_lay RX3 TX3 2 ∈ wsG := mgG 248 (by decide +kernel) (by decide +kernel)
theorem cok3 : CO 3 RX3 TX3 3 tyX3 := ⟨rfl, rfl, by decide, fun w hw => by
    obtain ⟨k, hk, rfl⟩ := List.mem_map.mp hw
    have hk := List.mem_range.mp hk
    rcases (by omega : k = 0 ∨ k = 1 ∨ k = 2) with rfl | rfl | rfl
    · exact ly_3_0
    · exact ly_3_1
    · exact ly_3_2,
  tyX3_ok, nmX3, fun k hk => by
    rcases (by omega : k = 0 ∨ k = 1 ∨ k = 2) with rfl | rfl | rfl
    · exact Or.inl ⟨_, rfl⟩
    · exact Or.inr ⟨_, rfl⟩
    · exact Or.inr ⟨_, rfl⟩⟩
theorem ly_4_0 : u_lay RX4 TX4 0 ∈ wsG := mgG 177 (by decide +kernel) (by decide +kernel)
theorem ly_4_1 : u_lay RX4 TX4 1 ∈ wsG := mgG 179 (by decide +kernel) (by decide +kernel)
theorem ly_4_2 : u_lay RX4 TX4 2 ∈ wsG := mgG 181 (by decide +kernel) (by decide +kernel)
theorem ly_4_3 : u_lay RX4 TX4 3 ∈ wsG := mgG 183 (by decide +kernel) (by decide +kernel)
theorem ly_4_4 : u_lay RX4 TX4 4 ∈ wsG := mgG 185 (by decide +kernel) (by decide +kernel)
theorem ly_4_5 : u_lay RX4 TX4 5 ∈ wsG := mgG 187 (by decide +kernel) (by decide +kernel)
theorem ly_4_6 : u_lay RX4 TX4 6 ∈ wsG := mgG 189 (by decide +kernel) (by decide +kernel)
theorem ly_4_7 : u_lay RX4 TX4 7 ∈ wsG := mgG 191 (by decide +kernel) (by decide +kernel)
theorem cok4 : CO 4 RX4 TX4 8 tyX4 := ⟨rfl, rfl, by decide, fun w hw => by
    obtain ⟨k, hk, rfl⟩ := List.mem_map.mp hw
    have hk := List.mem_range.mp hk
    rcases (by omega : k = 0 ∨ k = 1 ∨ k = 2 ∨ k = 3 ∨ k = 4 ∨ k = 5 ∨ k = 6 ∨ k = 7) with rfl | rfl | rfl | rfl | rfl | rfl | rfl | rfl
    · exact ly_4_0
    · exact ly_4_1
    · exact ly_4_2
    · exact ly_4_3
    · exact ly_4_4
    · exact ly_4_5
    · exact ly_4_6
    · exact ly_4_7,
  tyX4_ok, nmX4, fun k hk => by
    rcases (by omega : k = 0 ∨ k = 1 ∨ k = 2 ∨ k = 3 ∨ k = 4 ∨ k = 5 ∨ k = 6 ∨ k = 7) with rfl | rfl | rfl | rfl | rfl | rfl | rfl | rfl
    · exact Or.inr ⟨_, rfl⟩
    · exact Or.inr ⟨_, rfl⟩
    · exact Or.inr ⟨_, rfl⟩
    · exact Or.inr ⟨_, rfl⟩
    · exact rfl
    · exact rfl
    · exact rfl
    · exact rfl⟩
theorem cok5 : CO 5 RX5 TX5 0 tyX5 := ⟨rfl, rfl, by decide, fun w hw => absurd hw (by simp [u_ws]),
  tyX5_ok, nmX5, fun k hk => absurd hk (Nat.not_lt_zero k)⟩
theorem ly_6_0 : u_lay RX6 TX6 0 ∈ wsG := mgG 268 (by decide +kernel) (by decide +kernel)
theorem ly_6_1 : u_lay RX6 TX6 1 ∈ wsG := mgG 270 (by decide +kernel) (by decide +kernel)
theorem ly_6_2 : u_lay RX6 TX6 2 ∈ wsG := mgG 272 (by decide +kernel) (by decide +kernel)
theorem ly_6_3 : u_lay RX6 TX6 3 ∈ wsG := mgG 274 (by decide +kernel) (by decide +kernel)
theorem ly_6_4 : u_lay RX6 TX6 4 ∈ wsG := mgG 276 (by decide +kernel) (by decide +kernel)
theorem ly_6_5 : u_lay RX6 TX6 5 ∈ wsG := mgG 278 (by decide +kernel) (by decide +kernel)
theorem cok6 : CO 6 RX6 TX6 6 tyX6 := ⟨rfl, rfl, by decide, fun w hw => by
    obtain ⟨k, hk, rfl⟩ := List.mem_map.mp hw
    have hk := List.mem_range.mp hk
    rcases (by omega : k = 0 ∨ k = 1 ∨ k = 2 ∨ k = 3 ∨ k = 4 ∨ k = 5) with rfl | rfl | rfl | rfl | rfl | rfl
    · exact ly_6_0
    · exact ly_6_1
    · exact ly_6_2
    · exact ly_6_3
    · exact ly_6_4
    · exact ly_6_5,
  tyX6_ok, nmX6, fun k hk => by
    rcases (by omega : k = 0 ∨ k = 1 ∨ k = 2 ∨ k = 3 ∨ k = 4 ∨ k = 5) with rfl | rfl | rfl | rfl | rfl | rfl
    · exact Or.inr ⟨_, rfl⟩
    · exact Or.inr ⟨_, rfl⟩
    · exact Or.inr ⟨_, rfl⟩
    · exact rfl
    · exact rfl
    · exact rfl⟩
theorem cok7 : CO 7 RX7 TX7 0 tyX7 := ⟨rfl, rfl, by decide, fun w hw => absurd hw (by simp [u_ws]),
  tyX7_ok, nmX7, fun k hk => absurd hk (Nat.not_lt_zero k)⟩
theorem cok8 : CO 8 RX8 TX8 0 tyX8 := ⟨rfl, rfl, by decide, fun w hw => absurd hw (by simp [u_ws]),
  tyX8_ok, nmX8, fun k hk => absurd hk (Nat.not_lt_zero k)⟩
theorem ly_9_0 : u_lay RX9 TX9 0 ∈ wsG := mgG 296 (by decide +kernel) (by decide +kernel)
theorem ly_9_1 : u_lay RX9 TX9 1 ∈ wsG := mgG 298 (by decide +kernel) (by decide +kernel)
theorem ly_9_2 : u_lay RX9 TX9 2 ∈ wsG := mgG 300 (by decide +kernel) (by decide +kernel)
theorem ly_9_3 : u_lay RX9 TX9 3 ∈ wsG := mgG 302 (by decide +kernel) (by decide +kernel)
theorem ly_9_4 : u_lay RX9 TX9 4 ∈ wsG := mgG 304 (by decide +kernel) (by decide +kernel)
theorem ly_9_5 : u_lay RX9 TX9 5 ∈ wsG := mgG 306 (by decide +kernel) (by decide +kernel)
theorem ly_9_6 : u_lay RX9 TX9 6 ∈ wsG := mgG 308 (by decide +kernel) (by decide +kernel)
theorem cok9 : CO 9 RX9 TX9 7 tyX9 := ⟨rfl, rfl, by decide, fun w hw => by
    obtain ⟨k, hk, rfl⟩ := List.mem_map.mp hw
    have hk := List.mem_range.mp hk
    rcases (by omega : k = 0 ∨ k = 1 ∨ k = 2 ∨ k = 3 ∨ k = 4 ∨ k = 5 ∨ k = 6) with rfl | rfl | rfl | rfl | rfl | rfl | rfl
    · exact ly_9_0
    · exact ly_9_1
    · exact ly_9_2
    · exact ly_9_3
    · exact ly_9_4
    · exact ly_9_5
    · exact ly_9_6,
  tyX9_ok, nmX9, fun k hk => by
    rcases (by omega : k = 0 ∨ k = 1 ∨ k = 2 ∨ k = 3 ∨ k = 4 ∨ k = 5 ∨ k = 6) with rfl | rfl | rfl | rfl | rfl | rfl | rfl
    · exact Or.inr ⟨_, rfl⟩
    · exact rfl
    · exact rfl
    · exact rfl
    · exact rfl
    · exact rfl
    · exact rfl⟩
theorem ly_10_0 : u_lay RX10 TX10 0 ∈ wsG := mgG 211 (by decide +kernel) (by decide +kernel)
theorem ly_10_1 : u_lay RX10 TX10 1 ∈ wsG := mgG 213 (by decide +kernel) (by decide +kernel)
theorem ly_10_2 : u_lay RX10 TX10 2 ∈ wsG := mgG 215 (by decide +kernel) (by decide +kernel)
theorem ly_10_3 : u_lay RX10 TX10 3 ∈ wsG := mgG 217 (by decide +kernel) (by decide +kernel)
theorem ly_10_4 : u_lay RX10 TX10 4 ∈ wsG := mgG 219 (by decide +kernel) (by decide +kernel)
theorem ly_10_5 : u_lay RX10 TX10 5 ∈ wsG := mgG 221 (by decide +kernel) (by decide +kernel)
theorem ly_10_6 : u_lay RX10 TX10 6 ∈ wsG := mgG 223 (by decide +kernel) (by decide +kernel)
theorem ly_10_7 : u_lay RX10 TX10 7 ∈ wsG := mgG 225 (by decide +kernel) (by decide +kernel)
theorem cok10 : CO 10 RX10 TX10 8 tyX10 := ⟨rfl, rfl, by decide, fun w hw => by
    obtain ⟨k, hk, rfl⟩ := List.mem_map.mp hw
    have hk := List.mem_range.mp hk
    rcases (by omega : k = 0 ∨ k = 1 ∨ k = 2 ∨ k = 3 ∨ k = 4 ∨ k = 5 ∨ k = 6 ∨ k = 7) with rfl | rfl | rfl | rfl | rfl | rfl | rfl | rfl
    · exact ly_10_0
    · exact ly_10_1
    · exact ly_10_2
    · exact ly_10_3
    · exact ly_10_4
    · exact ly_10_5
    · exact ly_10_6
    · exact ly_10_7,
  tyX10_ok, nmX10, fun k hk => by
    rcases (by omega : k = 0 ∨ k = 1 ∨ k = 2 ∨ k = 3 ∨ k = 4 ∨ k = 5 ∨ k = 6 ∨ k = 7) with rfl | rfl | rfl | rfl | rfl | rfl | rfl | rfl
    · exact Or.inl ⟨_, rfl⟩
    · exact Or.inr ⟨_, rfl⟩
    · exact Or.inr ⟨_, rfl⟩
    · exact Or.inr ⟨_, rfl⟩
    · exact Or.inr ⟨_, rfl⟩
    · exact rfl
    · exact rfl
    · exact rfl⟩
theorem ly_11_0 : u_lay RX11 TX11 0 ∈ wsG := mgG 324 (by decide +kernel) (by decide +kernel)
theorem ly_11_1 : u_lay RX11 TX11 1 ∈ wsG := mgG 326 (by decide +kernel) (by decide +kernel)
theorem ly_11_2 : u_lay RX11 TX11 2 ∈ wsG := mgG 328 (by decide +kernel) (by decide +kernel)
theorem ly_11_3 : u_lay RX11 TX11 3 ∈ wsG := mgG 330 (by decide +kernel) (by decide +kernel)
theorem ly_11_4 : u_lay RX11 TX11 4 ∈ wsG := mgG 332 (by decide +kernel) (by decide +kernel)
theorem ly_11_5 : u_lay RX11 TX11 5 ∈ wsG := mgG 334 (by decide +kernel) (by decide +kernel)
theorem ly_11_6 : u_lay RX11 TX11 6 ∈ wsG := mgG 336 (by decide +kernel) (by decide +kernel)
theorem ly_11_7 : u_lay RX11 TX11 7 ∈ wsG := mgG 338 (by decide +kernel) (by decide +kernel)
theorem ly_11_8 : u_lay RX11 TX11 8 ∈ wsG := mgG 340 (by decide +kernel) (by decide +kernel)
theorem ly_11_9 : u_lay RX11 TX11 9 ∈ wsG := mgG 342 (by decide +kernel) (by decide +kernel)
theorem ly_11_10 : u_lay RX11 TX11 10 ∈ wsG := mgG 344 (by decide +kernel) (by decide +kernel)
theorem ly_11_11 : u_lay RX11 TX11 11 ∈ wsG := mgG 346 (by decide +kernel) (by decide +kernel)
theorem ly_11_12 : u_lay RX11 TX11 12 ∈ wsG := mgG 348 (by decide +kernel) (by decide +kernel)
theorem cok11 : CO 11 RX11 TX11 13 tyX11 := ⟨rfl, rfl, by decide, fun w hw => by
    obtain ⟨k, hk, rfl⟩ := List.mem_map.mp hw
    have hk := List.mem_range.mp hk
    rcases (by omega : k = 0 ∨ k = 1 ∨ k = 2 ∨ k = 3 ∨ k = 4 ∨ k = 5 ∨ k = 6 ∨ k = 7 ∨ k = 8 ∨ k = 9 ∨ k = 10 ∨ k = 11 ∨ k = 12) with rfl | rfl | rfl | rfl | rfl | rfl | rfl | rfl | rfl | rfl | rfl | rfl | rfl
    · exact ly_11_0
    · exact ly_11_1
    · exact ly_11_2
    · exact ly_11_3
    · exact ly_11_4
    · exact ly_11_5
    · exact ly_11_6
    · exact ly_11_7
    · exact ly_11_8
    · exact ly_11_9
    · exact ly_11_10
    · exact ly_11_11
    · exact ly_11_12,
  tyX11_ok, nmX11, fun k hk => by
    rcases (by omega : k = 0 ∨ k = 1 ∨ k = 2 ∨ k = 3 ∨ k = 4 ∨ k = 5 ∨ k = 6 ∨ k = 7 ∨ k = 8 ∨ k = 9 ∨ k = 10 ∨ k = 11 ∨ k = 12) with rfl | rfl | rfl | rfl | rfl | rfl | rfl | rfl | rfl | rfl | rfl | rfl | rfl
    · exact Or.inl ⟨_, rfl⟩
    · exact Or.inl ⟨_, rfl⟩
    · exact Or.inr ⟨_, rfl⟩
    · exact Or.inr ⟨_, rfl⟩
    · exact Or.inl ⟨_, rfl⟩
    · exact Or.inl ⟨_, rfl⟩
    · exact Or.inl ⟨_, rfl⟩
    · exact Or.inl ⟨_, rfl⟩
    · exact rfl
    · exact rfl
    · exact rfl
    · exact rfl
    · exact rfl⟩
theorem ly_12_0 : u_lay RX12 TX12 0 ∈ wsG := mgG 869 (by decide +kernel) (by decide +kernel)
theorem ly_12_1 : u_lay RX12 TX12 1 ∈ wsG := mgG 871 (by decide +kernel) (by decide +kernel)
theorem ly_12_2 : u_lay RX12 TX12 2 ∈ wsG := mgG 873 (by decide +kernel) (by decide +kernel)
theorem ly_12_3 : u_lay RX12 TX12 3 ∈ wsG := mgG 875 (by decide +kernel) (by decide +kernel)
theorem ly_12_4 : u_lay RX12 TX12 4 ∈ wsG := mgG 877 (by decide +kernel) (by decide +kernel)
theorem ly_12_5 : u_lay RX12 TX12 5 ∈ wsG := mgG 879 (by decide +kernel) (by decide +kernel)
theorem ly_12_6 : u_lay RX12 TX12 6 ∈ wsG := mgG 881 (by decide +kernel) (by decide +kernel)
theorem ly_12_7 : u_lay RX12 TX12 7 ∈ wsG := mgG 883 (by decide +kernel) (by decide +kernel)
theorem ly_12_8 : u_lay RX12 TX12 8 ∈ wsG := mgG 885 (by decide +kernel) (by decide +kernel)
theorem ly_12_9 : u_lay RX12 TX12 9 ∈ wsG := mgG 887 (by decide +kernel) (by decide +kernel)
theorem ly_12_10 : u_lay RX12 TX12 10 ∈ wsG := mgG 889 (by decide +kernel) (by decide +kernel)
theorem ly_12_11 : u_lay RX12 TX12 11 ∈ wsG := mgG 891 (by decide +kernel) (by decide +kernel)
theorem ly_12_12 : u_lay RX12 TX12 12 ∈ wsG := mgG 893 (by decide +kernel) (by decide +kernel)
theorem ly_12_13 : u_lay RX12 TX12 13 ∈ wsG := mgG 895 (by decide +kernel) (by decide +kernel)
theorem ly_12_14 : u_lay RX12 TX12 14 ∈ wsG := mgG 897 (by decide +kernel) (by decide +kernel)
theorem ly_12_15 : u_lay RX12 TX12 15 ∈ wsG := mgG 899 (by decide +kernel) (by decide +kernel)
theorem ly_12_16 : u_lay RX12 TX12 16 ∈ wsG := mgG 901 (by decide +kernel) (by decide +kernel)
theorem ly_12_17 : u_lay RX12 TX12 17 ∈ wsG := mgG 903 (by decide +kernel) (by decide +kernel)
theorem ly_12_18 : u_lay RX12 TX12 18 ∈ wsG := mgG 905 (by decide +kernel) (by decide +kernel)
theorem ly_12_19 : u_lay RX12 TX12 19 ∈ wsG := mgG 907 (by decide +kernel) (by decide +kernel)
theorem ly_12_20 : u_lay RX12 TX12 20 ∈ wsG := mgG 909 (by decide +kernel) (by decide +kernel)
theorem ly_12_21 : u_lay RX12 TX12 21 ∈ wsG := mgG 911 (by decide +kernel) (by decide +kernel)
theorem ly_12_22 : u_lay RX12 TX12 22 ∈ wsG := mgG 913 (by decide +kernel) (by decide +kernel)
theorem ly_12_23 : u_lay RX12 TX12 23 ∈ wsG := mgG 915 (by decide +kernel) (by decide +kernel)
theorem ly_12_24 : u_lay RX12 TX12 24 ∈ wsG := mgG 917 (by decide +kernel) (by decide +kernel)
theorem ly_12_25 : u_lay RX12 TX12 25 ∈ wsG := mgG 919 (by decide +kernel) (by decide +kernel)
theorem ly_12_26 : u_lay RX12 TX12 26 ∈ wsG := mgG 921 (by decide +kernel) (by decide +kernel)
theorem ly_12_27 : u_lay RX12 TX12 27 ∈ wsG := mgG 923 (by decide +kernel) (by decide +kernel)
theorem ly_12_28 : u_lay RX12 TX12 28 ∈ wsG := mgG 925 (by decide +kernel) (by decide +kernel)
theorem ly_12_29 : u_lay RX12 TX12 29 ∈ wsG := mgG 927 (by decide +kernel) (by decide +kernel)
theorem ly_12_30 : u_lay RX12 TX12 30 ∈ wsG := mgG 929 (by decide +kernel) (by decide +kernel)
theorem ly_12_31 : u_lay RX12 TX12 31 ∈ wsG := mgG 931 (by decide +kernel) (by decide +kernel)
theorem ly_12_32 : u_lay RX12 TX12 32 ∈ wsG := mgG 933 (by decide +kernel) (by decide +kernel)
theorem cok12 : CO 12 RX12 TX12 33 tyX12 := ⟨rfl, rfl, by decide, fun w hw => by
    obtain ⟨k, hk, rfl⟩ := List.mem_map.mp hw
    have hk := List.mem_range.mp hk
    rcases (by omega : k = 0 ∨ k = 1 ∨ k = 2 ∨ k = 3 ∨ k = 4 ∨ k = 5 ∨ k = 6 ∨ k = 7 ∨ k = 8 ∨ k = 9 ∨ k = 10 ∨ k = 11 ∨ k = 12 ∨ k = 13 ∨ k = 14 ∨ k = 15 ∨ k = 16 ∨ k = 17 ∨ k = 18 ∨ k = 19 ∨ k = 20 ∨ k = 21 ∨ k = 22 ∨ k = 23 ∨ k = 24 ∨ k = 25 ∨ k = 26 ∨ k = 27 ∨ k = 28 ∨ k = 29 ∨ k = 30 ∨ k = 31 ∨ k = 32) with rfl | rfl | rfl | rfl | rfl | rfl | rfl | rfl | rfl | rfl | rfl | rfl | rfl | rfl | rfl | rfl | rfl | rfl | rfl | rfl | rfl | rfl | rfl | rfl | rfl | rfl | rfl | rfl | rfl | rfl | rfl | rfl | rfl
    · exact ly_12_0
    · exact ly_12_1
    · exact ly_12_2
    · exact ly_12_3
    · exact ly_12_4
    · exact ly_12_5
    · exact ly_12_6
    · exact ly_12_7
    · exact ly_12_8
    · exact ly_12_9
    · exact ly_12_10
    · exact ly_12_11
    · exact ly_12_12
    · exact ly_12_13
    · exact ly_12_14
    · exact ly_12_15
    · exact ly_12_16
    · exact ly_12_17
    · exact ly_12_18
    · exact ly_12_19
    · exact ly_12_20
    · exact ly_12_21
    · exact ly_12_22
    · exact ly_12_23
    · exact ly_12_24
    · exact ly_12_25
    · exact ly_12_26
    · exact ly_12_27
    · exact ly_12_28
    · exact ly_12_29
    · exact ly_12_30
    · exact ly_12_31
    · exact ly_12_32,
  tyX12_ok, nmX12, fun k hk => by
    rcases (by omega : k = 0 ∨ k = 1 ∨ k = 2 ∨ k = 3 ∨ k = 4 ∨ k = 5 ∨ k = 6 ∨ k = 7 ∨ k = 8 ∨ k = 9 ∨ k = 10 ∨ k = 11 ∨ k = 12 ∨ k = 13 ∨ k = 14 ∨ k = 15 ∨ k = 16 ∨ k = 17 ∨ k = 18 ∨ k = 19 ∨ k = 20 ∨ k = 21 ∨ k = 22 ∨ k = 23 ∨ k = 24 ∨ k = 25 ∨ k = 26 ∨ k = 27 ∨ k = 28 ∨ k = 29 ∨ k = 30 ∨ k = 31 ∨ k = 32) with rfl | rfl | rfl | rfl | rfl | rfl | rfl | rfl | rfl | rfl | rfl | rfl | rfl | rfl | rfl | rfl | rfl | rfl | rfl | rfl | rfl | rfl | rfl | rfl | rfl | rfl | rfl | rfl | rfl | rfl | rfl | rfl | rfl
    · exact Or.inr ⟨_, rfl⟩
    · exact rfl
    · exact rfl
    · exact rfl
    · exact rfl
    · exact rfl
    · exact Or.inr ⟨_, rfl⟩
    · exact Or.inr ⟨_, rfl⟩
    · exact Or.inr ⟨_, rfl⟩
    · exact Or.inr ⟨_, rfl⟩
    · exact Or.inr ⟨_, rfl⟩
    · exact Or.inr ⟨_, rfl⟩
    · exact Or.inr ⟨_, rfl⟩
    · exact Or.inr ⟨_, rfl⟩
    · exact rfl
    · exact rfl
    · exact rfl
    · exact rfl
    · exact Or.inr ⟨_, rfl⟩
    · exact Or.inr ⟨_, rfl⟩
    · exact rfl
    · exact Or.inr ⟨_, rfl⟩
    · exact rfl
    · exact Or.inr ⟨_, rfl⟩
    · exact Or.inr ⟨_, rfl⟩
    · exact Or.inr ⟨_, rfl⟩
    · exact Or.inr ⟨_, rfl⟩
    · exact Or.inr ⟨_, rfl⟩
    · exact rfl
    · exact rfl
    · exact Or.inr ⟨_, rfl⟩
    · exact Or.inr ⟨_, rfl⟩
    · exact rfl⟩
def iX0_init : MI := (yX0_init, cX0_init, 1, none, 0, 0)
theorem moX0_init : MO iX0_init 0 := ⟨by decide +kernel, mgG 134 (by decide +kernel) rfl, mgG 72 (by decide +kernel) rfl, ⟨by decide +kernel, by decide +kernel⟩, by decide +kernel, by decide⟩
def iX0_sleepy : MI := (yX0_sleepy, cX0_sleepy, 4, some .int, 0, 0)
theorem moX0_sleepy : MO iX0_sleepy 3 := ⟨by decide +kernel, mgG 578 (by decide +kernel) rfl, mgG 72 (by decide +kernel) rfl, ⟨by decide +kernel, by decide +kernel⟩, by decide +kernel, by decide⟩
def iX0_tires : MI := (yX0_tires, cX0_tires, 1, some .int, 0, 0)
theorem moX0_tires : MO iX0_tires 0 := ⟨by decide +kernel, mgG 610 (by decide +kernel) rfl, mgG 72 (by decide +kernel) rfl, ⟨by decide +kernel, by decide +kernel⟩, by decide +kernel, by decide⟩
def iX1_init : MI := (yX1_init, cX1_init, 1, none, 0, 0)
theorem moX1_init : MO iX1_init 0 := ⟨by decide +kernel, mgG 106 (by decide +kernel) rfl, mgG 68 (by decide +kernel) rfl, ⟨by decide +kernel, by decide +kernel⟩, by decide +kernel, by decide⟩
def iX1_sleepy : MI := (yX1_sleepy, cX1_sleepy, 5, some .int, 0, 0)
theorem moX1_sleepy : MO iX1_sleepy 3 := ⟨by decide +kernel, mgG 581 (by decide +kernel) rfl, mgG 68 (by decide +kernel) rfl, ⟨by decide +kernel, by decide +kernel⟩, by decide +kernel, by decide⟩
def iX2_init : MI := (yX2_init, cX2_init, 1, none, 0, 0)
theorem moX2_init : MO iX2_init 0 := ⟨by decide +kernel, mgG 120 (by decide +kernel) rfl, mgG 70 (by decide +kernel) rfl, ⟨by decide +kernel, by decide +kernel⟩, by decide +kernel, by decide⟩
def iX2_sleepy : MI := (yX2_sleepy, cX2_sleepy, 5, some .int, 0, 0)
theorem moX2_sleepy : MO iX2_sleepy 3 := ⟨by decide +kernel, mgG 588 (by decide +kernel) rfl, mgG 70 (by decide +kernel) rfl, ⟨by decide +kernel, by decide +kernel⟩, by decide +kernel, by decide⟩
def iX3_init : MI := (yX3_init, cX3_init, 2, none, 6, 148)
theorem moX3_init : MO iX3_init 1 := ⟨by decide +kernel, mgG 235 (by decide +kernel) rfl, mgG 75 (by decide +kernel) rfl, ⟨by decide +kernel, by decide +kernel⟩, by decide +kernel, by decide⟩
def iX3_run : MI := (yX3_run, cX3_run, 4, none, 0, 0)
theorem moX3_run : MO iX3_run 2 := ⟨by decide +kernel, mgG 647 (by decide +kernel) rfl, mgG 75 (by decide +kernel) rfl, ⟨by decide +kernel, by decide +kernel⟩, by decide +kernel, by decide⟩
def iX3_timesSteered : MI := (yX3_timesSteered, cX3_timesSteered, 5, some .int, 0, 0)
theorem moX3_timesSteered : MO iX3_timesSteered 2 := ⟨by decide +kernel, mgG 731 (by decide +kernel) rfl, mgG 75 (by decide +kernel) rfl, ⟨by decide +kernel, by decide +kernel⟩, by decide +kernel, by decide⟩
def iX4_init : MI := (yX4_init, cX4_init, 2, none, 3, 18)
theorem moX4_init : MO iX4_init 1 := ⟨by decide +kernel, mgG 148 (by decide +kernel) rfl, mgG 74 (by decide +kernel) rfl, ⟨by decide +kernel, by decide +kernel⟩, by decide +kernel, by decide⟩
def iX4_begin : MI := (yX4_begin, cX4_begin, 1, none, 0, 0)
theorem moX4_begin : MO iX4_begin 0 := ⟨by decide +kernel, mgG 362 (by decide +kernel) rfl, mgG 74 (by decide +kernel) rfl, ⟨by decide +kernel, by decide +kernel⟩, by decide +kernel, by decide⟩
def iX4_take : MI := (yX4_take, cX4_take, 2, none, 0, 0)
theorem moX4_take : MO iX4_take 1 := ⟨by decide +kernel, mgG 538 (by decide +kernel) rfl, mgG 74 (by decide +kernel) rfl, ⟨by decide +kernel, by decide +kernel⟩, by decide +kernel, by decide⟩
def iX4_sleepiness : MI := (yX4_sleepiness, cX4_sleepiness, 3, some .int, 0, 0)
theorem moX4_sleepiness : MO iX4_sleepiness 2 := ⟨by decide +kernel, mgG 571 (by decide +kernel) rfl, mgG 74 (by decide +kernel) rfl, ⟨by decide +kernel, by decide +kernel⟩, by decide +kernel, by decide⟩
def iX4_steerer : MI := (yX4_steerer, cX4_steerer, 6, some .int, 0, 0)
theorem moX4_steerer : MO iX4_steerer 1 := ⟨by decide +kernel, mgG 566 (by decide +kernel) rfl, mgG 74 (by decide +kernel) rfl, ⟨by decide +kernel, by decide +kernel⟩, by decide +kernel, by decide⟩
def iX4_go : MI := (yX4_go, cX4_go, 3, none, 0, 0)
theorem moX4_go : MO iX4_go 1 := ⟨by decide +kernel, mgG 602 (by decide +kernel) rfl, mgG 74 (by decide +kernel) rfl, ⟨by decide +kernel, by decide +kernel⟩, by decide +kernel, by decide⟩
def iX4_canSteer : MI := (yX4_canSteer, cX4_canSteer, 6, some .boolean, 0, 0)
theorem moX4_canSteer : MO iX4_canSteer 1 := ⟨by decide +kernel, mgG 687 (by decide +kernel) rfl, mgG 74 (by decide +kernel) rfl, ⟨by decide +kernel, by decide +kernel⟩, by decide +kernel, by decide⟩
def iX4_chances : MI := (yX4_chances, cX4_chances, 3, some .int, 0, 0)
theorem moX4_chances : MO iX4_chances 2 := ⟨by decide +kernel, mgG 768 (by decide +kernel) rfl, mgG 74 (by decide +kernel) rfl, ⟨by decide +kernel, by decide +kernel⟩, by decide +kernel, by decide⟩
def iX4_chancesOfOthers : MI := (yX4_chancesOfOthers, cX4_chancesOfOthers, 8, some .int, 0, 0)
theorem moX4_chancesOfOthers : MO iX4_chancesOfOthers 3 := ⟨by decide +kernel, mgG 772 (by decide +kernel) rfl, mgG 74 (by decide +kernel) rfl, ⟨by decide +kernel, by decide +kernel⟩, by decide +kernel, by decide⟩
def iX4_staysBehind : MI := (yX4_staysBehind, cX4_staysBehind, 4, some .boolean, 0, 0)
theorem moX4_staysBehind : MO iX4_staysBehind 4 := ⟨by decide +kernel, mgG 690 (by decide +kernel) rfl, mgG 74 (by decide +kernel) rfl, ⟨by decide +kernel, by decide +kernel⟩, by decide +kernel, by decide⟩
def iX4_pairRests : MI := (yX4_pairRests, cX4_pairRests, 7, some .boolean, 0, 0)
theorem moX4_pairRests : MO iX4_pairRests 3 := ⟨by decide +kernel, mgG 698 (by decide +kernel) rfl, mgG 74 (by decide +kernel) rfl, ⟨by decide +kernel, by decide +kernel⟩, by decide +kernel, by decide⟩
def iX4_steererByPair : MI := (yX4_steererByPair, cX4_steererByPair, 5, some .int, 0, 0)
theorem moX4_steererByPair : MO iX4_steererByPair 3 := ⟨by decide +kernel, mgG 702 (by decide +kernel) rfl, mgG 74 (by decide +kernel) rfl, ⟨by decide +kernel, by decide +kernel⟩, by decide +kernel, by decide⟩
def iX5_init : MI := (yX5_init, cX5_init, 1, none, 0, 0)
theorem moX5_init : MO iX5_init 0 := ⟨by decide +kernel, mgG 127 (by decide +kernel) rfl, mgG 71 (by decide +kernel) rfl, ⟨by decide +kernel, by decide +kernel⟩, by decide +kernel, by decide⟩
def iX5_sleepy : MI := (yX5_sleepy, cX5_sleepy, 5, some .int, 0, 0)
theorem moX5_sleepy : MO iX5_sleepy 3 := ⟨by decide +kernel, mgG 592 (by decide +kernel) rfl, mgG 71 (by decide +kernel) rfl, ⟨by decide +kernel, by decide +kernel⟩, by decide +kernel, by decide⟩
def iX6_init : MI := (yX6_init, cX6_init, 3, none, 23, 143)
theorem moX6_init : MO iX6_init 1 := ⟨by decide +kernel, mgG 256 (by decide +kernel) rfl, mgG 76 (by decide +kernel) rfl, ⟨by decide +kernel, by decide +kernel⟩, by decide +kernel, by decide⟩
def iX6_seek : MI := (yX6_seek, cX6_seek, 4, some .boolean, 0, 0)
theorem moX6_seek : MO iX6_seek 3 := ⟨by decide +kernel, mgG 662 (by decide +kernel) rfl, mgG 76 (by decide +kernel) rfl, ⟨by decide +kernel, by decide +kernel⟩, by decide +kernel, by decide⟩
def iX6_serve : MI := (yX6_serve, cX6_serve, 7, none, 0, 0)
theorem moX6_serve : MO iX6_serve 2 := ⟨by decide +kernel, mgG 668 (by decide +kernel) rfl, mgG 76 (by decide +kernel) rfl, ⟨by decide +kernel, by decide +kernel⟩, by decide +kernel, by decide⟩
def iX6_goOn : MI := (yX6_goOn, cX6_goOn, 4, none, 0, 0)
theorem moX6_goOn : MO iX6_goOn 3 := ⟨by decide +kernel, mgG 677 (by decide +kernel) rfl, mgG 76 (by decide +kernel) rfl, ⟨by decide +kernel, by decide +kernel⟩, by decide +kernel, by decide⟩
def iX7_init : MI := (yX7_init, cX7_init, 1, none, 0, 0)
theorem moX7_init : MO iX7_init 0 := ⟨by decide +kernel, mgG 99 (by decide +kernel) rfl, mgG 67 (by decide +kernel) rfl, ⟨by decide +kernel, by decide +kernel⟩, by decide +kernel, by decide⟩
def iX7_sleepy : MI := (yX7_sleepy, cX7_sleepy, 4, some .int, 0, 0)
theorem moX7_sleepy : MO iX7_sleepy 3 := ⟨by decide +kernel, mgG 598 (by decide +kernel) rfl, mgG 67 (by decide +kernel) rfl, ⟨by decide +kernel, by decide +kernel⟩, by decide +kernel, by decide⟩
def iX7_tires : MI := (yX7_tires, cX7_tires, 1, some .int, 0, 0)
theorem moX7_tires : MO iX7_tires 0 := ⟨by decide +kernel, mgG 619 (by decide +kernel) rfl, mgG 67 (by decide +kernel) rfl, ⟨by decide +kernel, by decide +kernel⟩, by decide +kernel, by decide⟩
def iX8_init : MI := (yX8_init, cX8_init, 1, none, 0, 0)
theorem moX8_init : MO iX8_init 0 := ⟨by decide +kernel, mgG 113 (by decide +kernel) rfl, mgG 69 (by decide +kernel) rfl, ⟨by decide +kernel, by decide +kernel⟩, by decide +kernel, by decide⟩
def iX8_sleepy : MI := (yX8_sleepy, cX8_sleepy, 5, some .int, 0, 0)
theorem moX8_sleepy : MO iX8_sleepy 3 := ⟨by decide +kernel, mgG 596 (by decide +kernel) rfl, mgG 69 (by decide +kernel) rfl, ⟨by decide +kernel, by decide +kernel⟩, by decide +kernel, by decide⟩
def iX8_tires : MI := (yX8_tires, cX8_tires, 1, some .int, 0, 0)
theorem moX8_tires : MO iX8_tires 0 := ⟨by decide +kernel, mgG 613 (by decide +kernel) rfl, mgG 69 (by decide +kernel) rfl, ⟨by decide +kernel, by decide +kernel⟩, by decide +kernel, by decide⟩
def iX9_init : MI := (yX9_init, cX9_init, 1, none, 1, 150)
theorem moX9_init : MO iX9_init 0 := ⟨by decide +kernel, mgG 285 (by decide +kernel) rfl, mgG 77 (by decide +kernel) rfl, ⟨by decide +kernel, by decide +kernel⟩, by decide +kernel, by decide⟩
def iX9_append : MI := (yX9_append, cX9_append, 2, none, 0, 0)
theorem moX9_append : MO iX9_append 1 := ⟨by decide +kernel, mgG 411 (by decide +kernel) rfl, mgG 77 (by decide +kernel) rfl, ⟨by decide +kernel, by decide +kernel⟩, by decide +kernel, by decide⟩
def iX9_parse : MI := (yX9_parse, cX9_parse, 3, some .int, 0, 0)
theorem moX9_parse : MO iX9_parse 1 := ⟨by decide +kernel, mgG 423 (by decide +kernel) rfl, mgG 77 (by decide +kernel) rfl, ⟨by decide +kernel, by decide +kernel⟩, by decide +kernel, by decide⟩
def iX9_parseItem : MI := (yX9_parseItem, cX9_parseItem, 2, none, 0, 0)
theorem moX9_parseItem : MO iX9_parseItem 1 := ⟨by decide +kernel, mgG 507 (by decide +kernel) rfl, mgG 77 (by decide +kernel) rfl, ⟨by decide +kernel, by decide +kernel⟩, by decide +kernel, by decide⟩
def iX9_parseRock : MI := (yX9_parseRock, cX9_parseRock, 4, none, 0, 0)
theorem moX9_parseRock : MO iX9_parseRock 2 := ⟨by decide +kernel, mgG 512 (by decide +kernel) rfl, mgG 77 (by decide +kernel) rfl, ⟨by decide +kernel, by decide +kernel⟩, by decide +kernel, by decide⟩
def iX9_parseHand : MI := (yX9_parseHand, cX9_parseHand, 6, none, 0, 0)
theorem moX9_parseHand : MO iX9_parseHand 2 := ⟨by decide +kernel, mgG 524 (by decide +kernel) rfl, mgG 77 (by decide +kernel) rfl, ⟨by decide +kernel, by decide +kernel⟩, by decide +kernel, by decide⟩
def iX9_takeNumberUpTo : MI := (yX9_takeNumberUpTo, cX9_takeNumberUpTo, 3, some .int, 0, 0)
theorem moX9_takeNumberUpTo : MO iX9_takeNumberUpTo 1 := ⟨by decide +kernel, mgG 528 (by decide +kernel) rfl, mgG 77 (by decide +kernel) rfl, ⟨by decide +kernel, by decide +kernel⟩, by decide +kernel, by decide⟩
def iX9_expectStop : MI := (yX9_expectStop, cX9_expectStop, 1, none, 0, 0)
theorem moX9_expectStop : MO iX9_expectStop 0 := ⟨by decide +kernel, mgG 499 (by decide +kernel) rfl, mgG 77 (by decide +kernel) rfl, ⟨by decide +kernel, by decide +kernel⟩, by decide +kernel, by decide⟩
def iX9_fail : MI := (yX9_fail, cX9_fail, 1, none, 0, 0)
theorem moX9_fail : MO iX9_fail 0 := ⟨by decide +kernel, mgG 503 (by decide +kernel) rfl, mgG 77 (by decide +kernel) rfl, ⟨by decide +kernel, by decide +kernel⟩, by decide +kernel, by decide⟩
def iX9_isNumberUpTo : MI := (yX9_isNumberUpTo, cX9_isNumberUpTo, 2, some .boolean, 0, 0)
theorem moX9_isNumberUpTo : MO iX9_isNumberUpTo 1 := ⟨by decide +kernel, mgG 516 (by decide +kernel) rfl, mgG 77 (by decide +kernel) rfl, ⟨by decide +kernel, by decide +kernel⟩, by decide +kernel, by decide⟩
def iX9_isWord : MI := (yX9_isWord, cX9_isWord, 3, some .boolean, 0, 0)
theorem moX9_isWord : MO iX9_isWord 1 := ⟨by decide +kernel, mgG 447 (by decide +kernel) rfl, mgG 77 (by decide +kernel) rfl, ⟨by decide +kernel, by decide +kernel⟩, by decide +kernel, by decide⟩
def iX9_advance : MI := (yX9_advance, cX9_advance, 1, none, 0, 0)
theorem moX9_advance : MO iX9_advance 0 := ⟨by decide +kernel, mgG 428 (by decide +kernel) rfl, mgG 77 (by decide +kernel) rfl, ⟨by decide +kernel, by decide +kernel⟩, by decide +kernel, by decide⟩
def iX9_advanceOverWord : MI := (yX9_advanceOverWord, cX9_advanceOverWord, 1, none, 0, 0)
theorem moX9_advanceOverWord : MO iX9_advanceOverWord 0 := ⟨by decide +kernel, mgG 435 (by decide +kernel) rfl, mgG 77 (by decide +kernel) rfl, ⟨by decide +kernel, by decide +kernel⟩, by decide +kernel, by decide⟩
def iX9_advanceOverNumber : MI := (yX9_advanceOverNumber, cX9_advanceOverNumber, 1, none, 0, 0)
theorem moX9_advanceOverNumber : MO iX9_advanceOverNumber 0 := ⟨by decide +kernel, mgG 442 (by decide +kernel) rfl, mgG 77 (by decide +kernel) rfl, ⟨by decide +kernel, by decide +kernel⟩, by decide +kernel, by decide⟩
def iX9_isLetter : MI := (yX9_isLetter, cX9_isLetter, 1, some .boolean, 0, 0)
theorem moX9_isLetter : MO iX9_isLetter 1 := ⟨by decide +kernel, mgG 431 (by decide +kernel) rfl, mgG 77 (by decide +kernel) rfl, ⟨by decide +kernel, by decide +kernel⟩, by decide +kernel, by decide⟩
def iX9_isFigure : MI := (yX9_isFigure, cX9_isFigure, 1, some .boolean, 0, 0)
theorem moX9_isFigure : MO iX9_isFigure 1 := ⟨by decide +kernel, mgG 438 (by decide +kernel) rfl, mgG 77 (by decide +kernel) rfl, ⟨by decide +kernel, by decide +kernel⟩, by decide +kernel, by decide⟩
def iX10_init : MI := (yX10_init, cX10_init, 3, none, 40, 260)
theorem moX10_init : MO iX10_init 1 := ⟨by decide +kernel, mgG 141 (by decide +kernel) rfl, mgG 73 (by decide +kernel) rfl, ⟨by decide +kernel, by decide +kernel⟩, by decide +kernel, by decide⟩
def iX10_begin : MI := (yX10_begin, cX10_begin, 1, none, 0, 0)
theorem moX10_begin : MO iX10_begin 0 := ⟨by decide +kernel, mgG 358 (by decide +kernel) rfl, mgG 73 (by decide +kernel) rfl, ⟨by decide +kernel, by decide +kernel⟩, by decide +kernel, by decide⟩
def iX10_take : MI := (yX10_take, cX10_take, 3, none, 0, 0)
theorem moX10_take : MO iX10_take 1 := ⟨by decide +kernel, mgG 534 (by decide +kernel) rfl, mgG 73 (by decide +kernel) rfl, ⟨by decide +kernel, by decide +kernel⟩, by decide +kernel, by decide⟩
def iX10_isRock : MI := (yX10_isRock, cX10_isRock, 3, some .boolean, 0, 0)
theorem moX10_isRock : MO iX10_isRock 1 := ⟨by decide +kernel, mgG 380 (by decide +kernel) rfl, mgG 73 (by decide +kernel) rfl, ⟨by decide +kernel, by decide +kernel⟩, by decide +kernel, by decide⟩
def iX10_addRock : MI := (yX10_addRock, cX10_addRock, 2, none, 0, 0)
theorem moX10_addRock : MO iX10_addRock 1 := ⟨by decide +kernel, mgG 392 (by decide +kernel) rfl, mgG 73 (by decide +kernel) rfl, ⟨by decide +kernel, by decide +kernel⟩, by decide +kernel, by decide⟩
def iX10_addHand : MI := (yX10_addHand, cX10_addHand, 5, none, 0, 0)
theorem moX10_addHand : MO iX10_addHand 3 := ⟨by decide +kernel, mgG 403 (by decide +kernel) rfl, mgG 73 (by decide +kernel) rfl, ⟨by decide +kernel, by decide +kernel⟩, by decide +kernel, by decide⟩
def iX10_addSight : MI := (yX10_addSight, cX10_addSight, 3, none, 0, 0)
theorem moX10_addSight : MO iX10_addSight 2 := ⟨by decide +kernel, mgG 711 (by decide +kernel) rfl, mgG 73 (by decide +kernel) rfl, ⟨by decide +kernel, by decide +kernel⟩, by decide +kernel, by decide⟩
def iX10_remember : MI := (yX10_remember, cX10_remember, 3, none, 0, 0)
theorem moX10_remember : MO iX10_remember 0 := ⟨by decide +kernel, mgG 558 (by decide +kernel) rfl, mgG 73 (by decide +kernel) rfl, ⟨by decide +kernel, by decide +kernel⟩, by decide +kernel, by decide⟩
def iX10_goBack : MI := (yX10_goBack, cX10_goBack, 1, some .boolean, 0, 0)
theorem moX10_goBack : MO iX10_goBack 0 := ⟨by decide +kernel, mgG 630 (by decide +kernel) rfl, mgG 73 (by decide +kernel) rfl, ⟨by decide +kernel, by decide +kernel⟩, by decide +kernel, by decide⟩
def iX10_digestOnto : MI := (yX10_digestOnto, cX10_digestOnto, 6, some .long, 0, 0)
theorem moX10_digestOnto : MO iX10_digestOnto 1 := ⟨by decide +kernel, mgG 823 (by decide +kernel) rfl, mgG 73 (by decide +kernel) rfl, ⟨by decide +kernel, by decide +kernel⟩, by decide +kernel, by decide⟩
def iX11_init : MI := (yX11_init, cX11_init, 3, none, 210, 1565)
theorem moX11_init : MO iX11_init 0 := ⟨by decide +kernel, mgG 90 (by decide +kernel) rfl, mgG 66 (by decide +kernel) rfl, ⟨by decide +kernel, by decide +kernel⟩, by decide +kernel, by decide⟩
def iX11_ship : MI := (yX11_ship, cX11_ship, 2, some .int, 0, 0)
theorem moX11_ship : MO iX11_ship 0 := ⟨by decide +kernel, mgG 354 (by decide +kernel) rfl, mgG 66 (by decide +kernel) rfl, ⟨by decide +kernel, by decide +kernel⟩, by decide +kernel, by decide⟩
def iX11_rock : MI := (yX11_rock, cX11_rock, 2, some .int, 0, 0)
theorem moX11_rock : MO iX11_rock 1 := ⟨by decide +kernel, mgG 366 (by decide +kernel) rfl, mgG 66 (by decide +kernel) rfl, ⟨by decide +kernel, by decide +kernel⟩, by decide +kernel, by decide⟩
def iX11_hand : MI := (yX11_hand, cX11_hand, 4, some .int, 0, 0)
theorem moX11_hand : MO iX11_hand 3 := ⟨by decide +kernel, mgG 396 (by decide +kernel) rfl, mgG 66 (by decide +kernel) rfl, ⟨by decide +kernel, by decide +kernel⟩, by decide +kernel, by decide⟩
def iX11_type : MI := (yX11_type, cX11_type, 2, some .int, 0, 0)
theorem moX11_type : MO iX11_type 1 := ⟨by decide +kernel, mgG 407 (by decide +kernel) rfl, mgG 66 (by decide +kernel) rfl, ⟨by decide +kernel, by decide +kernel⟩, by decide +kernel, by decide⟩
def iX11_clear : MI := (yX11_clear, cX11_clear, 2, some .int, 0, 0)
theorem moX11_clear : MO iX11_clear 0 := ⟨by decide +kernel, mgG 415 (by decide +kernel) rfl, mgG 66 (by decide +kernel) rfl, ⟨by decide +kernel, by decide +kernel⟩, by decide +kernel, by decide⟩
def iX11_read : MI := (yX11_read, cX11_read, 2, some .int, 0, 0)
theorem moX11_read : MO iX11_read 0 := ⟨by decide +kernel, mgG 419 (by decide +kernel) rfl, mgG 66 (by decide +kernel) rfl, ⟨by decide +kernel, by decide +kernel⟩, by decide +kernel, by decide⟩
def iX11_feed : MI := (yX11_feed, cX11_feed, 2, some .int, 0, 0)
theorem moX11_feed : MO iX11_feed 1 := ⟨by decide +kernel, mgG 547 (by decide +kernel) rfl, mgG 66 (by decide +kernel) rfl, ⟨by decide +kernel, by decide +kernel⟩, by decide +kernel, by decide⟩
def iX11_watch : MI := (yX11_watch, cX11_watch, 2, some .int, 0, 0)
theorem moX11_watch : MO iX11_watch 0 := ⟨by decide +kernel, mgG 562 (by decide +kernel) rfl, mgG 66 (by decide +kernel) rfl, ⟨by decide +kernel, by decide +kernel⟩, by decide +kernel, by decide⟩
def iX11_undo : MI := (yX11_undo, cX11_undo, 1, some .int, 0, 0)
theorem moX11_undo : MO iX11_undo 0 := ⟨by decide +kernel, mgG 626 (by decide +kernel) rfl, mgG 66 (by decide +kernel) rfl, ⟨by decide +kernel, by decide +kernel⟩, by decide +kernel, by decide⟩
def iX11_of : MI := (yX11_of, cX11_of, 4, some .int, 0, 0)
theorem moX11_of : MO iX11_of 2 := ⟨by decide +kernel, mgG 634 (by decide +kernel) rfl, mgG 66 (by decide +kernel) rfl, ⟨by decide +kernel, by decide +kernel⟩, by decide +kernel, by decide⟩
def iX11_now : MI := (yX11_now, cX11_now, 3, some .int, 0, 0)
theorem moX11_now : MO iX11_now 1 := ⟨by decide +kernel, mgG 639 (by decide +kernel) rfl, mgG 66 (by decide +kernel) rfl, ⟨by decide +kernel, by decide +kernel⟩, by decide +kernel, by decide⟩
def iX11_then : MI := (yX11_then, cX11_then, 3, some .int, 0, 0)
theorem moX11_then : MO iX11_then 2 := ⟨by decide +kernel, mgG 643 (by decide +kernel) rfl, mgG 66 (by decide +kernel) rfl, ⟨by decide +kernel, by decide +kernel⟩, by decide +kernel, by decide⟩
def iX11_strikes : MI := (yX11_strikes, cX11_strikes, 2, some .int, 0, 0)
theorem moX11_strikes : MO iX11_strikes 0 := ⟨by decide +kernel, mgG 654 (by decide +kernel) rfl, mgG 66 (by decide +kernel) rfl, ⟨by decide +kernel, by decide +kernel⟩, by decide +kernel, by decide⟩
def iX11_peas : MI := (yX11_peas, cX11_peas, 4, some .int, 0, 0)
theorem moX11_peas : MO iX11_peas 3 := ⟨by decide +kernel, mgG 658 (by decide +kernel) rfl, mgG 66 (by decide +kernel) rfl, ⟨by decide +kernel, by decide +kernel⟩, by decide +kernel, by decide⟩
def iX11_canNot : MI := (yX11_canNot, cX11_canNot, 4, some .int, 0, 0)
theorem moX11_canNot : MO iX11_canNot 1 := ⟨by decide +kernel, mgG 682 (by decide +kernel) rfl, mgG 66 (by decide +kernel) rfl, ⟨by decide +kernel, by decide +kernel⟩, by decide +kernel, by decide⟩
def iX11_eat : MI := (yX11_eat, cX11_eat, 5, some .int, 0, 0)
theorem moX11_eat : MO iX11_eat 2 := ⟨by decide +kernel, mgG 694 (by decide +kernel) rfl, mgG 66 (by decide +kernel) rfl, ⟨by decide +kernel, by decide +kernel⟩, by decide +kernel, by decide⟩
def iX11_seen : MI := (yX11_seen, cX11_seen, 3, some .int, 0, 0)
theorem moX11_seen : MO iX11_seen 2 := ⟨by decide +kernel, mgG 707 (by decide +kernel) rfl, mgG 66 (by decide +kernel) rfl, ⟨by decide +kernel, by decide +kernel⟩, by decide +kernel, by decide⟩
def iX11_forget : MI := (yX11_forget, cX11_forget, 2, some .int, 0, 0)
theorem moX11_forget : MO iX11_forget 0 := ⟨by decide +kernel, mgG 715 (by decide +kernel) rfl, mgG 66 (by decide +kernel) rfl, ⟨by decide +kernel, by decide +kernel⟩, by decide +kernel, by decide⟩
def iX11_nod : MI := (yX11_nod, cX11_nod, 2, some .int, 0, 0)
theorem moX11_nod : MO iX11_nod 1 := ⟨by decide +kernel, mgG 719 (by decide +kernel) rfl, mgG 66 (by decide +kernel) rfl, ⟨by decide +kernel, by decide +kernel⟩, by decide +kernel, by decide⟩
def iX11_is : MI := (yX11_is, cX11_is, 4, some .int, 0, 0)
theorem moX11_is : MO iX11_is 1 := ⟨by decide +kernel, mgG 735 (by decide +kernel) rfl, mgG 66 (by decide +kernel) rfl, ⟨by decide +kernel, by decide +kernel⟩, by decide +kernel, by decide⟩
def iX11_look : MI := (yX11_look, cX11_look, 7, some .int, 0, 0)
theorem moX11_look : MO iX11_look 1 := ⟨by decide +kernel, mgG 743 (by decide +kernel) rfl, mgG 66 (by decide +kernel) rfl, ⟨by decide +kernel, by decide +kernel⟩, by decide +kernel, by decide⟩
def iX11_pulled : MI := (yX11_pulled, cX11_pulled, 4, some .int, 0, 0)
theorem moX11_pulled : MO iX11_pulled 1 := ⟨by decide +kernel, mgG 753 (by decide +kernel) rfl, mgG 66 (by decide +kernel) rfl, ⟨by decide +kernel, by decide +kernel⟩, by decide +kernel, by decide⟩
def iX11_meet : MI := (yX11_meet, cX11_meet, 7, some .int, 0, 0)
theorem moX11_meet : MO iX11_meet 3 := ⟨by decide +kernel, mgG 757 (by decide +kernel) rfl, mgG 66 (by decide +kernel) rfl, ⟨by decide +kernel, by decide +kernel⟩, by decide +kernel, by decide⟩
def iX11_odds : MI := (yX11_odds, cX11_odds, 5, some .int, 0, 0)
theorem moX11_odds : MO iX11_odds 2 := ⟨by decide +kernel, mgG 764 (by decide +kernel) rfl, mgG 66 (by decide +kernel) rfl, ⟨by decide +kernel, by decide +kernel⟩, by decide +kernel, by decide⟩
def iX11_voyages : MI := (yX11_voyages, cX11_voyages, 7, some .int, 0, 0)
theorem moX11_voyages : MO iX11_voyages 2 := ⟨by decide +kernel, mgG 783 (by decide +kernel) rfl, mgG 66 (by decide +kernel) rfl, ⟨by decide +kernel, by decide +kernel⟩, by decide +kernel, by decide⟩
def iX11_part : MI := (yX11_part, cX11_part, 2, some .long, 0, 0)
theorem moX11_part : MO iX11_part 1 := ⟨by decide +kernel, mgG 793 (by decide +kernel) rfl, mgG 66 (by decide +kernel) rfl, ⟨by decide +kernel, by decide +kernel⟩, by decide +kernel, by decide⟩
def iX11_image : MI := (yX11_image, cX11_image, 2, some .int, 0, 0)
theorem moX11_image : MO iX11_image 1 := ⟨by decide +kernel, mgG 797 (by decide +kernel) rfl, mgG 66 (by decide +kernel) rfl, ⟨by decide +kernel, by decide +kernel⟩, by decide +kernel, by decide⟩
def iX11_from : MI := (yX11_from, cX11_from, 2, some .int, 0, 0)
theorem moX11_from : MO iX11_from 1 := ⟨by decide +kernel, mgG 801 (by decide +kernel) rfl, mgG 66 (by decide +kernel) rfl, ⟨by decide +kernel, by decide +kernel⟩, by decide +kernel, by decide⟩
def iX11_status : MI := (yX11_status, cX11_status, 2, some .int, 0, 0)
theorem moX11_status : MO iX11_status 1 := ⟨by decide +kernel, mgG 805 (by decide +kernel) rfl, mgG 66 (by decide +kernel) rfl, ⟨by decide +kernel, by decide +kernel⟩, by decide +kernel, by decide⟩
def iX11_count : MI := (yX11_count, cX11_count, 2, some .int, 0, 0)
theorem moX11_count : MO iX11_count 1 := ⟨by decide +kernel, mgG 809 (by decide +kernel) rfl, mgG 66 (by decide +kernel) rfl, ⟨by decide +kernel, by decide +kernel⟩, by decide +kernel, by decide⟩
def iX11_digest : MI := (yX11_digest, cX11_digest, 4, some .long, 0, 0)
theorem moX11_digest : MO iX11_digest 0 := ⟨by decide +kernel, mgG 817 (by decide +kernel) rfl, mgG 66 (by decide +kernel) rfl, ⟨by decide +kernel, by decide +kernel⟩, by decide +kernel, by decide⟩
def iX11_amount : MI := (yX11_amount, cX11_amount, 2, some .int, 0, 0)
theorem moX11_amount : MO iX11_amount 1 := ⟨by decide +kernel, mgG 813 (by decide +kernel) rfl, mgG 66 (by decide +kernel) rfl, ⟨by decide +kernel, by decide +kernel⟩, by decide +kernel, by decide⟩
def iX11_refuseBad : MI := (yX11_refuseBad, cX11_refuseBad, 2, some .int, 0, 0)
theorem moX11_refuseBad : MO iX11_refuseBad 1 := ⟨by decide +kernel, mgG 376 (by decide +kernel) rfl, mgG 66 (by decide +kernel) rfl, ⟨by decide +kernel, by decide +kernel⟩, by decide +kernel, by decide⟩
def iX11_refuseNo : MI := (yX11_refuseNo, cX11_refuseNo, 1, some .int, 0, 0)
theorem moX11_refuseNo : MO iX11_refuseNo 0 := ⟨by decide +kernel, mgG 384 (by decide +kernel) rfl, mgG 66 (by decide +kernel) rfl, ⟨by decide +kernel, by decide +kernel⟩, by decide +kernel, by decide⟩
def iX11_refuseFull : MI := (yX11_refuseFull, cX11_refuseFull, 1, some .int, 0, 0)
theorem moX11_refuseFull : MO iX11_refuseFull 0 := ⟨by decide +kernel, mgG 388 (by decide +kernel) rfl, mgG 66 (by decide +kernel) rfl, ⟨by decide +kernel, by decide +kernel⟩, by decide +kernel, by decide⟩
def iX11_isHand : MI := (yX11_isHand, cX11_isHand, 2, some .boolean, 0, 0)
theorem moX11_isHand : MO iX11_isHand 1 := ⟨by decide +kernel, mgG 551 (by decide +kernel) rfl, mgG 66 (by decide +kernel) rfl, ⟨by decide +kernel, by decide +kernel⟩, by decide +kernel, by decide⟩
def iX11_fittingNods : MI := (yX11_fittingNods, cX11_fittingNods, 4, some .int, 0, 0)
theorem moX11_fittingNods : MO iX11_fittingNods 1 := ⟨by decide +kernel, mgG 723 (by decide +kernel) rfl, mgG 66 (by decide +kernel) rfl, ⟨by decide +kernel, by decide +kernel⟩, by decide +kernel, by decide⟩
def iX11_fitsNods : MI := (yX11_fitsNods, cX11_fitsNods, 5, some .boolean, 0, 0)
theorem moX11_fitsNods : MO iX11_fitsNods 2 := ⟨by decide +kernel, mgG 727 (by decide +kernel) rfl, mgG 66 (by decide +kernel) rfl, ⟨by decide +kernel, by decide +kernel⟩, by decide +kernel, by decide⟩
def iX11_fitsPulled : MI := (yX11_fitsPulled, cX11_fitsPulled, 6, some .boolean, 0, 0)
theorem moX11_fitsPulled : MO iX11_fitsPulled 2 := ⟨by decide +kernel, mgG 739 (by decide +kernel) rfl, mgG 66 (by decide +kernel) rfl, ⟨by decide +kernel, by decide +kernel⟩, by decide +kernel, by decide⟩
def iX11_setFraction : MI := (yX11_setFraction, cX11_setFraction, 4, none, 0, 0)
theorem moX11_setFraction : MO iX11_setFraction 2 := ⟨by decide +kernel, mgG 776 (by decide +kernel) rfl, mgG 66 (by decide +kernel) rfl, ⟨by decide +kernel, by decide +kernel⟩, by decide +kernel, by decide⟩
def iX11_greatestDivisor : MI := (yX11_greatestDivisor, cX11_greatestDivisor, 6, some .int, 0, 0)
theorem moX11_greatestDivisor : MO iX11_greatestDivisor 2 := ⟨by decide +kernel, mgG 779 (by decide +kernel) rfl, mgG 66 (by decide +kernel) rfl, ⟨by decide +kernel, by decide +kernel⟩, by decide +kernel, by decide⟩
def iX11_isWithin : MI := (yX11_isWithin, cX11_isWithin, 3, some .boolean, 0, 0)
theorem moX11_isWithin : MO iX11_isWithin 3 := ⟨by decide +kernel, mgG 372 (by decide +kernel) rfl, mgG 66 (by decide +kernel) rfl, ⟨by decide +kernel, by decide +kernel⟩, by decide +kernel, by decide⟩
def iX11_isPlace : MI := (yX11_isPlace, cX11_isPlace, 1, some .boolean, 0, 0)
theorem moX11_isPlace : MO iX11_isPlace 1 := ⟨by decide +kernel, mgG 369 (by decide +kernel) rfl, mgG 66 (by decide +kernel) rfl, ⟨by decide +kernel, by decide +kernel⟩, by decide +kernel, by decide⟩
def iX11_isNods : MI := (yX11_isNods, cX11_isNods, 1, some .boolean, 0, 0)
theorem moX11_isNods : MO iX11_isNods 1 := ⟨by decide +kernel, mgG 399 (by decide +kernel) rfl, mgG 66 (by decide +kernel) rfl, ⟨by decide +kernel, by decide +kernel⟩, by decide +kernel, by decide⟩
def iX11_holds : MI := (yX11_holds, cX11_holds, 2, some .boolean, 0, 0)
theorem moX11_holds : MO iX11_holds 2 := ⟨by decide +kernel, mgG 554 (by decide +kernel) rfl, mgG 66 (by decide +kernel) rfl, ⟨by decide +kernel, by decide +kernel⟩, by decide +kernel, by decide⟩
def iX12_bad : MI := (yX12_bad, cX12_bad, 1, some .int, 0, 0)
theorem moX12_bad : MO iX12_bad 0 := ⟨by decide +kernel, mgG 950 (by decide +kernel) rfl, mgG 78 (by decide +kernel) rfl, ⟨by decide +kernel, by decide +kernel⟩, by decide +kernel, by decide⟩
def iX12_ten : MI := (yX12_ten, cX12_ten, 1, some .int, 0, 0)
theorem moX12_ten : MO iX12_ten 0 := ⟨by decide +kernel, mgG 1094 (by decide +kernel) rfl, mgG 78 (by decide +kernel) rfl, ⟨by decide +kernel, by decide +kernel⟩, by decide +kernel, by decide⟩
def iX12_no : MI := (yX12_no, cX12_no, 1, some .int, 0, 0)
theorem moX12_no : MO iX12_no 0 := ⟨by decide +kernel, mgG 958 (by decide +kernel) rfl, mgG 78 (by decide +kernel) rfl, ⟨by decide +kernel, by decide +kernel⟩, by decide +kernel, by decide⟩
def iX12_full : MI := (yX12_full, cX12_full, 1, some .int, 0, 0)
theorem moX12_full : MO iX12_full 0 := ⟨by decide +kernel, mgG 962 (by decide +kernel) rfl, mgG 78 (by decide +kernel) rfl, ⟨by decide +kernel, by decide +kernel⟩, by decide +kernel, by decide⟩
def iX12_in : MI := (yX12_in, cX12_in, 3, some .boolean, 0, 0)
theorem moX12_in : MO iX12_in 3 := ⟨by decide +kernel, mgG 946 (by decide +kernel) rfl, mgG 78 (by decide +kernel) rfl, ⟨by decide +kernel, by decide +kernel⟩, by decide +kernel, by decide⟩
def iX12_manyBad : MI := (yX12_manyBad, cX12_manyBad, 1, some .int, 0, 0)
theorem moX12_manyBad : MO iX12_manyBad 0 := ⟨by decide +kernel, mgG 1102 (by decide +kernel) rfl, mgG 78 (by decide +kernel) rfl, ⟨by decide +kernel, by decide +kernel⟩, by decide +kernel, by decide⟩
def iX12_has : MI := (yX12_has, cX12_has, 2, some .boolean, 0, 0)
theorem moX12_has : MO iX12_has 2 := ⟨by decide +kernel, mgG 1185 (by decide +kernel) rfl, mgG 78 (by decide +kernel) rfl, ⟨by decide +kernel, by decide +kernel⟩, by decide +kernel, by decide⟩
def iX12_init : MI := (yX12_init, cX12_init, 1, none, 19, 843)
theorem moX12_init : MO iX12_init 0 := ⟨by decide +kernel, mgG 830 (by decide +kernel) rfl, mgG 78 (by decide +kernel) rfl, ⟨by decide +kernel, by decide +kernel⟩, by decide +kernel, by decide⟩
def iX12_begin : MI := (yX12_begin, cX12_begin, 1, none, 0, 0)
theorem moX12_begin : MO iX12_begin 0 := ⟨by decide +kernel, mgG 835 (by decide +kernel) rfl, mgG 78 (by decide +kernel) rfl, ⟨by decide +kernel, by decide +kernel⟩, by decide +kernel, by decide⟩
def iX12_isHand : MI := (yX12_isHand, cX12_isHand, 2, some .boolean, 0, 0)
theorem moX12_isHand : MO iX12_isHand 1 := ⟨by decide +kernel, mgG 1048 (by decide +kernel) rfl, mgG 78 (by decide +kernel) rfl, ⟨by decide +kernel, by decide +kernel⟩, by decide +kernel, by decide⟩
def iX12_isRock : MI := (yX12_isRock, cX12_isRock, 4, some .boolean, 0, 0)
theorem moX12_isRock : MO iX12_isRock 1 := ⟨by decide +kernel, mgG 954 (by decide +kernel) rfl, mgG 78 (by decide +kernel) rfl, ⟨by decide +kernel, by decide +kernel⟩, by decide +kernel, by decide⟩
def iX12_ship : MI := (yX12_ship, cX12_ship, 2, some .int, 0, 0)
theorem moX12_ship : MO iX12_ship 0 := ⟨by decide +kernel, mgG 939 (by decide +kernel) rfl, mgG 78 (by decide +kernel) rfl, ⟨by decide +kernel, by decide +kernel⟩, by decide +kernel, by decide⟩
def iX12_addRock : MI := (yX12_addRock, cX12_addRock, 2, some .int, 0, 0)
theorem moX12_addRock : MO iX12_addRock 1 := ⟨by decide +kernel, mgG 966 (by decide +kernel) rfl, mgG 78 (by decide +kernel) rfl, ⟨by decide +kernel, by decide +kernel⟩, by decide +kernel, by decide⟩
def iX12_rock : MI := (yX12_rock, cX12_rock, 2, some .int, 0, 0)
theorem moX12_rock : MO iX12_rock 1 := ⟨by decide +kernel, mgG 943 (by decide +kernel) rfl, mgG 78 (by decide +kernel) rfl, ⟨by decide +kernel, by decide +kernel⟩, by decide +kernel, by decide⟩
def iX12_addHand : MI := (yX12_addHand, cX12_addHand, 4, some .int, 0, 0)
theorem moX12_addHand : MO iX12_addHand 3 := ⟨by decide +kernel, mgG 974 (by decide +kernel) rfl, mgG 78 (by decide +kernel) rfl, ⟨by decide +kernel, by decide +kernel⟩, by decide +kernel, by decide⟩
def iX12_hand : MI := (yX12_hand, cX12_hand, 4, some .int, 0, 0)
theorem moX12_hand : MO iX12_hand 3 := ⟨by decide +kernel, mgG 970 (by decide +kernel) rfl, mgG 78 (by decide +kernel) rfl, ⟨by decide +kernel, by decide +kernel⟩, by decide +kernel, by decide⟩
def iX12_type : MI := (yX12_type, cX12_type, 2, some .int, 0, 0)
theorem moX12_type : MO iX12_type 1 := ⟨by decide +kernel, mgG 978 (by decide +kernel) rfl, mgG 78 (by decide +kernel) rfl, ⟨by decide +kernel, by decide +kernel⟩, by decide +kernel, by decide⟩
def iX12_clear : MI := (yX12_clear, cX12_clear, 2, some .int, 0, 0)
theorem moX12_clear : MO iX12_clear 0 := ⟨by decide +kernel, mgG 982 (by decide +kernel) rfl, mgG 78 (by decide +kernel) rfl, ⟨by decide +kernel, by decide +kernel⟩, by decide +kernel, by decide⟩
def iX12_here : MI := (yX12_here, cX12_here, 1, some .int, 0, 0)
theorem moX12_here : MO iX12_here 0 := ⟨by decide +kernel, mgG 998 (by decide +kernel) rfl, mgG 78 (by decide +kernel) rfl, ⟨by decide +kernel, by decide +kernel⟩, by decide +kernel, by decide⟩
def iX12_skip : MI := (yX12_skip, cX12_skip, 1, none, 0, 0)
theorem moX12_skip : MO iX12_skip 0 := ⟨by decide +kernel, mgG 994 (by decide +kernel) rfl, mgG 78 (by decide +kernel) rfl, ⟨by decide +kernel, by decide +kernel⟩, by decide +kernel, by decide⟩
def iX12_isLetter : MI := (yX12_isLetter, cX12_isLetter, 1, some .boolean, 0, 0)
theorem moX12_isLetter : MO iX12_isLetter 1 := ⟨by decide +kernel, mgG 1013 (by decide +kernel) rfl, mgG 78 (by decide +kernel) rfl, ⟨by decide +kernel, by decide +kernel⟩, by decide +kernel, by decide⟩
def iX12_isFigure : MI := (yX12_isFigure, cX12_isFigure, 1, some .boolean, 0, 0)
theorem moX12_isFigure : MO iX12_isFigure 1 := ⟨by decide +kernel, mgG 1036 (by decide +kernel) rfl, mgG 78 (by decide +kernel) rfl, ⟨by decide +kernel, by decide +kernel⟩, by decide +kernel, by decide⟩
def iX12_wordSize : MI := (yX12_wordSize, cX12_wordSize, 2, some .int, 0, 0)
theorem moX12_wordSize : MO iX12_wordSize 0 := ⟨by decide +kernel, mgG 1010 (by decide +kernel) rfl, mgG 78 (by decide +kernel) rfl, ⟨by decide +kernel, by decide +kernel⟩, by decide +kernel, by decide⟩
def iX12_letter : MI := (yX12_letter, cX12_letter, 2, some .int, 0, 0)
theorem moX12_letter : MO iX12_letter 1 := ⟨by decide +kernel, mgG 1017 (by decide +kernel) rfl, mgG 78 (by decide +kernel) rfl, ⟨by decide +kernel, by decide +kernel⟩, by decide +kernel, by decide⟩
def iX12_spells : MI := (yX12_spells, cX12_spells, 5, some .boolean, 0, 0)
theorem moX12_spells : MO iX12_spells 4 := ⟨by decide +kernel, mgG 1006 (by decide +kernel) rfl, mgG 78 (by decide +kernel) rfl, ⟨by decide +kernel, by decide +kernel⟩, by decide +kernel, by decide⟩
def iX12_wordHere : MI := (yX12_wordHere, cX12_wordHere, 1, some .int, 0, 0)
theorem moX12_wordHere : MO iX12_wordHere 0 := ⟨by decide +kernel, mgG 1002 (by decide +kernel) rfl, mgG 78 (by decide +kernel) rfl, ⟨by decide +kernel, by decide +kernel⟩, by decide +kernel, by decide⟩
def iX12_number : MI := (yX12_number, cX12_number, 5, some .boolean, 0, 0)
theorem moX12_number : MO iX12_number 2 := ⟨by decide +kernel, mgG 1033 (by decide +kernel) rfl, mgG 78 (by decide +kernel) rfl, ⟨by decide +kernel, by decide +kernel⟩, by decide +kernel, by decide⟩
def iX12_ends : MI := (yX12_ends, cX12_ends, 1, some .boolean, 0, 0)
theorem moX12_ends : MO iX12_ends 0 := ⟨by decide +kernel, mgG 1021 (by decide +kernel) rfl, mgG 78 (by decide +kernel) rfl, ⟨by decide +kernel, by decide +kernel⟩, by decide +kernel, by decide⟩
def iX12_readsRock : MI := (yX12_readsRock, cX12_readsRock, 5, some .boolean, 0, 0)
theorem moX12_readsRock : MO iX12_readsRock 1 := ⟨by decide +kernel, mgG 1029 (by decide +kernel) rfl, mgG 78 (by decide +kernel) rfl, ⟨by decide +kernel, by decide +kernel⟩, by decide +kernel, by decide⟩
def iX12_readsHand : MI := (yX12_readsHand, cX12_readsHand, 3, some .boolean, 0, 0)
theorem moX12_readsHand : MO iX12_readsHand 1 := ⟨by decide +kernel, mgG 1040 (by decide +kernel) rfl, mgG 78 (by decide +kernel) rfl, ⟨by decide +kernel, by decide +kernel⟩, by decide +kernel, by decide⟩
def iX12_readsItem : MI := (yX12_readsItem, cX12_readsItem, 4, some .boolean, 0, 0)
theorem moX12_readsItem : MO iX12_readsItem 0 := ⟨by decide +kernel, mgG 1025 (by decide +kernel) rfl, mgG 78 (by decide +kernel) rfl, ⟨by decide +kernel, by decide +kernel⟩, by decide +kernel, by decide⟩
def iX12_readsShip : MI := (yX12_readsShip, cX12_readsShip, 2, some .int, 0, 0)
theorem moX12_readsShip : MO iX12_readsShip 0 := ⟨by decide +kernel, mgG 990 (by decide +kernel) rfl, mgG 78 (by decide +kernel) rfl, ⟨by decide +kernel, by decide +kernel⟩, by decide +kernel, by decide⟩
def iX12_read : MI := (yX12_read, cX12_read, 3, some .int, 0, 0)
theorem moX12_read : MO iX12_read 0 := ⟨by decide +kernel, mgG 986 (by decide +kernel) rfl, mgG 78 (by decide +kernel) rfl, ⟨by decide +kernel, by decide +kernel⟩, by decide +kernel, by decide⟩
def iX12_sleepyBy : MI := (yX12_sleepyBy, cX12_sleepyBy, 5, some .int, 0, 0)
theorem moX12_sleepyBy : MO iX12_sleepyBy 4 := ⟨by decide +kernel, mgG 1075 (by decide +kernel) rfl, mgG 78 (by decide +kernel) rfl, ⟨by decide +kernel, by decide +kernel⟩, by decide +kernel, by decide⟩
def iX12_sleepy : MI := (yX12_sleepy, cX12_sleepy, 2, some .int, 0, 0)
theorem moX12_sleepy : MO iX12_sleepy 1 := ⟨by decide +kernel, mgG 1072 (by decide +kernel) rfl, mgG 78 (by decide +kernel) rfl, ⟨by decide +kernel, by decide +kernel⟩, by decide +kernel, by decide⟩
def iX12_moreBy : MI := (yX12_moreBy, cX12_moreBy, 1, some .int, 0, 0)
theorem moX12_moreBy : MO iX12_moreBy 1 := ⟨by decide +kernel, mgG 1078 (by decide +kernel) rfl, mgG 78 (by decide +kernel) rfl, ⟨by decide +kernel, by decide +kernel⟩, by decide +kernel, by decide⟩
def iX12_steers : MI := (yX12_steers, cX12_steers, 5, some .int, 0, 0)
theorem moX12_steers : MO iX12_steers 0 := ⟨by decide +kernel, mgG 1068 (by decide +kernel) rfl, mgG 78 (by decide +kernel) rfl, ⟨by decide +kernel, by decide +kernel⟩, by decide +kernel, by decide⟩
def iX12_pass : MI := (yX12_pass, cX12_pass, 4, some .int, 0, 0)
theorem moX12_pass : MO iX12_pass 0 := ⟨by decide +kernel, mgG 1064 (by decide +kernel) rfl, mgG 78 (by decide +kernel) rfl, ⟨by decide +kernel, by decide +kernel⟩, by decide +kernel, by decide⟩
def iX12_lays : MI := (yX12_lays, cX12_lays, 4, none, 0, 0)
theorem moX12_lays : MO iX12_lays 2 := ⟨by decide +kernel, mgG 1056 (by decide +kernel) rfl, mgG 78 (by decide +kernel) rfl, ⟨by decide +kernel, by decide +kernel⟩, by decide +kernel, by decide⟩
def iX12_takes : MI := (yX12_takes, cX12_takes, 4, none, 0, 0)
theorem moX12_takes : MO iX12_takes 2 := ⟨by decide +kernel, mgG 1086 (by decide +kernel) rfl, mgG 78 (by decide +kernel) rfl, ⟨by decide +kernel, by decide +kernel⟩, by decide +kernel, by decide⟩
def iX12_notes : MI := (yX12_notes, cX12_notes, 2, none, 0, 0)
theorem moX12_notes : MO iX12_notes 0 := ⟨by decide +kernel, mgG 1052 (by decide +kernel) rfl, mgG 78 (by decide +kernel) rfl, ⟨by decide +kernel, by decide +kernel⟩, by decide +kernel, by decide⟩
def iX12_puts : MI := (yX12_puts, cX12_puts, 1, none, 0, 0)
theorem moX12_puts : MO iX12_puts 0 := ⟨by decide +kernel, mgG 1110 (by decide +kernel) rfl, mgG 78 (by decide +kernel) rfl, ⟨by decide +kernel, by decide +kernel⟩, by decide +kernel, by decide⟩
def iX12_back : MI := (yX12_back, cX12_back, 1, none, 0, 0)
theorem moX12_back : MO iX12_back 0 := ⟨by decide +kernel, mgG 1118 (by decide +kernel) rfl, mgG 78 (by decide +kernel) rfl, ⟨by decide +kernel, by decide +kernel⟩, by decide +kernel, by decide⟩
def iX12_feed : MI := (yX12_feed, cX12_feed, 2, some .int, 0, 0)
theorem moX12_feed : MO iX12_feed 1 := ⟨by decide +kernel, mgG 1044 (by decide +kernel) rfl, mgG 78 (by decide +kernel) rfl, ⟨by decide +kernel, by decide +kernel⟩, by decide +kernel, by decide⟩
def iX12_watch : MI := (yX12_watch, cX12_watch, 1, some .int, 0, 0)
theorem moX12_watch : MO iX12_watch 0 := ⟨by decide +kernel, mgG 1060 (by decide +kernel) rfl, mgG 78 (by decide +kernel) rfl, ⟨by decide +kernel, by decide +kernel⟩, by decide +kernel, by decide⟩
def iX12_undo : MI := (yX12_undo, cX12_undo, 1, some .int, 0, 0)
theorem moX12_undo : MO iX12_undo 0 := ⟨by decide +kernel, mgG 1082 (by decide +kernel) rfl, mgG 78 (by decide +kernel) rfl, ⟨by decide +kernel, by decide +kernel⟩, by decide +kernel, by decide⟩
def iX12_of : MI := (yX12_of, cX12_of, 3, some .int, 0, 0)
theorem moX12_of : MO iX12_of 2 := ⟨by decide +kernel, mgG 1090 (by decide +kernel) rfl, mgG 78 (by decide +kernel) rfl, ⟨by decide +kernel, by decide +kernel⟩, by decide +kernel, by decide⟩
def iX12_now : MI := (yX12_now, cX12_now, 2, some .int, 0, 0)
theorem moX12_now : MO iX12_now 1 := ⟨by decide +kernel, mgG 1098 (by decide +kernel) rfl, mgG 78 (by decide +kernel) rfl, ⟨by decide +kernel, by decide +kernel⟩, by decide +kernel, by decide⟩
def iX12_passes : MI := (yX12_passes, cX12_passes, 3, none, 0, 0)
theorem moX12_passes : MO iX12_passes 1 := ⟨by decide +kernel, mgG 1114 (by decide +kernel) rfl, mgG 78 (by decide +kernel) rfl, ⟨by decide +kernel, by decide +kernel⟩, by decide +kernel, by decide⟩
def iX12_then : MI := (yX12_then, cX12_then, 4, some .int, 0, 0)
theorem moX12_then : MO iX12_then 2 := ⟨by decide +kernel, mgG 1106 (by decide +kernel) rfl, mgG 78 (by decide +kernel) rfl, ⟨by decide +kernel, by decide +kernel⟩, by decide +kernel, by decide⟩
def iX12_strikes : MI := (yX12_strikes, cX12_strikes, 3, some .int, 0, 0)
theorem moX12_strikes : MO iX12_strikes 0 := ⟨by decide +kernel, mgG 1122 (by decide +kernel) rfl, mgG 78 (by decide +kernel) rfl, ⟨by decide +kernel, by decide +kernel⟩, by decide +kernel, by decide⟩
def iX12_fedBy : MI := (yX12_fedBy, cX12_fedBy, 6, some .int, 0, 0)
theorem moX12_fedBy : MO iX12_fedBy 2 := ⟨by decide +kernel, mgG 1130 (by decide +kernel) rfl, mgG 78 (by decide +kernel) rfl, ⟨by decide +kernel, by decide +kernel⟩, by decide +kernel, by decide⟩
def iX12_placeBy : MI := (yX12_placeBy, cX12_placeBy, 3, some .int, 0, 0)
theorem moX12_placeBy : MO iX12_placeBy 1 := ⟨by decide +kernel, mgG 1134 (by decide +kernel) rfl, mgG 78 (by decide +kernel) rfl, ⟨by decide +kernel, by decide +kernel⟩, by decide +kernel, by decide⟩
def iX12_peas : MI := (yX12_peas, cX12_peas, 9, some .int, 0, 0)
theorem moX12_peas : MO iX12_peas 3 := ⟨by decide +kernel, mgG 1126 (by decide +kernel) rfl, mgG 78 (by decide +kernel) rfl, ⟨by decide +kernel, by decide +kernel⟩, by decide +kernel, by decide⟩
def iX12_steersBy : MI := (yX12_steersBy, cX12_steersBy, 5, some .int, 0, 0)
theorem moX12_steersBy : MO iX12_steersBy 1 := ⟨by decide +kernel, mgG 1142 (by decide +kernel) rfl, mgG 78 (by decide +kernel) rfl, ⟨by decide +kernel, by decide +kernel⟩, by decide +kernel, by decide⟩
def iX12_canNot : MI := (yX12_canNot, cX12_canNot, 6, some .int, 0, 0)
theorem moX12_canNot : MO iX12_canNot 1 := ⟨by decide +kernel, mgG 1138 (by decide +kernel) rfl, mgG 78 (by decide +kernel) rfl, ⟨by decide +kernel, by decide +kernel⟩, by decide +kernel, by decide⟩
def iX12_eat : MI := (yX12_eat, cX12_eat, 10, some .int, 0, 0)
theorem moX12_eat : MO iX12_eat 2 := ⟨by decide +kernel, mgG 1146 (by decide +kernel) rfl, mgG 78 (by decide +kernel) rfl, ⟨by decide +kernel, by decide +kernel⟩, by decide +kernel, by decide⟩
def iX12_seen : MI := (yX12_seen, cX12_seen, 3, some .int, 0, 0)
theorem moX12_seen : MO iX12_seen 2 := ⟨by decide +kernel, mgG 1150 (by decide +kernel) rfl, mgG 78 (by decide +kernel) rfl, ⟨by decide +kernel, by decide +kernel⟩, by decide +kernel, by decide⟩
def iX12_forget : MI := (yX12_forget, cX12_forget, 2, some .int, 0, 0)
theorem moX12_forget : MO iX12_forget 0 := ⟨by decide +kernel, mgG 1154 (by decide +kernel) rfl, mgG 78 (by decide +kernel) rfl, ⟨by decide +kernel, by decide +kernel⟩, by decide +kernel, by decide⟩
def iX12_setWay : MI := (yX12_setWay, cX12_setWay, 2, none, 0, 0)
theorem moX12_setWay : MO iX12_setWay 0 := ⟨by decide +kernel, mgG 1166 (by decide +kernel) rfl, mgG 78 (by decide +kernel) rfl, ⟨by decide +kernel, by decide +kernel⟩, by decide +kernel, by decide⟩
def iX12_isSeen : MI := (yX12_isSeen, cX12_isSeen, 6, some .boolean, 0, 0)
theorem moX12_isSeen : MO iX12_isSeen 2 := ⟨by decide +kernel, mgG 1170 (by decide +kernel) rfl, mgG 78 (by decide +kernel) rfl, ⟨by decide +kernel, by decide +kernel⟩, by decide +kernel, by decide⟩
def iX12_nodSet : MI := (yX12_nodSet, cX12_nodSet, 5, some .int, 0, 0)
theorem moX12_nodSet : MO iX12_nodSet 1 := ⟨by decide +kernel, mgG 1162 (by decide +kernel) rfl, mgG 78 (by decide +kernel) rfl, ⟨by decide +kernel, by decide +kernel⟩, by decide +kernel, by decide⟩
def iX12_nod : MI := (yX12_nod, cX12_nod, 2, some .int, 0, 0)
theorem moX12_nod : MO iX12_nod 1 := ⟨by decide +kernel, mgG 1158 (by decide +kernel) rfl, mgG 78 (by decide +kernel) rfl, ⟨by decide +kernel, by decide +kernel⟩, by decide +kernel, by decide⟩
def iX12_is : MI := (yX12_is, cX12_is, 5, some .int, 0, 0)
theorem moX12_is : MO iX12_is 1 := ⟨by decide +kernel, mgG 1174 (by decide +kernel) rfl, mgG 78 (by decide +kernel) rfl, ⟨by decide +kernel, by decide +kernel⟩, by decide +kernel, by decide⟩
def iX12_alike : MI := (yX12_alike, cX12_alike, 7, some .int, 0, 0)
theorem moX12_alike : MO iX12_alike 2 := ⟨by decide +kernel, mgG 1182 (by decide +kernel) rfl, mgG 78 (by decide +kernel) rfl, ⟨by decide +kernel, by decide +kernel⟩, by decide +kernel, by decide⟩
def iX12_look : MI := (yX12_look, cX12_look, 6, some .int, 0, 0)
theorem moX12_look : MO iX12_look 1 := ⟨by decide +kernel, mgG 1178 (by decide +kernel) rfl, mgG 78 (by decide +kernel) rfl, ⟨by decide +kernel, by decide +kernel⟩, by decide +kernel, by decide⟩
def iX12_pulled : MI := (yX12_pulled, cX12_pulled, 4, some .int, 0, 0)
theorem moX12_pulled : MO iX12_pulled 1 := ⟨by decide +kernel, mgG 1189 (by decide +kernel) rfl, mgG 78 (by decide +kernel) rfl, ⟨by decide +kernel, by decide +kernel⟩, by decide +kernel, by decide⟩
def iX12_meet : MI := (yX12_meet, cX12_meet, 9, some .int, 0, 0)
theorem moX12_meet : MO iX12_meet 3 := ⟨by decide +kernel, mgG 1193 (by decide +kernel) rfl, mgG 78 (by decide +kernel) rfl, ⟨by decide +kernel, by decide +kernel⟩, by decide +kernel, by decide⟩
def iX12_lay : MI := (yX12_lay, cX12_lay, 11, none, 0, 0)
theorem moX12_lay : MO iX12_lay 2 := ⟨by decide +kernel, mgG 1202 (by decide +kernel) rfl, mgG 78 (by decide +kernel) rfl, ⟨by decide +kernel, by decide +kernel⟩, by decide +kernel, by decide⟩
def iX12_odds : MI := (yX12_odds, cX12_odds, 11, some .int, 0, 0)
theorem moX12_odds : MO iX12_odds 2 := ⟨by decide +kernel, mgG 1197 (by decide +kernel) rfl, mgG 78 (by decide +kernel) rfl, ⟨by decide +kernel, by decide +kernel⟩, by decide +kernel, by decide⟩
def iX12_voyages : MI := (yX12_voyages, cX12_voyages, 8, some .int, 0, 0)
theorem moX12_voyages : MO iX12_voyages 2 := ⟨by decide +kernel, mgG 1206 (by decide +kernel) rfl, mgG 78 (by decide +kernel) rfl, ⟨by decide +kernel, by decide +kernel⟩, by decide +kernel, by decide⟩
def iX12_part : MI := (yX12_part, cX12_part, 2, some .long, 0, 0)
theorem moX12_part : MO iX12_part 1 := ⟨by decide +kernel, mgG 1216 (by decide +kernel) rfl, mgG 78 (by decide +kernel) rfl, ⟨by decide +kernel, by decide +kernel⟩, by decide +kernel, by decide⟩
def iX12_image : MI := (yX12_image, cX12_image, 4, some .int, 0, 0)
theorem moX12_image : MO iX12_image 1 := ⟨by decide +kernel, mgG 1220 (by decide +kernel) rfl, mgG 78 (by decide +kernel) rfl, ⟨by decide +kernel, by decide +kernel⟩, by decide +kernel, by decide⟩
end
section
def iX12_from : MI := (yX12_from, cX12_from, 4, some .int, 0, 0)
theorem moX12_from : MO iX12_from 1 := ⟨by decide +kernel, mgG 1224 (by decide +kernel) rfl, mgG 78 (by decide +kernel) rfl, ⟨by decide +kernel, by decide +kernel⟩, by decide +kernel, by decide⟩
def iX12_status : MI := (yX12_status, cX12_status, 2, some .int, 0, 0)
theorem moX12_status : MO iX12_status 1 := ⟨by decide +kernel, mgG 1228 (by decide +kernel) rfl, mgG 78 (by decide +kernel) rfl, ⟨by decide +kernel, by decide +kernel⟩, by decide +kernel, by decide⟩
def iX12_countOf : MI := (yX12_countOf, cX12_countOf, 4, some .int, 0, 0)
theorem moX12_countOf : MO iX12_countOf 1 := ⟨by decide +kernel, mgG 1236 (by decide +kernel) rfl, mgG 78 (by decide +kernel) rfl, ⟨by decide +kernel, by decide +kernel⟩, by decide +kernel, by decide⟩
def iX12_count : MI := (yX12_count, cX12_count, 2, some .int, 0, 0)
theorem moX12_count : MO iX12_count 1 := ⟨by decide +kernel, mgG 1232 (by decide +kernel) rfl, mgG 78 (by decide +kernel) rfl, ⟨by decide +kernel, by decide +kernel⟩, by decide +kernel, by decide⟩
def iX12_mix : MI := (yX12_mix, cX12_mix, 3, none, 0, 0)
theorem moX12_mix : MO iX12_mix 1 := ⟨by decide +kernel, mgG 1245 (by decide +kernel) rfl, mgG 78 (by decide +kernel) rfl, ⟨by decide +kernel, by decide +kernel⟩, by decide +kernel, by decide⟩
def iX12_digest : MI := (yX12_digest, cX12_digest, 2, some .long, 0, 0)
theorem moX12_digest : MO iX12_digest 0 := ⟨by decide +kernel, mgG 1240 (by decide +kernel) rfl, mgG 78 (by decide +kernel) rfl, ⟨by decide +kernel, by decide +kernel⟩, by decide +kernel, by decide⟩
def iJ6_compare_7cf53 : MI := (yJ6_compare_7cf53, cJ6_compare_7cf53, 2, some .int, 0, 0)
theorem moJ6_compare_7cf53 : MO iJ6_compare_7cf53 2 := ⟨by decide +kernel, mgG 760 (by decide +kernel) rfl, mgG 85 (by decide +kernel) rfl, ⟨by decide +kernel, by decide +kernel⟩, by decide +kernel, by decide⟩
def iJ6_bitCount_0f7a4 : MI := (yJ6_bitCount_0f7a4, cJ6_bitCount_0f7a4, 1, some .int, 0, 0)
theorem moJ6_bitCount_0f7a4 : MO iJ6_bitCount_0f7a4 1 := ⟨by decide +kernel, mgG 746 (by decide +kernel) rfl, mgG 85 (by decide +kernel) rfl, ⟨by decide +kernel, by decide +kernel⟩, by decide +kernel, by decide⟩
theorem fr4_21 : FR RX4 21 4 0 2 true := ⟨RX4, TX4, 8, tyX4, cok4, by decide, rfl, rfl, fun _ => rfl, Or.inl (mgG 150 (by decide +kernel) rfl)⟩
theorem fg4_21 : FRr RX4 21 4 0 2 := fr4_21.rd
theorem fr4_9 : FR RX4 9 4 1 2 true := ⟨RX4, TX4, 8, tyX4, cok4, by decide, rfl, rfl, fun _ => rfl, Or.inl (mgG 151 (by decide +kernel) rfl)⟩
theorem fg4_9 : FRr RX4 9 4 1 2 := fr4_9.rd
theorem fg10_60 : FRr RX10 60 4 1 2 := ⟨RX4, TX4, 8, tyX4, cok4, by decide, rfl, Or.inr ⟨"SleepyHelm", mgN 152 (by decide +kernel) rfl⟩⟩
theorem fg11_170 : FRr RX11 170 4 1 2 := ⟨RX4, TX4, 8, tyX4, cok4, by decide, rfl, Or.inr ⟨"SleepyHelm", mgN 153 (by decide +kernel) rfl⟩⟩
theorem fr4_15 : FR RX4 15 4 2 2 true := ⟨RX4, TX4, 8, tyX4, cok4, by decide, rfl, rfl, fun _ => rfl, Or.inl (mgG 154 (by decide +kernel) rfl)⟩
theorem fg4_15 : FRr RX4 15 4 2 2 := fr4_15.rd
theorem fg10_63 : FRr RX10 63 4 2 2 := ⟨RX4, TX4, 8, tyX4, cok4, by decide, rfl, Or.inr ⟨"SleepyHelm", mgN 155 (by decide +kernel) rfl⟩⟩
theorem fg11_174 : FRr RX11 174 4 2 2 := ⟨RX4, TX4, 8, tyX4, cok4, by decide, rfl, Or.inr ⟨"SleepyHelm", mgN 156 (by decide +kernel) rfl⟩⟩
theorem fr4_18 : FR RX4 18 4 3 2 true := ⟨RX4, TX4, 8, tyX4, cok4, by decide, rfl, rfl, fun _ => rfl, Or.inl (mgG 157 (by decide +kernel) rfl)⟩
theorem fg4_18 : FRr RX4 18 4 3 2 := fr4_18.rd
theorem fg10_66 : FRr RX10 66 4 3 2 := ⟨RX4, TX4, 8, tyX4, cok4, by decide, rfl, Or.inr ⟨"SleepyHelm", mgN 158 (by decide +kernel) rfl⟩⟩
theorem fg11_177 : FRr RX11 177 4 3 2 := ⟨RX4, TX4, 8, tyX4, cok4, by decide, rfl, Or.inr ⟨"SleepyHelm", mgN 159 (by decide +kernel) rfl⟩⟩
theorem fr4_25 : FR RX4 25 4 4 0 false := ⟨RX4, TX4, 8, tyX4, cok4, by decide, rfl, rfl, fun _ => rfl, Or.inl (mgG 160 (by decide +kernel) rfl)⟩
theorem fg4_25 : FRr RX4 25 4 4 0 := fr4_25.rd
theorem fg11_85 : FRr RX11 85 4 4 0 := ⟨RX4, TX4, 8, tyX4, cok4, by decide, rfl, Or.inr ⟨"SleepyHelm", mgN 161 (by decide +kernel) rfl⟩⟩
theorem fr11_85 : FR RX11 85 4 4 0 false := ⟨RX4, TX4, 8, tyX4, cok4, by decide, rfl, rfl, (fun h => by cases h), Or.inr ⟨"SleepyHelm", rfl, mgN 161 (by decide +kernel) rfl⟩⟩
theorem fg6_74 : FRr RX6 74 4 4 0 := ⟨RX4, TX4, 8, tyX4, cok4, by decide, rfl, Or.inr ⟨"SleepyHelm", mgN 162 (by decide +kernel) rfl⟩⟩
theorem fr6_74 : FR RX6 74 4 4 0 false := ⟨RX4, TX4, 8, tyX4, cok4, by decide, rfl, rfl, (fun h => by cases h), Or.inr ⟨"SleepyHelm", rfl, mgN 162 (by decide +kernel) rfl⟩⟩
theorem fg10_57 : FRr RX10 57 4 4 0 := ⟨RX4, TX4, 8, tyX4, cok4, by decide, rfl, Or.inr ⟨"SleepyHelm", mgN 163 (by decide +kernel) rfl⟩⟩
theorem fr10_57 : FR RX10 57 4 4 0 false := ⟨RX4, TX4, 8, tyX4, cok4, by decide, rfl, rfl, (fun h => by cases h), Or.inr ⟨"SleepyHelm", rfl, mgN 163 (by decide +kernel) rfl⟩⟩
theorem fg9_88 : FRr RX9 88 4 4 0 := ⟨RX4, TX4, 8, tyX4, cok4, by decide, rfl, Or.inr ⟨"SleepyHelm", mgN 164 (by decide +kernel) rfl⟩⟩
theorem fr9_88 : FR RX9 88 4 4 0 false := ⟨RX4, TX4, 8, tyX4, cok4, by decide, rfl, rfl, (fun h => by cases h), Or.inr ⟨"SleepyHelm", rfl, mgN 164 (by decide +kernel) rfl⟩⟩
theorem fr4_29 : FR RX4 29 4 5 0 false := ⟨RX4, TX4, 8, tyX4, cok4, by decide, rfl, rfl, fun _ => rfl, Or.inl (mgG 165 (by decide +kernel) rfl)⟩
theorem fg4_29 : FRr RX4 29 4 5 0 := fr4_29.rd
theorem fg3_31 : FRr RX3 31 4 5 0 := ⟨RX4, TX4, 8, tyX4, cok4, by decide, rfl, Or.inr ⟨"SleepyHelm", mgN 166 (by decide +kernel) rfl⟩⟩
theorem fr3_31 : FR RX3 31 4 5 0 false := ⟨RX4, TX4, 8, tyX4, cok4, by decide, rfl, rfl, (fun h => by cases h), Or.inr ⟨"SleepyHelm", rfl, mgN 166 (by decide +kernel) rfl⟩⟩
theorem fg6_51 : FRr RX6 51 4 5 0 := ⟨RX4, TX4, 8, tyX4, cok4, by decide, rfl, Or.inr ⟨"SleepyHelm", mgN 167 (by decide +kernel) rfl⟩⟩
theorem fr6_51 : FR RX6 51 4 5 0 false := ⟨RX4, TX4, 8, tyX4, cok4, by decide, rfl, rfl, (fun h => by cases h), Or.inr ⟨"SleepyHelm", rfl, mgN 167 (by decide +kernel) rfl⟩⟩
theorem fg10_71 : FRr RX10 71 4 5 0 := ⟨RX4, TX4, 8, tyX4, cok4, by decide, rfl, Or.inr ⟨"SleepyHelm", mgN 168 (by decide +kernel) rfl⟩⟩
theorem fr10_71 : FR RX10 71 4 5 0 false := ⟨RX4, TX4, 8, tyX4, cok4, by decide, rfl, rfl, (fun h => by cases h), Or.inr ⟨"SleepyHelm", rfl, mgN 168 (by decide +kernel) rfl⟩⟩
theorem fg11_184 : FRr RX11 184 4 5 0 := ⟨RX4, TX4, 8, tyX4, cok4, by decide, rfl, Or.inr ⟨"SleepyHelm", mgN 169 (by decide +kernel) rfl⟩⟩
theorem fr11_184 : FR RX11 184 4 5 0 false := ⟨RX4, TX4, 8, tyX4, cok4, by decide, rfl, rfl, (fun h => by cases h), Or.inr ⟨"SleepyHelm", rfl, mgN 169 (by decide +kernel) rfl⟩⟩
theorem fr4_32 : FR RX4 32 4 6 0 false := ⟨RX4, TX4, 8, tyX4, cok4, by decide, rfl, rfl, fun _ => rfl, Or.inl (mgG 170 (by decide +kernel) rfl)⟩
theorem fg4_32 : FRr RX4 32 4 6 0 := fr4_32.rd
theorem fg11_167 : FRr RX11 167 4 6 0 := ⟨RX4, TX4, 8, tyX4, cok4, by decide, rfl, Or.inr ⟨"SleepyHelm", mgN 171 (by decide +kernel) rfl⟩⟩
theorem fr11_167 : FR RX11 167 4 6 0 false := ⟨RX4, TX4, 8, tyX4, cok4, by decide, rfl, rfl, (fun h => by cases h), Or.inr ⟨"SleepyHelm", rfl, mgN 171 (by decide +kernel) rfl⟩⟩
theorem fr4_35 : FR RX4 35 4 7 0 false := ⟨RX4, TX4, 8, tyX4, cok4, by decide, rfl, rfl, fun _ => rfl, Or.inl (mgG 172 (by decide +kernel) rfl)⟩
theorem fg4_35 : FRr RX4 35 4 7 0 := fr4_35.rd
theorem fg3_35 : FRr RX3 35 4 7 0 := ⟨RX4, TX4, 8, tyX4, cok4, by decide, rfl, Or.inr ⟨"SleepyHelm", mgN 173 (by decide +kernel) rfl⟩⟩
theorem fr3_35 : FR RX3 35 4 7 0 false := ⟨RX4, TX4, 8, tyX4, cok4, by decide, rfl, rfl, (fun h => by cases h), Or.inr ⟨"SleepyHelm", rfl, mgN 173 (by decide +kernel) rfl⟩⟩
theorem fg6_64 : FRr RX6 64 4 7 0 := ⟨RX4, TX4, 8, tyX4, cok4, by decide, rfl, Or.inr ⟨"SleepyHelm", mgN 174 (by decide +kernel) rfl⟩⟩
theorem fr6_64 : FR RX6 64 4 7 0 false := ⟨RX4, TX4, 8, tyX4, cok4, by decide, rfl, rfl, (fun h => by cases h), Or.inr ⟨"SleepyHelm", rfl, mgN 174 (by decide +kernel) rfl⟩⟩
theorem fg11_147 : FRr RX11 147 4 7 0 := ⟨RX4, TX4, 8, tyX4, cok4, by decide, rfl, Or.inr ⟨"SleepyHelm", mgN 175 (by decide +kernel) rfl⟩⟩
theorem fr11_147 : FR RX11 147 4 7 0 false := ⟨RX4, TX4, 8, tyX4, cok4, by decide, rfl, rfl, (fun h => by cases h), Or.inr ⟨"SleepyHelm", rfl, mgN 175 (by decide +kernel) rfl⟩⟩
theorem fg10_74 : FRr RX10 74 4 7 0 := ⟨RX4, TX4, 8, tyX4, cok4, by decide, rfl, Or.inr ⟨"SleepyHelm", mgN 176 (by decide +kernel) rfl⟩⟩
theorem fr10_74 : FR RX10 74 4 7 0 false := ⟨RX4, TX4, 8, tyX4, cok4, by decide, rfl, rfl, (fun h => by cases h), Or.inr ⟨"SleepyHelm", rfl, mgN 176 (by decide +kernel) rfl⟩⟩
theorem fr10_30 : FR RX10 30 10 0 2 true := ⟨RX10, TX10, 8, tyX10, cok10, by decide, rfl, rfl, fun _ => rfl, Or.inl (mgG 195 (by decide +kernel) rfl)⟩
theorem fg10_30 : FRr RX10 30 10 0 2 := fr10_30.rd
theorem fg11_82 : FRr RX11 82 10 0 2 := ⟨RX10, TX10, 8, tyX10, cok10, by decide, rfl, Or.inr ⟨"SleepyHelm", mgN 196 (by decide +kernel) rfl⟩⟩
theorem fg9_84 : FRr RX9 84 10 0 2 := ⟨RX10, TX10, 8, tyX10, cok10, by decide, rfl, Or.inr ⟨"SleepyHelm", mgN 197 (by decide +kernel) rfl⟩⟩
theorem fr10_9 : FR RX10 9 10 1 2 true := ⟨RX10, TX10, 8, tyX10, cok10, by decide, rfl, rfl, fun _ => rfl, Or.inl (mgG 198 (by decide +kernel) rfl)⟩
theorem fg10_9 : FRr RX10 9 10 1 2 := fr10_9.rd
theorem fr10_15 : FR RX10 15 10 2 2 true := ⟨RX10, TX10, 8, tyX10, cok10, by decide, rfl, rfl, fun _ => rfl, Or.inl (mgG 199 (by decide +kernel) rfl)⟩
theorem fg10_15 : FRr RX10 15 10 2 2 := fr10_15.rd
theorem fg11_284 : FRr RX11 284 10 2 2 := ⟨RX10, TX10, 8, tyX10, cok10, by decide, rfl, Or.inr ⟨"SleepyHelm", mgN 200 (by decide +kernel) rfl⟩⟩
theorem fr10_18 : FR RX10 18 10 3 2 true := ⟨RX10, TX10, 8, tyX10, cok10, by decide, rfl, rfl, fun _ => rfl, Or.inl (mgG 201 (by decide +kernel) rfl)⟩
theorem fg10_18 : FRr RX10 18 10 3 2 := fr10_18.rd
theorem fg11_287 : FRr RX11 287 10 3 2 := ⟨RX10, TX10, 8, tyX10, cok10, by decide, rfl, Or.inr ⟨"SleepyHelm", mgN 202 (by decide +kernel) rfl⟩⟩
theorem fr10_23 : FR RX10 23 10 4 2 true := ⟨RX10, TX10, 8, tyX10, cok10, by decide, rfl, rfl, fun _ => rfl, Or.inl (mgG 203 (by decide +kernel) rfl)⟩
theorem fg10_23 : FRr RX10 23 10 4 2 := fr10_23.rd
theorem fr10_37 : FR RX10 37 10 5 0 false := ⟨RX10, TX10, 8, tyX10, cok10, by decide, rfl, rfl, fun _ => rfl, Or.inl (mgG 204 (by decide +kernel) rfl)⟩
theorem fg10_37 : FRr RX10 37 10 5 0 := fr10_37.rd
theorem fg11_106 : FRr RX11 106 10 5 0 := ⟨RX10, TX10, 8, tyX10, cok10, by decide, rfl, Or.inr ⟨"SleepyHelm", mgN 205 (by decide +kernel) rfl⟩⟩
theorem fr11_106 : FR RX11 106 10 5 0 false := ⟨RX10, TX10, 8, tyX10, cok10, by decide, rfl, rfl, (fun h => by cases h), Or.inr ⟨"SleepyHelm", rfl, mgN 205 (by decide +kernel) rfl⟩⟩
theorem fg9_67 : FRr RX9 67 10 5 0 := ⟨RX10, TX10, 8, tyX10, cok10, by decide, rfl, Or.inr ⟨"SleepyHelm", mgN 206 (by decide +kernel) rfl⟩⟩
theorem fr9_67 : FR RX9 67 10 5 0 false := ⟨RX10, TX10, 8, tyX10, cok10, by decide, rfl, rfl, (fun h => by cases h), Or.inr ⟨"SleepyHelm", rfl, mgN 206 (by decide +kernel) rfl⟩⟩
theorem fr10_41 : FR RX10 41 10 6 0 false := ⟨RX10, TX10, 8, tyX10, cok10, by decide, rfl, rfl, fun _ => rfl, Or.inl (mgG 207 (by decide +kernel) rfl)⟩
theorem fg10_41 : FRr RX10 41 10 6 0 := fr10_41.rd
theorem fg11_216 : FRr RX11 216 10 6 0 := ⟨RX10, TX10, 8, tyX10, cok10, by decide, rfl, Or.inr ⟨"SleepyHelm", mgN 208 (by decide +kernel) rfl⟩⟩
theorem fr11_216 : FR RX11 216 10 6 0 false := ⟨RX10, TX10, 8, tyX10, cok10, by decide, rfl, rfl, (fun h => by cases h), Or.inr ⟨"SleepyHelm", rfl, mgN 208 (by decide +kernel) rfl⟩⟩
theorem fr10_44 : FR RX10 44 10 7 0 false := ⟨RX10, TX10, 8, tyX10, cok10, by decide, rfl, rfl, fun _ => rfl, Or.inl (mgG 209 (by decide +kernel) rfl)⟩
theorem fg10_44 : FRr RX10 44 10 7 0 := fr10_44.rd
theorem fg11_278 : FRr RX11 278 10 7 0 := ⟨RX10, TX10, 8, tyX10, cok10, by decide, rfl, Or.inr ⟨"SleepyHelm", mgN 210 (by decide +kernel) rfl⟩⟩
theorem fr11_278 : FR RX11 278 10 7 0 false := ⟨RX10, TX10, 8, tyX10, cok10, by decide, rfl, rfl, (fun h => by cases h), Or.inr ⟨"SleepyHelm", rfl, mgN 210 (by decide +kernel) rfl⟩⟩
theorem fr3_23 : FR RX3 23 3 0 2 true := ⟨RX3, TX3, 3, tyX3, cok3, by decide, rfl, rfl, fun _ => rfl, Or.inl (mgG 239 (by decide +kernel) rfl)⟩
theorem fg3_23 : FRr RX3 23 3 0 2 := fr3_23.rd
theorem fr3_9 : FR RX3 9 3 1 2 true := ⟨RX3, TX3, 3, tyX3, cok3, by decide, rfl, rfl, fun _ => rfl, Or.inl (mgG 240 (by decide +kernel) rfl)⟩
theorem fg3_9 : FRr RX3 9 3 1 2 := fr3_9.rd
theorem fg11_191 : FRr RX11 191 3 1 2 := ⟨RX3, TX3, 3, tyX3, cok3, by decide, rfl, Or.inr ⟨"SleepyHelm", mgN 241 (by decide +kernel) rfl⟩⟩
theorem fr3_15 : FR RX3 15 3 2 2 true := ⟨RX3, TX3, 3, tyX3, cok3, by decide, rfl, rfl, fun _ => rfl, Or.inl (mgG 242 (by decide +kernel) rfl)⟩
theorem fg3_15 : FRr RX3 15 3 2 2 := fr3_15.rd
theorem fg11_194 : FRr RX11 194 3 2 2 := ⟨RX3, TX3, 3, tyX3, cok3, by decide, rfl, Or.inr ⟨"SleepyHelm", mgN 243 (by decide +kernel) rfl⟩⟩
theorem fr6_11 : FR RX6 11 6 0 2 true := ⟨RX6, TX6, 6, tyX6, cok6, by decide, rfl, rfl, fun _ => rfl, Or.inl (mgG 260 (by decide +kernel) rfl)⟩
theorem fg6_11 : FRr RX6 11 6 0 2 := fr6_11.rd
theorem fr6_17 : FR RX6 17 6 1 2 true := ⟨RX6, TX6, 6, tyX6, cok6, by decide, rfl, rfl, fun _ => rfl, Or.inl (mgG 261 (by decide +kernel) rfl)⟩
theorem fg6_17 : FRr RX6 17 6 1 2 := fr6_17.rd
theorem fr6_21 : FR RX6 21 6 2 2 true := ⟨RX6, TX6, 6, tyX6, cok6, by decide, rfl, rfl, fun _ => rfl, Or.inl (mgG 262 (by decide +kernel) rfl)⟩
theorem fg6_21 : FRr RX6 21 6 2 2 := fr6_21.rd
theorem fg11_204 : FRr RX11 204 6 2 2 := ⟨RX6, TX6, 6, tyX6, cok6, by decide, rfl, Or.inr ⟨"SleepyHelm", mgN 263 (by decide +kernel) rfl⟩⟩
theorem fr6_27 : FR RX6 27 6 3 0 false := ⟨RX6, TX6, 6, tyX6, cok6, by decide, rfl, rfl, fun _ => rfl, Or.inl (mgG 264 (by decide +kernel) rfl)⟩
theorem fg6_27 : FRr RX6 27 6 3 0 := fr6_27.rd
theorem fr6_37 : FR RX6 37 6 4 0 false := ⟨RX6, TX6, 6, tyX6, cok6, by decide, rfl, rfl, fun _ => rfl, Or.inl (mgG 265 (by decide +kernel) rfl)⟩
theorem fg6_37 : FRr RX6 37 6 4 0 := fr6_37.rd
theorem fr6_40 : FR RX6 40 6 5 0 false := ⟨RX6, TX6, 6, tyX6, cok6, by decide, rfl, rfl, fun _ => rfl, Or.inl (mgG 266 (by decide +kernel) rfl)⟩
theorem fg6_40 : FRr RX6 40 6 5 0 := fr6_40.rd
theorem fg11_201 : FRr RX11 201 6 5 0 := ⟨RX6, TX6, 6, tyX6, cok6, by decide, rfl, Or.inr ⟨"SleepyHelm", mgN 267 (by decide +kernel) rfl⟩⟩
theorem fr11_201 : FR RX11 201 6 5 0 false := ⟨RX6, TX6, 6, tyX6, cok6, by decide, rfl, rfl, (fun h => by cases h), Or.inr ⟨"SleepyHelm", rfl, mgN 267 (by decide +kernel) rfl⟩⟩
theorem fr9_9 : FR RX9 9 9 0 2 true := ⟨RX9, TX9, 7, tyX9, cok9, by decide, rfl, rfl, fun _ => rfl, Or.inl (mgG 287 (by decide +kernel) rfl)⟩
theorem fg9_9 : FRr RX9 9 9 0 2 := fr9_9.rd
theorem fr9_15 : FR RX9 15 9 1 0 false := ⟨RX9, TX9, 7, tyX9, cok9, by decide, rfl, rfl, fun _ => rfl, Or.inl (mgG 288 (by decide +kernel) rfl)⟩
theorem fg9_15 : FRr RX9 15 9 1 0 := fr9_15.rd
theorem fg11_127 : FRr RX11 127 9 1 0 := ⟨RX9, TX9, 7, tyX9, cok9, by decide, rfl, Or.inr ⟨"SleepyHelm", mgN 289 (by decide +kernel) rfl⟩⟩
theorem fr11_127 : FR RX11 127 9 1 0 false := ⟨RX9, TX9, 7, tyX9, cok9, by decide, rfl, rfl, (fun h => by cases h), Or.inr ⟨"SleepyHelm", rfl, mgN 289 (by decide +kernel) rfl⟩⟩
theorem fr9_24 : FR RX9 24 9 2 0 false := ⟨RX9, TX9, 7, tyX9, cok9, by decide, rfl, rfl, fun _ => rfl, Or.inl (mgG 290 (by decide +kernel) rfl)⟩
theorem fg9_24 : FRr RX9 24 9 2 0 := fr9_24.rd
theorem fg11_137 : FRr RX11 137 9 2 0 := ⟨RX9, TX9, 7, tyX9, cok9, by decide, rfl, Or.inr ⟨"SleepyHelm", mgN 291 (by decide +kernel) rfl⟩⟩
theorem fr11_137 : FR RX11 137 9 2 0 false := ⟨RX9, TX9, 7, tyX9, cok9, by decide, rfl, rfl, (fun h => by cases h), Or.inr ⟨"SleepyHelm", rfl, mgN 291 (by decide +kernel) rfl⟩⟩
theorem fr9_45 : FR RX9 45 9 3 0 false := ⟨RX9, TX9, 7, tyX9, cok9, by decide, rfl, rfl, fun _ => rfl, Or.inl (mgG 292 (by decide +kernel) rfl)⟩
theorem fg9_45 : FRr RX9 45 9 3 0 := fr9_45.rd
theorem fr9_101 : FR RX9 101 9 4 0 false := ⟨RX9, TX9, 7, tyX9, cok9, by decide, rfl, rfl, fun _ => rfl, Or.inl (mgG 293 (by decide +kernel) rfl)⟩
theorem fg9_101 : FRr RX9 101 9 4 0 := fr9_101.rd
theorem fr9_27 : FR RX9 27 9 5 0 false := ⟨RX9, TX9, 7, tyX9, cok9, by decide, rfl, rfl, fun _ => rfl, Or.inl (mgG 294 (by decide +kernel) rfl)⟩
theorem fg9_27 : FRr RX9 27 9 5 0 := fr9_27.rd
theorem fr9_70 : FR RX9 70 9 6 0 false := ⟨RX9, TX9, 7, tyX9, cok9, by decide, rfl, rfl, fun _ => rfl, Or.inl (mgG 295 (by decide +kernel) rfl)⟩
theorem fg9_70 : FRr RX9 70 9 6 0 := fr9_70.rd
theorem fr11_32 : FR RX11 32 11 0 2 true := ⟨RX11, TX11, 13, tyX11, cok11, by decide, rfl, rfl, fun _ => rfl, Or.inl (mgG 311 (by decide +kernel) rfl)⟩
theorem fg11_32 : FRr RX11 32 11 0 2 := fr11_32.rd
theorem fr11_36 : FR RX11 36 11 1 2 true := ⟨RX11, TX11, 13, tyX11, cok11, by decide, rfl, rfl, fun _ => rfl, Or.inl (mgG 312 (by decide +kernel) rfl)⟩
theorem fg11_36 : FRr RX11 36 11 1 2 := fr11_36.rd
theorem fr11_39 : FR RX11 39 11 2 2 true := ⟨RX11, TX11, 13, tyX11, cok11, by decide, rfl, rfl, fun _ => rfl, Or.inl (mgG 313 (by decide +kernel) rfl)⟩
theorem fg11_39 : FRr RX11 39 11 2 2 := fr11_39.rd
theorem fr11_43 : FR RX11 43 11 3 2 true := ⟨RX11, TX11, 13, tyX11, cok11, by decide, rfl, rfl, fun _ => rfl, Or.inl (mgG 314 (by decide +kernel) rfl)⟩
theorem fg11_43 : FRr RX11 43 11 3 2 := fr11_43.rd
theorem fr11_50 : FR RX11 50 11 4 2 true := ⟨RX11, TX11, 13, tyX11, cok11, by decide, rfl, rfl, fun _ => rfl, Or.inl (mgG 315 (by decide +kernel) rfl)⟩
theorem fg11_50 : FRr RX11 50 11 4 2 := fr11_50.rd
theorem fr11_57 : FR RX11 57 11 5 2 true := ⟨RX11, TX11, 13, tyX11, cok11, by decide, rfl, rfl, fun _ => rfl, Or.inl (mgG 316 (by decide +kernel) rfl)⟩
theorem fg11_57 : FRr RX11 57 11 5 2 := fr11_57.rd
theorem fr11_64 : FR RX11 64 11 6 2 true := ⟨RX11, TX11, 13, tyX11, cok11, by decide, rfl, rfl, fun _ => rfl, Or.inl (mgG 317 (by decide +kernel) rfl)⟩
theorem fg11_64 : FRr RX11 64 11 6 2 := fr11_64.rd
theorem fr11_71 : FR RX11 71 11 7 2 true := ⟨RX11, TX11, 13, tyX11, cok11, by decide, rfl, rfl, fun _ => rfl, Or.inl (mgG 318 (by decide +kernel) rfl)⟩
theorem fg11_71 : FRr RX11 71 11 7 2 := fr11_71.rd
theorem fr11_75 : FR RX11 75 11 8 0 false := ⟨RX11, TX11, 13, tyX11, cok11, by decide, rfl, rfl, fun _ => rfl, Or.inl (mgG 319 (by decide +kernel) rfl)⟩
theorem fg11_75 : FRr RX11 75 11 8 0 := fr11_75.rd
theorem fr11_79 : FR RX11 79 11 9 0 false := ⟨RX11, TX11, 13, tyX11, cok11, by decide, rfl, rfl, fun _ => rfl, Or.inl (mgG 320 (by decide +kernel) rfl)⟩
theorem fg11_79 : FRr RX11 79 11 9 0 := fr11_79.rd
theorem fr11_258 : FR RX11 258 11 10 0 false := ⟨RX11, TX11, 13, tyX11, cok11, by decide, rfl, rfl, fun _ => rfl, Or.inl (mgG 321 (by decide +kernel) rfl)⟩
theorem fg11_258 : FRr RX11 258 11 10 0 := fr11_258.rd
theorem fr11_261 : FR RX11 261 11 11 0 false := ⟨RX11, TX11, 13, tyX11, cok11, by decide, rfl, rfl, fun _ => rfl, Or.inl (mgG 322 (by decide +kernel) rfl)⟩
theorem fg11_261 : FRr RX11 261 11 11 0 := fr11_261.rd
theorem fr11_264 : FR RX11 264 11 12 0 false := ⟨RX11, TX11, 13, tyX11, cok11, by decide, rfl, rfl, fun _ => rfl, Or.inl (mgG 323 (by decide +kernel) rfl)⟩
theorem fg11_264 : FRr RX11 264 11 12 0 := fr11_264.rd
theorem fr12_1 : FR RX12 1 12 0 2 true := ⟨RX12, TX12, 33, tyX12, cok12, by decide, rfl, rfl, fun _ => rfl, Or.inl (mgG 836 (by decide +kernel) rfl)⟩
theorem fg12_1 : FRr RX12 1 12 0 2 := fr12_1.rd
theorem fr12_74 : FR RX12 74 12 1 0 false := ⟨RX12, TX12, 33, tyX12, cok12, by decide, rfl, rfl, fun _ => rfl, Or.inl (mgG 837 (by decide +kernel) rfl)⟩
theorem fg12_74 : FRr RX12 74 12 1 0 := fr12_74.rd
theorem fr12_78 : FR RX12 78 12 2 0 false := ⟨RX12, TX12, 33, tyX12, cok12, by decide, rfl, rfl, fun _ => rfl, Or.inl (mgG 838 (by decide +kernel) rfl)⟩
theorem fg12_78 : FRr RX12 78 12 2 0 := fr12_78.rd
theorem fr12_81 : FR RX12 81 12 3 0 false := ⟨RX12, TX12, 33, tyX12, cok12, by decide, rfl, rfl, fun _ => rfl, Or.inl (mgG 839 (by decide +kernel) rfl)⟩
theorem fg12_81 : FRr RX12 81 12 3 0 := fr12_81.rd
theorem fr12_84 : FR RX12 84 12 4 0 false := ⟨RX12, TX12, 33, tyX12, cok12, by decide, rfl, rfl, fun _ => rfl, Or.inl (mgG 840 (by decide +kernel) rfl)⟩
theorem fg12_84 : FRr RX12 84 12 4 0 := fr12_84.rd
theorem fr12_87 : FR RX12 87 12 5 0 false := ⟨RX12, TX12, 33, tyX12, cok12, by decide, rfl, rfl, fun _ => rfl, Or.inl (mgG 841 (by decide +kernel) rfl)⟩
theorem fg12_87 : FRr RX12 87 12 5 0 := fr12_87.rd
theorem fr12_13 : FR RX12 13 12 6 2 true := ⟨RX12, TX12, 33, tyX12, cok12, by decide, rfl, rfl, fun _ => rfl, Or.inl (mgG 842 (by decide +kernel) rfl)⟩
theorem fg12_13 : FRr RX12 13 12 6 2 := fr12_13.rd
theorem fr12_16 : FR RX12 16 12 7 2 true := ⟨RX12, TX12, 33, tyX12, cok12, by decide, rfl, rfl, fun _ => rfl, Or.inl (mgG 843 (by decide +kernel) rfl)⟩
theorem fg12_16 : FRr RX12 16 12 7 2 := fr12_16.rd
theorem fr12_19 : FR RX12 19 12 8 2 true := ⟨RX12, TX12, 33, tyX12, cok12, by decide, rfl, rfl, fun _ => rfl, Or.inl (mgG 844 (by decide +kernel) rfl)⟩
theorem fg12_19 : FRr RX12 19 12 8 2 := fr12_19.rd
theorem fr12_22 : FR RX12 22 12 9 2 true := ⟨RX12, TX12, 33, tyX12, cok12, by decide, rfl, rfl, fun _ => rfl, Or.inl (mgG 845 (by decide +kernel) rfl)⟩
theorem fg12_22 : FRr RX12 22 12 9 2 := fr12_22.rd
theorem fr12_25 : FR RX12 25 12 10 2 true := ⟨RX12, TX12, 33, tyX12, cok12, by decide, rfl, rfl, fun _ => rfl, Or.inl (mgG 846 (by decide +kernel) rfl)⟩
theorem fg12_25 : FRr RX12 25 12 10 2 := fr12_25.rd
theorem fr12_28 : FR RX12 28 12 11 2 true := ⟨RX12, TX12, 33, tyX12, cok12, by decide, rfl, rfl, fun _ => rfl, Or.inl (mgG 847 (by decide +kernel) rfl)⟩
theorem fg12_28 : FRr RX12 28 12 11 2 := fr12_28.rd
theorem fr12_31 : FR RX12 31 12 12 2 true := ⟨RX12, TX12, 33, tyX12, cok12, by decide, rfl, rfl, fun _ => rfl, Or.inl (mgG 848 (by decide +kernel) rfl)⟩
theorem fg12_31 : FRr RX12 31 12 12 2 := fr12_31.rd
theorem fr12_34 : FR RX12 34 12 13 2 true := ⟨RX12, TX12, 33, tyX12, cok12, by decide, rfl, rfl, fun _ => rfl, Or.inl (mgG 849 (by decide +kernel) rfl)⟩
theorem fg12_34 : FRr RX12 34 12 13 2 := fr12_34.rd
theorem fr12_119 : FR RX12 119 12 14 0 false := ⟨RX12, TX12, 33, tyX12, cok12, by decide, rfl, rfl, fun _ => rfl, Or.inl (mgG 850 (by decide +kernel) rfl)⟩
theorem fg12_119 : FRr RX12 119 12 14 0 := fr12_119.rd
theorem fr12_122 : FR RX12 122 12 15 0 false := ⟨RX12, TX12, 33, tyX12, cok12, by decide, rfl, rfl, fun _ => rfl, Or.inl (mgG 851 (by decide +kernel) rfl)⟩
theorem fg12_122 : FRr RX12 122 12 15 0 := fr12_122.rd
theorem fr12_154 : FR RX12 154 12 16 0 false := ⟨RX12, TX12, 33, tyX12, cok12, by decide, rfl, rfl, fun _ => rfl, Or.inl (mgG 852 (by decide +kernel) rfl)⟩
theorem fg12_154 : FRr RX12 154 12 16 0 := fr12_154.rd
theorem fr12_161 : FR RX12 161 12 17 0 false := ⟨RX12, TX12, 33, tyX12, cok12, by decide, rfl, rfl, fun _ => rfl, Or.inl (mgG 853 (by decide +kernel) rfl)⟩
theorem fg12_161 : FRr RX12 161 12 17 0 := fr12_161.rd
theorem fr12_37 : FR RX12 37 12 18 2 true := ⟨RX12, TX12, 33, tyX12, cok12, by decide, rfl, rfl, fun _ => rfl, Or.inl (mgG 854 (by decide +kernel) rfl)⟩
theorem fg12_37 : FRr RX12 37 12 18 2 := fr12_37.rd
theorem fr12_40 : FR RX12 40 12 19 2 true := ⟨RX12, TX12, 33, tyX12, cok12, by decide, rfl, rfl, fun _ => rfl, Or.inl (mgG 855 (by decide +kernel) rfl)⟩
theorem fg12_40 : FRr RX12 40 12 19 2 := fr12_40.rd
theorem fr12_147 : FR RX12 147 12 20 0 false := ⟨RX12, TX12, 33, tyX12, cok12, by decide, rfl, rfl, fun _ => rfl, Or.inl (mgG 856 (by decide +kernel) rfl)⟩
theorem fg12_147 : FRr RX12 147 12 20 0 := fr12_147.rd
theorem fr12_43 : FR RX12 43 12 21 2 true := ⟨RX12, TX12, 33, tyX12, cok12, by decide, rfl, rfl, fun _ => rfl, Or.inl (mgG 857 (by decide +kernel) rfl)⟩
theorem fg12_43 : FRr RX12 43 12 21 2 := fr12_43.rd
theorem fr12_90 : FR RX12 90 12 22 0 false := ⟨RX12, TX12, 33, tyX12, cok12, by decide, rfl, rfl, fun _ => rfl, Or.inl (mgG 858 (by decide +kernel) rfl)⟩
theorem fg12_90 : FRr RX12 90 12 22 0 := fr12_90.rd
theorem fr12_46 : FR RX12 46 12 23 2 true := ⟨RX12, TX12, 33, tyX12, cok12, by decide, rfl, rfl, fun _ => rfl, Or.inl (mgG 859 (by decide +kernel) rfl)⟩
theorem fg12_46 : FRr RX12 46 12 23 2 := fr12_46.rd
theorem fr12_49 : FR RX12 49 12 24 2 true := ⟨RX12, TX12, 33, tyX12, cok12, by decide, rfl, rfl, fun _ => rfl, Or.inl (mgG 860 (by decide +kernel) rfl)⟩
theorem fg12_49 : FRr RX12 49 12 24 2 := fr12_49.rd
theorem fr12_52 : FR RX12 52 12 25 2 true := ⟨RX12, TX12, 33, tyX12, cok12, by decide, rfl, rfl, fun _ => rfl, Or.inl (mgG 861 (by decide +kernel) rfl)⟩
theorem fg12_52 : FRr RX12 52 12 25 2 := fr12_52.rd
theorem fr12_55 : FR RX12 55 12 26 2 true := ⟨RX12, TX12, 33, tyX12, cok12, by decide, rfl, rfl, fun _ => rfl, Or.inl (mgG 862 (by decide +kernel) rfl)⟩
theorem fg12_55 : FRr RX12 55 12 26 2 := fr12_55.rd
theorem fr12_58 : FR RX12 58 12 27 2 true := ⟨RX12, TX12, 33, tyX12, cok12, by decide, rfl, rfl, fun _ => rfl, Or.inl (mgG 863 (by decide +kernel) rfl)⟩
theorem fg12_58 : FRr RX12 58 12 27 2 := fr12_58.rd
theorem fr12_249 : FR RX12 249 12 28 1 false := ⟨RX12, TX12, 33, tyX12, cok12, by decide, rfl, rfl, fun _ => rfl, Or.inl (mgG 864 (by decide +kernel) rfl)⟩
theorem fg12_249 : FRr RX12 249 12 28 1 := fr12_249.rd
theorem fr12_61 : FR RX12 61 12 29 1 false := ⟨RX12, TX12, 33, tyX12, cok12, by decide, rfl, rfl, fun _ => rfl, Or.inl (mgG 865 (by decide +kernel) rfl)⟩
theorem fg12_61 : FRr RX12 61 12 29 1 := fr12_61.rd
theorem fr12_65 : FR RX12 65 12 30 2 true := ⟨RX12, TX12, 33, tyX12, cok12, by decide, rfl, rfl, fun _ => rfl, Or.inl (mgG 866 (by decide +kernel) rfl)⟩
theorem fg12_65 : FRr RX12 65 12 30 2 := fr12_65.rd
theorem fr12_68 : FR RX12 68 12 31 2 true := ⟨RX12, TX12, 33, tyX12, cok12, by decide, rfl, rfl, fun _ => rfl, Or.inl (mgG 867 (by decide +kernel) rfl)⟩
theorem fg12_68 : FRr RX12 68 12 31 2 := fr12_68.rd
theorem fr12_274 : FR RX12 274 12 32 1 false := ⟨RX12, TX12, 33, tyX12, cok12, by decide, rfl, rfl, fun _ => rfl, Or.inl (mgG 868 (by decide +kernel) rfl)⟩
theorem fg12_274 : FRr RX12 274 12 32 1 := fr12_274.rd
theorem oi11_1 : Cond.methodLink RX11 1 objectInit ∈ wsG := mgG 91 (by decide +kernel) rfl
theorem ct11_11 : CIn RX11 11 iX7_init := ⟨rfl, rfl, mgG 98 (by decide +kernel) rfl, Or.inr ⟨"SleepyHelm", mgN 97 (by decide +kernel) rfl⟩⟩
theorem oi7_1 : Cond.methodLink RX7 1 objectInit ∈ wsG := mgG 100 (by decide +kernel) rfl
theorem ct11_14 : CIn RX11 14 iX1_init := ⟨rfl, rfl, mgG 105 (by decide +kernel) rfl, Or.inr ⟨"SleepyHelm", mgN 104 (by decide +kernel) rfl⟩⟩
theorem ct1_1 : CIn RX1 1 iX7_init := ⟨rfl, rfl, mgG 98 (by decide +kernel) rfl, Or.inr ⟨"SleepyHelm", mgN 107 (by decide +kernel) rfl⟩⟩
theorem ct11_17 : CIn RX11 17 iX8_init := ⟨rfl, rfl, mgG 112 (by decide +kernel) rfl, Or.inr ⟨"SleepyHelm", mgN 111 (by decide +kernel) rfl⟩⟩
theorem ct8_1 : CIn RX8 1 iX7_init := ⟨rfl, rfl, mgG 98 (by decide +kernel) rfl, Or.inr ⟨"SleepyHelm", mgN 114 (by decide +kernel) rfl⟩⟩
theorem ct11_20 : CIn RX11 20 iX2_init := ⟨rfl, rfl, mgG 119 (by decide +kernel) rfl, Or.inr ⟨"SleepyHelm", mgN 118 (by decide +kernel) rfl⟩⟩
theorem ct2_1 : CIn RX2 1 iX7_init := ⟨rfl, rfl, mgG 98 (by decide +kernel) rfl, Or.inr ⟨"SleepyHelm", mgN 121 (by decide +kernel) rfl⟩⟩
theorem ct11_23 : CIn RX11 23 iX5_init := ⟨rfl, rfl, mgG 126 (by decide +kernel) rfl, Or.inr ⟨"SleepyHelm", mgN 125 (by decide +kernel) rfl⟩⟩
theorem ct5_1 : CIn RX5 1 iX1_init := ⟨rfl, rfl, mgG 105 (by decide +kernel) rfl, Or.inr ⟨"SleepyHelm", mgN 128 (by decide +kernel) rfl⟩⟩
theorem ct11_26 : CIn RX11 26 iX0_init := ⟨rfl, rfl, mgG 133 (by decide +kernel) rfl, Or.inr ⟨"SleepyHelm", mgN 132 (by decide +kernel) rfl⟩⟩
theorem ct0_1 : CIn RX0 1 iX8_init := ⟨rfl, rfl, mgG 112 (by decide +kernel) rfl, Or.inr ⟨"SleepyHelm", mgN 135 (by decide +kernel) rfl⟩⟩
theorem ct11_29 : CIn RX11 29 iX10_init := ⟨rfl, rfl, mgG 140 (by decide +kernel) rfl, Or.inl (mgG 139 (by decide +kernel) rfl)⟩
theorem oi10_3 : Cond.methodLink RX10 3 objectInit ∈ wsG := mgG 142 (by decide +kernel) rfl
theorem ct10_27 : CIn RX10 27 iX4_init := ⟨rfl, rfl, mgG 147 (by decide +kernel) rfl, Or.inl (mgG 146 (by decide +kernel) rfl)⟩
theorem oi4_3 : Cond.methodLink RX4 3 objectInit ∈ wsG := mgG 149 (by decide +kernel) rfl
theorem ct11_49 : CIn RX11 49 iX4_init := ⟨rfl, rfl, mgG 147 (by decide +kernel) rfl, Or.inl (mgG 230 (by decide +kernel) rfl)⟩
theorem ct11_56 : CIn RX11 56 iX3_init := ⟨rfl, rfl, mgG 234 (by decide +kernel) rfl, Or.inl (mgG 233 (by decide +kernel) rfl)⟩
theorem oi3_3 : Cond.methodLink RX3 3 objectInit ∈ wsG := mgG 236 (by decide +kernel) rfl
theorem ct3_20 : CIn RX3 20 iX4_init := ⟨rfl, rfl, mgG 147 (by decide +kernel) rfl, Or.inl (mgG 238 (by decide +kernel) rfl)⟩
theorem ct11_63 : CIn RX11 63 iX6_init := ⟨rfl, rfl, mgG 255 (by decide +kernel) rfl, Or.inl (mgG 254 (by decide +kernel) rfl)⟩
theorem oi6_3 : Cond.methodLink RX6 3 objectInit ∈ wsG := mgG 257 (by decide +kernel) rfl
theorem ct6_24 : CIn RX6 24 iX4_init := ⟨rfl, rfl, mgG 147 (by decide +kernel) rfl, Or.inl (mgG 259 (by decide +kernel) rfl)⟩
theorem ct11_70 : CIn RX11 70 iX9_init := ⟨rfl, rfl, mgG 284 (by decide +kernel) rfl, Or.inr ⟨"SleepyHelm", mgN 283 (by decide +kernel) rfl⟩⟩
theorem oi9_3 : Cond.methodLink RX9 3 objectInit ∈ wsG := mgG 286 (by decide +kernel) rfl
theorem cv11_88 : CVi RX11 88 iX10_begin 10 := ⟨_, rfl, by decide, mgG 355 (by decide +kernel) rfl, mgG 356 (by decide +kernel) rfl, mgG 357 (by decide +kernel) rfl⟩
theorem cv10_34 : CVi RX10 34 iX4_begin 4 := ⟨_, rfl, by decide, mgG 359 (by decide +kernel) rfl, mgG 360 (by decide +kernel) rfl, mgG 361 (by decide +kernel) rfl⟩
theorem cs11_91 : CSt RX11 91 iX11_isPlace := ⟨mgG 367 (by decide +kernel) rfl, mgG 368 (by decide +kernel) rfl⟩
theorem cs11_116 : CSt RX11 116 iX11_isWithin := ⟨mgG 370 (by decide +kernel) rfl, mgG 371 (by decide +kernel) rfl⟩
theorem cv11_95 : CVi RX11 95 iX11_refuseBad 11 := ⟨_, rfl, by decide, mgG 373 (by decide +kernel) rfl, mgG 375 (by decide +kernel) rfl, mgG 0 (by decide +kernel) rfl⟩
theorem cv11_99 : CVi RX11 99 iX10_isRock 10 := ⟨_, rfl, by decide, mgG 377 (by decide +kernel) rfl, mgG 378 (by decide +kernel) rfl, mgG 379 (by decide +kernel) rfl⟩
theorem cv11_102 : CVi RX11 102 iX11_refuseNo 11 := ⟨_, rfl, by decide, mgG 381 (by decide +kernel) rfl, mgG 383 (by decide +kernel) rfl, mgG 1 (by decide +kernel) rfl⟩
theorem cv11_109 : CVi RX11 109 iX11_refuseFull 11 := ⟨_, rfl, by decide, mgG 385 (by decide +kernel) rfl, mgG 387 (by decide +kernel) rfl, mgG 2 (by decide +kernel) rfl⟩
theorem cv11_112 : CVi RX11 112 iX10_addRock 10 := ⟨_, rfl, by decide, mgG 389 (by decide +kernel) rfl, mgG 390 (by decide +kernel) rfl, mgG 391 (by decide +kernel) rfl⟩
theorem cs11_120 : CSt RX11 120 iX11_isNods := ⟨mgG 397 (by decide +kernel) rfl, mgG 398 (by decide +kernel) rfl⟩
theorem cv11_123 : CVi RX11 123 iX10_addHand 10 := ⟨_, rfl, by decide, mgG 400 (by decide +kernel) rfl, mgG 401 (by decide +kernel) rfl, mgG 402 (by decide +kernel) rfl⟩
theorem cv11_130 : CVi RX11 130 iX9_append 9 := ⟨_, rfl, by decide, mgG 408 (by decide +kernel) rfl, mgG 409 (by decide +kernel) rfl, mgG 410 (by decide +kernel) rfl⟩
theorem cv11_133 : CVi RX11 133 iX9_parse 9 := ⟨_, rfl, by decide, mgG 420 (by decide +kernel) rfl, mgG 421 (by decide +kernel) rfl, mgG 422 (by decide +kernel) rfl⟩
theorem cv9_19 : CVi RX9 19 iX10_begin 10 := ⟨_, rfl, by decide, mgG 424 (by decide +kernel) rfl, mgG 356 (by decide +kernel) rfl, mgG 357 (by decide +kernel) rfl⟩
theorem cv9_30 : CVi RX9 30 iX9_advance 9 := ⟨_, rfl, by decide, mgG 425 (by decide +kernel) rfl, mgG 427 (by decide +kernel) rfl, mgG 3 (by decide +kernel) rfl⟩
theorem cs9_113 : CSt RX9 113 iX9_isLetter := ⟨mgG 429 (by decide +kernel) rfl, mgG 430 (by decide +kernel) rfl⟩
theorem cv9_116 : CVi RX9 116 iX9_advanceOverWord 9 := ⟨_, rfl, by decide, mgG 432 (by decide +kernel) rfl, mgG 434 (by decide +kernel) rfl, mgG 4 (by decide +kernel) rfl⟩
theorem cs9_119 : CSt RX9 119 iX9_isFigure := ⟨mgG 436 (by decide +kernel) rfl, mgG 437 (by decide +kernel) rfl⟩
theorem cv9_122 : CVi RX9 122 iX9_advanceOverNumber 9 := ⟨_, rfl, by decide, mgG 439 (by decide +kernel) rfl, mgG 441 (by decide +kernel) rfl, mgG 5 (by decide +kernel) rfl⟩
theorem cv9_35 : CVi RX9 35 iX9_isWord 9 := ⟨_, rfl, by decide, mgG 444 (by decide +kernel) rfl, mgG 446 (by decide +kernel) rfl, mgG 6 (by decide +kernel) rfl⟩
theorem sl9_104 : Cond.methodLink RX9 104 ⟨"java/lang/String", "length", "()I"⟩ ∈ wsG := mgG 448 (by decide +kernel) rfl
theorem sl9_109 : Cond.methodLink RX9 109 ⟨"java/lang/String", "charAt", "(I)C"⟩ ∈ wsG := mgG 458 (by decide +kernel) rfl
theorem cv9_39 : CVi RX9 39 iX9_expectStop 9 := ⟨_, rfl, by decide, mgG 496 (by decide +kernel) rfl, mgG 498 (by decide +kernel) rfl, mgG 7 (by decide +kernel) rfl⟩
theorem cv9_42 : CVi RX9 42 iX9_fail 9 := ⟨_, rfl, by decide, mgG 500 (by decide +kernel) rfl, mgG 502 (by decide +kernel) rfl, mgG 8 (by decide +kernel) rfl⟩
theorem cv9_48 : CVi RX9 48 iX9_parseItem 9 := ⟨_, rfl, by decide, mgG 504 (by decide +kernel) rfl, mgG 506 (by decide +kernel) rfl, mgG 9 (by decide +kernel) rfl⟩
theorem cv9_54 : CVi RX9 54 iX9_parseRock 9 := ⟨_, rfl, by decide, mgG 509 (by decide +kernel) rfl, mgG 511 (by decide +kernel) rfl, mgG 10 (by decide +kernel) rfl⟩
theorem cv9_73 : CVi RX9 73 iX9_isNumberUpTo 9 := ⟨_, rfl, by decide, mgG 513 (by decide +kernel) rfl, mgG 515 (by decide +kernel) rfl, mgG 11 (by decide +kernel) rfl⟩
theorem cv9_77 : CVi RX9 77 iX10_isRock 10 := ⟨_, rfl, by decide, mgG 517 (by decide +kernel) rfl, mgG 378 (by decide +kernel) rfl, mgG 379 (by decide +kernel) rfl⟩
theorem cv9_80 : CVi RX9 80 iX10_addRock 10 := ⟨_, rfl, by decide, mgG 518 (by decide +kernel) rfl, mgG 390 (by decide +kernel) rfl, mgG 391 (by decide +kernel) rfl⟩
theorem cv9_62 : CVi RX9 62 iX9_parseHand 9 := ⟨_, rfl, by decide, mgG 521 (by decide +kernel) rfl, mgG 523 (by decide +kernel) rfl, mgG 12 (by decide +kernel) rfl⟩
theorem cv9_93 : CVi RX9 93 iX9_takeNumberUpTo 9 := ⟨_, rfl, by decide, mgG 525 (by decide +kernel) rfl, mgG 527 (by decide +kernel) rfl, mgG 13 (by decide +kernel) rfl⟩
theorem cv9_97 : CVi RX9 97 iX10_addHand 10 := ⟨_, rfl, by decide, mgG 529 (by decide +kernel) rfl, mgG 401 (by decide +kernel) rfl, mgG 402 (by decide +kernel) rfl⟩
theorem cv11_140 : CVi RX11 140 iX10_take 10 := ⟨_, rfl, by decide, mgG 531 (by decide +kernel) rfl, mgG 532 (by decide +kernel) rfl, mgG 533 (by decide +kernel) rfl⟩
theorem cv10_47 : CVi RX10 47 iX4_take 4 := ⟨_, rfl, by decide, mgG 535 (by decide +kernel) rfl, mgG 536 (by decide +kernel) rfl, mgG 537 (by decide +kernel) rfl⟩
theorem ac4_38 : Cond.methodLink RX4 38 arraycopyName ∈ wsG := mgG 539 (by decide +kernel) rfl
theorem ac10_51 : Cond.methodLink RX10 51 arraycopyName ∈ wsG := mgG 542 (by decide +kernel) rfl
theorem cv11_144 : CVi RX11 144 iX11_isHand 11 := ⟨_, rfl, by decide, mgG 548 (by decide +kernel) rfl, mgG 550 (by decide +kernel) rfl, mgG 14 (by decide +kernel) rfl⟩
theorem cs11_150 : CSt RX11 150 iX11_holds := ⟨mgG 552 (by decide +kernel) rfl, mgG 553 (by decide +kernel) rfl⟩
theorem cv11_154 : CVi RX11 154 iX10_remember 10 := ⟨_, rfl, by decide, mgG 555 (by decide +kernel) rfl, mgG 556 (by decide +kernel) rfl, mgG 557 (by decide +kernel) rfl⟩
theorem cv11_157 : CVi RX11 157 iX4_steerer 4 := ⟨_, rfl, by decide, mgG 563 (by decide +kernel) rfl, mgG 564 (by decide +kernel) rfl, mgG 565 (by decide +kernel) rfl⟩
theorem cs4_50 : CSn RX4 50 iX11_holds := ⟨⟨"SleepyHelm", mgN 567 (by decide +kernel) rfl⟩, mgG 553 (by decide +kernel) rfl⟩
theorem cv4_54 : CVi RX4 54 iX4_sleepiness 4 := ⟨_, rfl, by decide, mgG 568 (by decide +kernel) rfl, mgG 569 (by decide +kernel) rfl, mgG 570 (by decide +kernel) rfl⟩
theorem cu4_44_0 : CVu RX4 44 iX7_sleepy.1 iX0_sleepy 0 := ⟨_, cX7_sleepy, 4, some .int, rfl, by decide, mgG 572 (by decide +kernel) rfl, mgG 575 (by decide +kernel) rfl, mgG 573 (by decide +kernel) rfl, mgG 576 (by decide +kernel) rfl, mgG 577 (by decide +kernel) rfl, mgG 598 (by decide +kernel) rfl, ⟨by decide +kernel, by decide +kernel⟩, rfl⟩
theorem cu4_44_1 : CVu RX4 44 iX7_sleepy.1 iX1_sleepy 1 := ⟨_, cX7_sleepy, 4, some .int, rfl, by decide, mgG 572 (by decide +kernel) rfl, mgG 575 (by decide +kernel) rfl, mgG 573 (by decide +kernel) rfl, mgG 579 (by decide +kernel) rfl, mgG 580 (by decide +kernel) rfl, mgG 598 (by decide +kernel) rfl, ⟨by decide +kernel, by decide +kernel⟩, rfl⟩
theorem cu4_44_2 : CVu RX4 44 iX7_sleepy.1 iX2_sleepy 2 := ⟨_, cX7_sleepy, 4, some .int, rfl, by decide, mgG 572 (by decide +kernel) rfl, mgG 575 (by decide +kernel) rfl, mgG 573 (by decide +kernel) rfl, mgG 586 (by decide +kernel) rfl, mgG 587 (by decide +kernel) rfl, mgG 598 (by decide +kernel) rfl, ⟨by decide +kernel, by decide +kernel⟩, rfl⟩
theorem cu4_44_5 : CVu RX4 44 iX7_sleepy.1 iX5_sleepy 5 := ⟨_, cX7_sleepy, 4, some .int, rfl, by decide, mgG 572 (by decide +kernel) rfl, mgG 575 (by decide +kernel) rfl, mgG 573 (by decide +kernel) rfl, mgG 590 (by decide +kernel) rfl, mgG 591 (by decide +kernel) rfl, mgG 598 (by decide +kernel) rfl, ⟨by decide +kernel, by decide +kernel⟩, rfl⟩
theorem cu4_44_7 : CVu RX4 44 iX7_sleepy.1 iX7_sleepy 7 := ⟨_, cX7_sleepy, 4, some .int, rfl, by decide, mgG 572 (by decide +kernel) rfl, mgG 575 (by decide +kernel) rfl, mgG 573 (by decide +kernel) rfl, mgG 574 (by decide +kernel) rfl, mgG 573 (by decide +kernel) rfl, mgG 598 (by decide +kernel) rfl, ⟨by decide +kernel, by decide +kernel⟩, rfl⟩
theorem cu4_44_8 : CVu RX4 44 iX7_sleepy.1 iX8_sleepy 8 := ⟨_, cX7_sleepy, 4, some .int, rfl, by decide, mgG 572 (by decide +kernel) rfl, mgG 575 (by decide +kernel) rfl, mgG 573 (by decide +kernel) rfl, mgG 594 (by decide +kernel) rfl, mgG 595 (by decide +kernel) rfl, mgG 598 (by decide +kernel) rfl, ⟨by decide +kernel, by decide +kernel⟩, rfl⟩
theorem cv1_7 : CSu RX1 7 iX7_sleepy := ⟨mgG 582 (by decide +kernel) rfl, mgG 575 (by decide +kernel) rfl, mgG 108 (by decide +kernel) rfl, mgG 573 (by decide +kernel) rfl, by decide +kernel⟩
theorem mm1_11 : Cond.methodLink RX1 11 Lib.Math.max.name ∈ wsG := mgG 583 (by decide +kernel) rfl
theorem cv2_7 : CSu RX2 7 iX7_sleepy := ⟨mgG 589 (by decide +kernel) rfl, mgG 575 (by decide +kernel) rfl, mgG 122 (by decide +kernel) rfl, mgG 573 (by decide +kernel) rfl, by decide +kernel⟩
theorem cv5_7 : CSu RX5 7 iX1_sleepy := ⟨mgG 593 (by decide +kernel) rfl, mgG 1247 (by decide +kernel) rfl, mgG 129 (by decide +kernel) rfl, mgG 580 (by decide +kernel) rfl, by decide +kernel⟩
theorem cv8_7 : CSu RX8 7 iX7_sleepy := ⟨mgG 597 (by decide +kernel) rfl, mgG 575 (by decide +kernel) rfl, mgG 115 (by decide +kernel) rfl, mgG 573 (by decide +kernel) rfl, by decide +kernel⟩
theorem cv11_160 : CVi RX11 160 iX4_go 4 := ⟨_, rfl, by decide, mgG 599 (by decide +kernel) rfl, mgG 600 (by decide +kernel) rfl, mgG 601 (by decide +kernel) rfl⟩
theorem mm4_58 : Cond.methodLink RX4 58 Lib.Math.max.name ∈ wsG := mgG 603 (by decide +kernel) rfl
theorem cu4_64_0 : CVu RX4 64 iX7_tires.1 iX0_tires 0 := ⟨_, cX7_tires, 1, some .int, rfl, by decide, mgG 604 (by decide +kernel) rfl, mgG 607 (by decide +kernel) rfl, mgG 605 (by decide +kernel) rfl, mgG 608 (by decide +kernel) rfl, mgG 609 (by decide +kernel) rfl, mgG 619 (by decide +kernel) rfl, ⟨by decide +kernel, by decide +kernel⟩, rfl⟩
theorem cu4_64_1 : CVu RX4 64 iX7_tires.1 iX7_tires 1 := ⟨_, cX7_tires, 1, some .int, rfl, by decide, mgG 604 (by decide +kernel) rfl, mgG 607 (by decide +kernel) rfl, mgG 605 (by decide +kernel) rfl, mgG 615 (by decide +kernel) rfl, mgG 605 (by decide +kernel) rfl, mgG 619 (by decide +kernel) rfl, ⟨by decide +kernel, by decide +kernel⟩, rfl⟩
theorem cu4_64_2 : CVu RX4 64 iX7_tires.1 iX7_tires 2 := ⟨_, cX7_tires, 1, some .int, rfl, by decide, mgG 604 (by decide +kernel) rfl, mgG 607 (by decide +kernel) rfl, mgG 605 (by decide +kernel) rfl, mgG 616 (by decide +kernel) rfl, mgG 605 (by decide +kernel) rfl, mgG 619 (by decide +kernel) rfl, ⟨by decide +kernel, by decide +kernel⟩, rfl⟩
theorem cu4_64_5 : CVu RX4 64 iX7_tires.1 iX7_tires 5 := ⟨_, cX7_tires, 1, some .int, rfl, by decide, mgG 604 (by decide +kernel) rfl, mgG 607 (by decide +kernel) rfl, mgG 605 (by decide +kernel) rfl, mgG 617 (by decide +kernel) rfl, mgG 605 (by decide +kernel) rfl, mgG 619 (by decide +kernel) rfl, ⟨by decide +kernel, by decide +kernel⟩, rfl⟩
theorem cu4_64_7 : CVu RX4 64 iX7_tires.1 iX7_tires 7 := ⟨_, cX7_tires, 1, some .int, rfl, by decide, mgG 604 (by decide +kernel) rfl, mgG 607 (by decide +kernel) rfl, mgG 605 (by decide +kernel) rfl, mgG 606 (by decide +kernel) rfl, mgG 605 (by decide +kernel) rfl, mgG 619 (by decide +kernel) rfl, ⟨by decide +kernel, by decide +kernel⟩, rfl⟩
theorem cu4_64_8 : CVu RX4 64 iX7_tires.1 iX8_tires 8 := ⟨_, cX7_tires, 1, some .int, rfl, by decide, mgG 604 (by decide +kernel) rfl, mgG 607 (by decide +kernel) rfl, mgG 605 (by decide +kernel) rfl, mgG 618 (by decide +kernel) rfl, mgG 612 (by decide +kernel) rfl, mgG 619 (by decide +kernel) rfl, ⟨by decide +kernel, by decide +kernel⟩, rfl⟩
theorem cv0_7 : CSu RX0 7 iX8_tires := ⟨mgG 611 (by decide +kernel) rfl, mgG 1248 (by decide +kernel) rfl, mgG 136 (by decide +kernel) rfl, mgG 612 (by decide +kernel) rfl, by decide +kernel⟩
theorem cv8_11 : CSu RX8 11 iX7_tires := ⟨mgG 614 (by decide +kernel) rfl, mgG 607 (by decide +kernel) rfl, mgG 115 (by decide +kernel) rfl, mgG 605 (by decide +kernel) rfl, by decide +kernel⟩
theorem mm4_68 : Cond.methodLink RX4 68 Lib.Math.min.name ∈ wsG := mgG 620 (by decide +kernel) rfl
theorem cv11_163 : CVi RX11 163 iX10_goBack 10 := ⟨_, rfl, by decide, mgG 627 (by decide +kernel) rfl, mgG 628 (by decide +kernel) rfl, mgG 629 (by decide +kernel) rfl⟩
theorem cv11_180 : CVi RX11 180 iX4_sleepiness 4 := ⟨_, rfl, by decide, mgG 635 (by decide +kernel) rfl, mgG 569 (by decide +kernel) rfl, mgG 570 (by decide +kernel) rfl⟩
theorem cv11_187 : CVi RX11 187 iX3_run 3 := ⟨_, rfl, by decide, mgG 644 (by decide +kernel) rfl, mgG 645 (by decide +kernel) rfl, mgG 646 (by decide +kernel) rfl⟩
theorem cv3_27 : CVi RX3 27 iX4_take 4 := ⟨_, rfl, by decide, mgG 648 (by decide +kernel) rfl, mgG 536 (by decide +kernel) rfl, mgG 537 (by decide +kernel) rfl⟩
theorem cv3_38 : CVi RX3 38 iX4_steerer 4 := ⟨_, rfl, by decide, mgG 649 (by decide +kernel) rfl, mgG 564 (by decide +kernel) rfl, mgG 565 (by decide +kernel) rfl⟩
theorem cv3_42 : CVi RX3 42 iX4_go 4 := ⟨_, rfl, by decide, mgG 650 (by decide +kernel) rfl, mgG 600 (by decide +kernel) rfl, mgG 601 (by decide +kernel) rfl⟩
theorem cv11_197 : CVi RX11 197 iX6_seek 6 := ⟨_, rfl, by decide, mgG 659 (by decide +kernel) rfl, mgG 660 (by decide +kernel) rfl, mgG 661 (by decide +kernel) rfl⟩
theorem mm6_31 : Cond.methodLink RX6 31 Lib.Math.min.name ∈ wsG := mgG 663 (by decide +kernel) rfl
theorem cv6_43 : CVi RX6 43 iX4_take 4 := ⟨_, rfl, by decide, mgG 664 (by decide +kernel) rfl, mgG 536 (by decide +kernel) rfl, mgG 537 (by decide +kernel) rfl⟩
theorem cv6_47 : CVi RX6 47 iX6_serve 6 := ⟨_, rfl, by decide, mgG 665 (by decide +kernel) rfl, mgG 667 (by decide +kernel) rfl, mgG 15 (by decide +kernel) rfl⟩
theorem mm6_54 : Cond.methodLink RX6 54 Lib.Math.abs.name ∈ wsG := mgG 669 (by decide +kernel) rfl
theorem ac6_58 : Cond.methodLink RX6 58 arraycopyName ∈ wsG := mgG 672 (by decide +kernel) rfl
theorem cv6_67 : CVi RX6 67 iX4_steerer 4 := ⟨_, rfl, by decide, mgG 673 (by decide +kernel) rfl, mgG 564 (by decide +kernel) rfl, mgG 565 (by decide +kernel) rfl⟩
theorem cv6_70 : CVi RX6 70 iX6_goOn 6 := ⟨_, rfl, by decide, mgG 674 (by decide +kernel) rfl, mgG 676 (by decide +kernel) rfl, mgG 16 (by decide +kernel) rfl⟩
theorem cv6_77 : CVi RX6 77 iX4_go 4 := ⟨_, rfl, by decide, mgG 678 (by decide +kernel) rfl, mgG 600 (by decide +kernel) rfl, mgG 601 (by decide +kernel) rfl⟩
theorem cv11_207 : CVi RX11 207 iX4_take 4 := ⟨_, rfl, by decide, mgG 683 (by decide +kernel) rfl, mgG 536 (by decide +kernel) rfl, mgG 537 (by decide +kernel) rfl⟩
theorem cv11_210 : CVi RX11 210 iX4_canSteer 4 := ⟨_, rfl, by decide, mgG 684 (by decide +kernel) rfl, mgG 685 (by decide +kernel) rfl, mgG 686 (by decide +kernel) rfl⟩
theorem cs4_71 : CSt RX4 71 iX4_staysBehind := ⟨mgG 688 (by decide +kernel) rfl, mgG 689 (by decide +kernel) rfl⟩
theorem cv11_213 : CVi RX11 213 iX4_pairRests 4 := ⟨_, rfl, by decide, mgG 695 (by decide +kernel) rfl, mgG 696 (by decide +kernel) rfl, mgG 697 (by decide +kernel) rfl⟩
theorem cv4_79 : CVi RX4 79 iX4_steererByPair 4 := ⟨_, rfl, by decide, mgG 699 (by decide +kernel) rfl, mgG 701 (by decide +kernel) rfl, mgG 17 (by decide +kernel) rfl⟩
theorem cv4_82 : CVi RX4 82 iX4_steerer 4 := ⟨_, rfl, by decide, mgG 703 (by decide +kernel) rfl, mgG 564 (by decide +kernel) rfl, mgG 565 (by decide +kernel) rfl⟩
theorem cv11_219 : CVi RX11 219 iX10_addSight 10 := ⟨_, rfl, by decide, mgG 708 (by decide +kernel) rfl, mgG 709 (by decide +kernel) rfl, mgG 710 (by decide +kernel) rfl⟩
theorem cv11_223 : CVi RX11 223 iX11_fittingNods 11 := ⟨_, rfl, by decide, mgG 720 (by decide +kernel) rfl, mgG 722 (by decide +kernel) rfl, mgG 18 (by decide +kernel) rfl⟩
theorem cv11_281 : CVi RX11 281 iX11_fitsNods 11 := ⟨_, rfl, by decide, mgG 724 (by decide +kernel) rfl, mgG 726 (by decide +kernel) rfl, mgG 19 (by decide +kernel) rfl⟩
theorem cv11_234 : CVi RX11 234 iX3_timesSteered 3 := ⟨_, rfl, by decide, mgG 728 (by decide +kernel) rfl, mgG 729 (by decide +kernel) rfl, mgG 730 (by decide +kernel) rfl⟩
theorem cv11_226 : CVi RX11 226 iX11_fitsPulled 11 := ⟨_, rfl, by decide, mgG 736 (by decide +kernel) rfl, mgG 738 (by decide +kernel) rfl, mgG 20 (by decide +kernel) rfl⟩
theorem cs11_229 : CSt RX11 229 iJ6_bitCount_0f7a4 := ⟨mgG 744 (by decide +kernel) rfl, mgG 745 (by decide +kernel) rfl⟩
theorem cs11_238 : CSt RX11 238 iJ6_compare_7cf53 := ⟨mgG 758 (by decide +kernel) rfl, mgG 759 (by decide +kernel) rfl⟩
theorem cv11_241 : CVi RX11 241 iX4_chances 4 := ⟨_, rfl, by decide, mgG 765 (by decide +kernel) rfl, mgG 766 (by decide +kernel) rfl, mgG 767 (by decide +kernel) rfl⟩
theorem cv4_75 : CVi RX4 75 iX4_chancesOfOthers 4 := ⟨_, rfl, by decide, mgG 769 (by decide +kernel) rfl, mgG 771 (by decide +kernel) rfl, mgG 21 (by decide +kernel) rfl⟩
theorem cv11_244 : CVi RX11 244 iX11_setFraction 11 := ⟨_, rfl, by decide, mgG 773 (by decide +kernel) rfl, mgG 775 (by decide +kernel) rfl, mgG 22 (by decide +kernel) rfl⟩
theorem cs11_290 : CSt RX11 290 iX11_greatestDivisor := ⟨mgG 777 (by decide +kernel) rfl, mgG 778 (by decide +kernel) rfl⟩
theorem cv11_267 : CVi RX11 267 iX11_amount 11 := ⟨_, rfl, by decide, mgG 810 (by decide +kernel) rfl, mgG 812 (by decide +kernel) rfl, mgG 23 (by decide +kernel) rfl⟩
theorem cv11_274 : CVi RX11 274 iX10_digestOnto 10 := ⟨_, rfl, by decide, mgG 820 (by decide +kernel) rfl, mgG 821 (by decide +kernel) rfl, mgG 822 (by decide +kernel) rfl⟩
theorem cs10_77 : CSn RX10 77 iX11_holds := ⟨⟨"SleepyHelm", mgN 825 (by decide +kernel) rfl⟩, mgG 553 (by decide +kernel) rfl⟩
theorem oi12_7 : Cond.methodLink RX12 7 objectInit ∈ wsG := mgG 831 (by decide +kernel) rfl
theorem cv12_71 : CVi RX12 71 iX12_begin 12 := ⟨_, rfl, by decide, mgG 832 (by decide +kernel) rfl, mgG 834 (by decide +kernel) rfl, mgG 24 (by decide +kernel) rfl⟩
theorem cs12_93 : CSt RX12 93 iX12_in := ⟨mgG 944 (by decide +kernel) rfl, mgG 945 (by decide +kernel) rfl⟩
theorem cv12_97 : CVi RX12 97 iX12_bad 12 := ⟨_, rfl, by decide, mgG 947 (by decide +kernel) rfl, mgG 949 (by decide +kernel) rfl, mgG 25 (by decide +kernel) rfl⟩
theorem cv12_101 : CVi RX12 101 iX12_isRock 12 := ⟨_, rfl, by decide, mgG 951 (by decide +kernel) rfl, mgG 953 (by decide +kernel) rfl, mgG 26 (by decide +kernel) rfl⟩
theorem cv12_105 : CVi RX12 105 iX12_no 12 := ⟨_, rfl, by decide, mgG 955 (by decide +kernel) rfl, mgG 957 (by decide +kernel) rfl, mgG 27 (by decide +kernel) rfl⟩
theorem cv12_108 : CVi RX12 108 iX12_full 12 := ⟨_, rfl, by decide, mgG 959 (by decide +kernel) rfl, mgG 961 (by decide +kernel) rfl, mgG 28 (by decide +kernel) rfl⟩
theorem cv12_111 : CVi RX12 111 iX12_addRock 12 := ⟨_, rfl, by decide, mgG 963 (by decide +kernel) rfl, mgG 965 (by decide +kernel) rfl, mgG 29 (by decide +kernel) rfl⟩
theorem cv12_115 : CVi RX12 115 iX12_addHand 12 := ⟨_, rfl, by decide, mgG 971 (by decide +kernel) rfl, mgG 973 (by decide +kernel) rfl, mgG 30 (by decide +kernel) rfl⟩
theorem cv12_176 : CVi RX12 176 iX12_readsShip 12 := ⟨_, rfl, by decide, mgG 987 (by decide +kernel) rfl, mgG 989 (by decide +kernel) rfl, mgG 31 (by decide +kernel) rfl⟩
theorem cv12_141 : CVi RX12 141 iX12_skip 12 := ⟨_, rfl, by decide, mgG 991 (by decide +kernel) rfl, mgG 993 (by decide +kernel) rfl, mgG 32 (by decide +kernel) rfl⟩
theorem cv12_125 : CVi RX12 125 iX12_here 12 := ⟨_, rfl, by decide, mgG 995 (by decide +kernel) rfl, mgG 997 (by decide +kernel) rfl, mgG 33 (by decide +kernel) rfl⟩
theorem cv12_164 : CVi RX12 164 iX12_wordHere 12 := ⟨_, rfl, by decide, mgG 999 (by decide +kernel) rfl, mgG 1001 (by decide +kernel) rfl, mgG 34 (by decide +kernel) rfl⟩
theorem cv12_137 : CVi RX12 137 iX12_spells 12 := ⟨_, rfl, by decide, mgG 1003 (by decide +kernel) rfl, mgG 1005 (by decide +kernel) rfl, mgG 35 (by decide +kernel) rfl⟩
theorem cv12_131 : CVi RX12 131 iX12_wordSize 12 := ⟨_, rfl, by decide, mgG 1007 (by decide +kernel) rfl, mgG 1009 (by decide +kernel) rfl, mgG 36 (by decide +kernel) rfl⟩
theorem cs12_128 : CSt RX12 128 iX12_isLetter := ⟨mgG 1011 (by decide +kernel) rfl, mgG 1012 (by decide +kernel) rfl⟩
theorem cv12_134 : CVi RX12 134 iX12_letter 12 := ⟨_, rfl, by decide, mgG 1014 (by decide +kernel) rfl, mgG 1016 (by decide +kernel) rfl, mgG 37 (by decide +kernel) rfl⟩
theorem cv12_157 : CVi RX12 157 iX12_ends 12 := ⟨_, rfl, by decide, mgG 1018 (by decide +kernel) rfl, mgG 1020 (by decide +kernel) rfl, mgG 38 (by decide +kernel) rfl⟩
theorem cv12_173 : CVi RX12 173 iX12_readsItem 12 := ⟨_, rfl, by decide, mgG 1022 (by decide +kernel) rfl, mgG 1024 (by decide +kernel) rfl, mgG 39 (by decide +kernel) rfl⟩
theorem cv12_167 : CVi RX12 167 iX12_readsRock 12 := ⟨_, rfl, by decide, mgG 1026 (by decide +kernel) rfl, mgG 1028 (by decide +kernel) rfl, mgG 40 (by decide +kernel) rfl⟩
theorem cv12_150 : CVi RX12 150 iX12_number 12 := ⟨_, rfl, by decide, mgG 1030 (by decide +kernel) rfl, mgG 1032 (by decide +kernel) rfl, mgG 41 (by decide +kernel) rfl⟩
theorem cs12_144 : CSt RX12 144 iX12_isFigure := ⟨mgG 1034 (by decide +kernel) rfl, mgG 1035 (by decide +kernel) rfl⟩
theorem cv12_170 : CVi RX12 170 iX12_readsHand 12 := ⟨_, rfl, by decide, mgG 1037 (by decide +kernel) rfl, mgG 1039 (by decide +kernel) rfl, mgG 42 (by decide +kernel) rfl⟩
theorem cv12_199 : CVi RX12 199 iX12_isHand 12 := ⟨_, rfl, by decide, mgG 1045 (by decide +kernel) rfl, mgG 1047 (by decide +kernel) rfl, mgG 43 (by decide +kernel) rfl⟩
theorem cv12_202 : CVi RX12 202 iX12_notes 12 := ⟨_, rfl, by decide, mgG 1049 (by decide +kernel) rfl, mgG 1051 (by decide +kernel) rfl, mgG 44 (by decide +kernel) rfl⟩
theorem cv12_192 : CVi RX12 192 iX12_lays 12 := ⟨_, rfl, by decide, mgG 1053 (by decide +kernel) rfl, mgG 1055 (by decide +kernel) rfl, mgG 45 (by decide +kernel) rfl⟩
theorem cv12_205 : CVi RX12 205 iX12_pass 12 := ⟨_, rfl, by decide, mgG 1061 (by decide +kernel) rfl, mgG 1063 (by decide +kernel) rfl, mgG 46 (by decide +kernel) rfl⟩
theorem cv12_186 : CVi RX12 186 iX12_steers 12 := ⟨_, rfl, by decide, mgG 1065 (by decide +kernel) rfl, mgG 1067 (by decide +kernel) rfl, mgG 47 (by decide +kernel) rfl⟩
theorem cv12_183 : CVi RX12 183 iX12_sleepy 12 := ⟨_, rfl, by decide, mgG 1069 (by decide +kernel) rfl, mgG 1071 (by decide +kernel) rfl, mgG 48 (by decide +kernel) rfl⟩
theorem cs12_179 : CSt RX12 179 iX12_sleepyBy := ⟨mgG 1073 (by decide +kernel) rfl, mgG 1074 (by decide +kernel) rfl⟩
theorem cs12_189 : CSt RX12 189 iX12_moreBy := ⟨mgG 1076 (by decide +kernel) rfl, mgG 1077 (by decide +kernel) rfl⟩
theorem cv12_196 : CVi RX12 196 iX12_takes 12 := ⟨_, rfl, by decide, mgG 1083 (by decide +kernel) rfl, mgG 1085 (by decide +kernel) rfl, mgG 49 (by decide +kernel) rfl⟩
theorem cv12_208 : CVi RX12 208 iX12_ten 12 := ⟨_, rfl, by decide, mgG 1091 (by decide +kernel) rfl, mgG 1093 (by decide +kernel) rfl, mgG 50 (by decide +kernel) rfl⟩
theorem cv12_211 : CVi RX12 211 iX12_manyBad 12 := ⟨_, rfl, by decide, mgG 1099 (by decide +kernel) rfl, mgG 1101 (by decide +kernel) rfl, mgG 51 (by decide +kernel) rfl⟩
theorem cv12_214 : CVi RX12 214 iX12_puts 12 := ⟨_, rfl, by decide, mgG 1107 (by decide +kernel) rfl, mgG 1109 (by decide +kernel) rfl, mgG 52 (by decide +kernel) rfl⟩
theorem cv12_217 : CVi RX12 217 iX12_passes 12 := ⟨_, rfl, by decide, mgG 1111 (by decide +kernel) rfl, mgG 1113 (by decide +kernel) rfl, mgG 53 (by decide +kernel) rfl⟩
theorem cv12_221 : CVi RX12 221 iX12_back 12 := ⟨_, rfl, by decide, mgG 1115 (by decide +kernel) rfl, mgG 1117 (by decide +kernel) rfl, mgG 54 (by decide +kernel) rfl⟩
theorem cv12_224 : CVi RX12 224 iX12_fedBy 12 := ⟨_, rfl, by decide, mgG 1127 (by decide +kernel) rfl, mgG 1129 (by decide +kernel) rfl, mgG 55 (by decide +kernel) rfl⟩
theorem cv12_228 : CVi RX12 228 iX12_placeBy 12 := ⟨_, rfl, by decide, mgG 1131 (by decide +kernel) rfl, mgG 1133 (by decide +kernel) rfl, mgG 56 (by decide +kernel) rfl⟩
theorem cv12_231 : CVi RX12 231 iX12_steersBy 12 := ⟨_, rfl, by decide, mgG 1139 (by decide +kernel) rfl, mgG 1141 (by decide +kernel) rfl, mgG 57 (by decide +kernel) rfl⟩
theorem cv12_240 : CVi RX12 240 iX12_nodSet 12 := ⟨_, rfl, by decide, mgG 1159 (by decide +kernel) rfl, mgG 1161 (by decide +kernel) rfl, mgG 58 (by decide +kernel) rfl⟩
theorem cv12_234 : CVi RX12 234 iX12_setWay 12 := ⟨_, rfl, by decide, mgG 1163 (by decide +kernel) rfl, mgG 1165 (by decide +kernel) rfl, mgG 59 (by decide +kernel) rfl⟩
theorem cv12_237 : CVi RX12 237 iX12_isSeen 12 := ⟨_, rfl, by decide, mgG 1167 (by decide +kernel) rfl, mgG 1169 (by decide +kernel) rfl, mgG 60 (by decide +kernel) rfl⟩
theorem cv12_246 : CVi RX12 246 iX12_alike 12 := ⟨_, rfl, by decide, mgG 1179 (by decide +kernel) rfl, mgG 1181 (by decide +kernel) rfl, mgG 61 (by decide +kernel) rfl⟩
theorem cs12_243 : CSt RX12 243 iX12_has := ⟨mgG 1183 (by decide +kernel) rfl, mgG 1184 (by decide +kernel) rfl⟩
theorem cv12_254 : CVi RX12 254 iX12_lay 12 := ⟨_, rfl, by decide, mgG 1199 (by decide +kernel) rfl, mgG 1201 (by decide +kernel) rfl, mgG 62 (by decide +kernel) rfl⟩
theorem cv12_269 : CVi RX12 269 iX12_countOf 12 := ⟨_, rfl, by decide, mgG 1233 (by decide +kernel) rfl, mgG 1235 (by decide +kernel) rfl, mgG 63 (by decide +kernel) rfl⟩
theorem cv12_279 : CVi RX12 279 iX12_mix 12 := ⟨_, rfl, by decide, mgG 1242 (by decide +kernel) rfl, mgG 1244 (by decide +kernel) rfl, mgG 64 (by decide +kernel) rfl⟩
theorem oiI : Cond.instanceMethod objectInit ∈ wsG := mgG 92 (by decide +kernel) rfl
theorem oiC : Cond.code objectInit ⟨#[0xb1]⟩ 1 none ∈ wsG := mgG 93 (by decide +kernel) rfl
theorem mw_max : Cond.static Lib.Math.max.name ∈ wsG ∧ Cond.initialized "java/lang/Math" ∈ wsG ∧ Cond.code Lib.Math.max.name Lib.Math.max.code 2 (some .int) ∈ wsG := ⟨mgG 584 (by decide +kernel) rfl, mgG 84 (by decide +kernel) rfl, mgG 585 (by decide +kernel) rfl⟩
theorem mw_min : Cond.static Lib.Math.min.name ∈ wsG ∧ Cond.initialized "java/lang/Math" ∈ wsG ∧ Cond.code Lib.Math.min.name Lib.Math.min.code 2 (some .int) ∈ wsG := ⟨mgG 621 (by decide +kernel) rfl, mgG 84 (by decide +kernel) rfl, mgG 622 (by decide +kernel) rfl⟩
theorem mw_abs : Cond.static Lib.Math.abs.name ∈ wsG ∧ Cond.initialized "java/lang/Math" ∈ wsG ∧ Cond.code Lib.Math.abs.name Lib.Math.abs.code 1 (some .int) ∈ wsG := ⟨mgG 670 (by decide +kernel) rfl, mgG 84 (by decide +kernel) rfl, mgG 671 (by decide +kernel) rfl⟩
theorem acw : Cond.native arraycopyName ∈ wsG ∧ Cond.static arraycopyName ∈ wsG ∧ Cond.initialized "java/lang/System" ∈ wsG := ⟨mgG 541 (by decide +kernel) rfl, mgG 540 (by decide +kernel) rfl, mgG 83 (by decide +kernel) rfl⟩
theorem arI : Cond.arrayClass .int ∈ wsG := mgG 194 (by decide +kernel) rfl
theorem arZ : Cond.arrayClass .boolean ∈ wsG := mgG 251 (by decide +kernel) rfl
theorem cl11_9 : Cond.classLink RX11 9 "SleepyHelm$Plain" ∈ wsG := mgG 94 (by decide +kernel) rfl
theorem nr11_9 : NR RX11 9 7 0 := ⟨RX7, TX7, tyX7, cok7, mgG 94 (by decide +kernel) rfl, mgG 96 (by decide +kernel) rfl, mgG 67 (by decide +kernel) rfl⟩
theorem cl11_12 : Cond.classLink RX11 12 "SleepyHelm$Cold" ∈ wsG := mgG 102 (by decide +kernel) rfl
theorem nr11_12 : NR RX11 12 1 0 := ⟨RX1, TX1, tyX1, cok1, mgG 102 (by decide +kernel) rfl, mgG 103 (by decide +kernel) rfl, mgG 68 (by decide +kernel) rfl⟩
theorem cl11_15 : Cond.classLink RX11 15 "SleepyHelm$Talker" ∈ wsG := mgG 109 (by decide +kernel) rfl
theorem nr11_15 : NR RX11 15 8 0 := ⟨RX8, TX8, tyX8, cok8, mgG 109 (by decide +kernel) rfl, mgG 110 (by decide +kernel) rfl, mgG 69 (by decide +kernel) rfl⟩
theorem cl11_18 : Cond.classLink RX11 18 "SleepyHelm$Cook" ∈ wsG := mgG 116 (by decide +kernel) rfl
theorem nr11_18 : NR RX11 18 2 0 := ⟨RX2, TX2, tyX2, cok2, mgG 116 (by decide +kernel) rfl, mgG 117 (by decide +kernel) rfl, mgG 70 (by decide +kernel) rfl⟩
theorem cl11_21 : Cond.classLink RX11 21 "SleepyHelm$Moonstruck" ∈ wsG := mgG 123 (by decide +kernel) rfl
theorem nr11_21 : NR RX11 21 5 0 := ⟨RX5, TX5, tyX5, cok5, mgG 123 (by decide +kernel) rfl, mgG 124 (by decide +kernel) rfl, mgG 71 (by decide +kernel) rfl⟩
theorem cl11_24 : Cond.classLink RX11 24 "SleepyHelm$Boy" ∈ wsG := mgG 130 (by decide +kernel) rfl
theorem nr11_24 : NR RX11 24 0 0 := ⟨RX0, TX0, tyX0, cok0, mgG 130 (by decide +kernel) rfl, mgG 131 (by decide +kernel) rfl, mgG 72 (by decide +kernel) rfl⟩
theorem cl11_27 : Cond.classLink RX11 27 "SleepyHelm$Voyage" ∈ wsG := mgG 137 (by decide +kernel) rfl
theorem nr11_27 : NR RX11 27 10 8 := ⟨RX10, TX10, tyX10, cok10, mgG 137 (by decide +kernel) rfl, mgG 138 (by decide +kernel) rfl, mgG 73 (by decide +kernel) rfl⟩
theorem cl10_21 : Cond.classLink RX10 21 "SleepyHelm$Helm" ∈ wsG := mgG 143 (by decide +kernel) rfl
theorem nr10_21 : NR RX10 21 4 8 := ⟨RX4, TX4, tyX4, cok4, mgG 143 (by decide +kernel) rfl, mgG 145 (by decide +kernel) rfl, mgG 74 (by decide +kernel) rfl⟩
theorem cl11_47 : Cond.classLink RX11 47 "SleepyHelm$Helm" ∈ wsG := mgG 229 (by decide +kernel) rfl
theorem nr11_47 : NR RX11 47 4 8 := ⟨RX4, TX4, tyX4, cok4, mgG 229 (by decide +kernel) rfl, mgG 145 (by decide +kernel) rfl, mgG 74 (by decide +kernel) rfl⟩
theorem cl11_54 : Cond.classLink RX11 54 "SleepyHelm$Course" ∈ wsG := mgG 231 (by decide +kernel) rfl
theorem nr11_54 : NR RX11 54 3 3 := ⟨RX3, TX3, tyX3, cok3, mgG 231 (by decide +kernel) rfl, mgG 232 (by decide +kernel) rfl, mgG 75 (by decide +kernel) rfl⟩
theorem cl3_18 : Cond.classLink RX3 18 "SleepyHelm$Helm" ∈ wsG := mgG 237 (by decide +kernel) rfl
theorem nr3_18 : NR RX3 18 4 8 := ⟨RX4, TX4, tyX4, cok4, mgG 237 (by decide +kernel) rfl, mgG 145 (by decide +kernel) rfl, mgG 74 (by decide +kernel) rfl⟩
theorem cl11_61 : Cond.classLink RX11 61 "SleepyHelm$PeaSearch" ∈ wsG := mgG 252 (by decide +kernel) rfl
theorem nr11_61 : NR RX11 61 6 6 := ⟨RX6, TX6, tyX6, cok6, mgG 252 (by decide +kernel) rfl, mgG 253 (by decide +kernel) rfl, mgG 76 (by decide +kernel) rfl⟩
theorem cl6_9 : Cond.classLink RX6 9 "SleepyHelm$Helm" ∈ wsG := mgG 258 (by decide +kernel) rfl
theorem nr6_9 : NR RX6 9 4 8 := ⟨RX4, TX4, tyX4, cok4, mgG 258 (by decide +kernel) rfl, mgG 145 (by decide +kernel) rfl, mgG 74 (by decide +kernel) rfl⟩
theorem cl11_68 : Cond.classLink RX11 68 "SleepyHelm$Text" ∈ wsG := mgG 281 (by decide +kernel) rfl
theorem nr11_68 : NR RX11 68 9 7 := ⟨RX9, TX9, tyX9, cok9, mgG 281 (by decide +kernel) rfl, mgG 282 (by decide +kernel) rfl, mgG 77 (by decide +kernel) rfl⟩
theorem kcJ6_265 : Cond.constant RJ6 265 1431655765 ∈ wsG := mgG 747 (by decide +kernel) rfl
theorem kcJ6_266 : Cond.constant RJ6 266 858993459 ∈ wsG := mgG 748 (by decide +kernel) rfl
theorem kcJ6_267 : Cond.constant RJ6 267 252645135 ∈ wsG := mgG 749 (by decide +kernel) rfl
theorem kc11_247 : Cond.constant RX11 247 999999 ∈ wsG := mgG 784 (by decide +kernel) rfl
theorem kc11_248 : Cond.constantLong RX11 248 1103515245 ∈ wsG := mgG 785 (by decide +kernel) rfl
theorem kc11_250 : Cond.constantLong RX11 250 12345 ∈ wsG := mgG 786 (by decide +kernel) rfl
theorem kc11_252 : Cond.constantLong RX11 252 2147483648 ∈ wsG := mgG 787 (by decide +kernel) rfl
theorem kc11_254 : Cond.constantLong RX11 254 65536 ∈ wsG := mgG 788 (by decide +kernel) rfl
theorem kc11_256 : Cond.constantLong RX11 256 7 ∈ wsG := mgG 789 (by decide +kernel) rfl
theorem kc11_270 : Cond.constantLong RX11 270 1181 ∈ wsG := mgG 818 (by decide +kernel) rfl
theorem kc11_272 : Cond.constantLong RX11 272 31 ∈ wsG := mgG 819 (by decide +kernel) rfl
theorem kc10_69 : Cond.constantLong RX10 69 31 ∈ wsG := mgG 824 (by decide +kernel) rfl
theorem kc12_252 : Cond.constantLong RX12 252 10 ∈ wsG := mgG 1198 (by decide +kernel) rfl
theorem kc12_258 : Cond.constant RX12 258 999999 ∈ wsG := mgG 1207 (by decide +kernel) rfl
theorem kc12_259 : Cond.constantLong RX12 259 1103515245 ∈ wsG := mgG 1208 (by decide +kernel) rfl
theorem kc12_261 : Cond.constantLong RX12 261 12345 ∈ wsG := mgG 1209 (by decide +kernel) rfl
end
section
theorem kc12_263 : Cond.constantLong RX12 263 2147483648 ∈ wsG := mgG 1210 (by decide +kernel) rfl
theorem kc12_265 : Cond.constantLong RX12 265 65536 ∈ wsG := mgG 1211 (by decide +kernel) rfl
theorem kc12_267 : Cond.constantLong RX12 267 7 ∈ wsG := mgG 1212 (by decide +kernel) rfl
theorem kc12_277 : Cond.constantLong RX12 277 1181 ∈ wsG := mgG 1241 (by decide +kernel) rfl
theorem kc12_272 : Cond.constantLong RX12 272 31 ∈ wsG := mgG 1246 (by decide +kernel) rfl
theorem eo16_0 : eOk 16 0 := ⟨_, rfl, by decide, Or.inr ⟨rfl, mgN 1253 (by decide +kernel) rfl⟩⟩
theorem eo16_1 : eOk 16 1 := ⟨_, rfl, by decide, Or.inr ⟨rfl, mgN 1249 (by decide +kernel) rfl⟩⟩
theorem eo16_2 : eOk 16 2 := ⟨_, rfl, by decide, Or.inr ⟨rfl, mgN 1251 (by decide +kernel) rfl⟩⟩
theorem eo16_5 : eOk 16 5 := ⟨_, rfl, by decide, Or.inr ⟨rfl, mgN 1252 (by decide +kernel) rfl⟩⟩
theorem eo16_8 : eOk 16 8 := ⟨_, rfl, by decide, Or.inr ⟨rfl, mgN 1250 (by decide +kernel) rfl⟩⟩
theorem eo16_7 : eOk 16 7 := ⟨_, rfl, by decide, Or.inl rfl⟩
theorem eo15_4 : eOk 15 4 := ⟨_, rfl, by decide, Or.inl rfl⟩
theorem eo17_10 : eOk 17 10 := ⟨_, rfl, by decide, Or.inl rfl⟩
end
section
/-! ===== small facts for the walks ===== -/
theorem ap_null : ∀ (as : List Value) (k j : Nat) (v : Value), (as ++ List.replicate k Value.null)[j]? = some v → v ≠ .null → as[j]? = some v := by
  intro as k j v h hn
  by_cases hj : j < as.length
  · rw [List.getElem?_append_left hj] at h
    exact h
  · rw [List.getElem?_append_right (by omega)] at h
    exact absurd (List.eq_of_mem_replicate (List.mem_of_getElem? h)) hn
theorem Mt_in {G : GE} {I : MI} {d n : Nat} {args ls : List Value} {M : Mm} {Post : Option Value → Mm → Prop} (k : Nat) (hI : MO I n) (hlen : (lg_sl args).length ≤ I.2.2.1) (hls : lent args ++ List.replicate k Value.null = ls) (h : PW G I d Post 0 ls [] M 0 0) : Mt G I d args M Post :=
  Mt_of hI hlen (fun j v h1 h2 => ap_null _ k j v (by rw [hls]; exact h1) h2) h
/-- the memory's ints alone -/
abbrev MI0 : Type := Nat → Nat → Int32
abbrev MS : Type := (Nat → Nat → Int64) × (Nat → Nat → Option Nat) × (Nat → Nat × Nat) × Nat
def sL (S : MS) : Nat → Nat → Int64 := S.1
def sR (S : MS) : Nat → Nat → Option Nat := S.2.1
def sT (S : MS) : Nat → Nat × Nat := S.2.2.1
/-- an answer, the memory as it was -/
def Rt (r : Int32) (M : Mm) : Option Value → Mm → Prop := fun v M' => v = some (.int r) ∧ M' = M
def b1 (p : Prop) [Decidable p] : Int32 := if p then 1 else 0
theorem b1_t {p : Prop} [Decidable p] (h : p) : b1 p = 1 := if_pos h
theorem b1_f {p : Prop} [Decidable p] (h : ¬ p) : b1 p = 0 := if_neg h
theorem b1_n (p : Prop) [Decidable p] : narrow .boolean (.int (b1 p)) = .int (b1 p) := by
  unfold b1; split <;> rfl
theorem vin {k N : Nat} (h : k < N) (hN : N < 2 ^ 31) : vp_in (nI k) N := vp_in_nI h hN
theorem cln {k : Nat} (h : k < 2 ^ 31) : (nI k).toNatClampNeg = k := nI_clamp h
theorem rt_i {r r' : Int32} {M : Mm} (h : r' = r) : Rt r M (some (.int r')) M := ⟨by rw [h], rfl⟩
theorem rt_t {p : Prop} [Decidable p] {M : Mm} (h : p) : Rt (b1 p) M (some (.int 1)) M := ⟨by rw [b1_t h], rfl⟩
theorem rt_f {p : Prop} [Decidable p] {M : Mm} (h : ¬ p) : Rt (b1 p) M (some (.int 0)) M := ⟨by rw [b1_f h], rfl⟩
theorem b1_0 {p : Prop} [Decidable p] : b1 p = 0 ↔ ¬ p := by
  unfold b1; split <;> simp_all
theorem b1_1 {p : Prop} [Decidable p] : ¬ b1 p = 0 ↔ p := by
  rw [b1_0]; exact Decidable.not_not
theorem n32 (x y : Int32) : ¬ x < y ↔ y ≤ x := Int32.not_lt
theorem n32' (x y : Int32) : ¬ x ≤ y ↔ y < x := Int32.not_le
/-- how sleepy one of a kind is -/
def slp (k t w : Nat) (fed : Bool) : Nat :=
  if k = 0 then t
  else if k = 1 then (if w % 4 = 0 then t - 3 else t)
  else if k = 2 then (if fed then t else t / 2)
  else if k = 3 then (if fed then 2 * t else t)
  else if k = 4 then (if w % 4 = 0 then t - 3 else t) + (if w % 7 = 3 then 5 else 0)
  else 0
/-- how much more tired -/
def mor (k : Nat) : Nat := if k = 2 then 2 else if k = 5 then 0 else 1
def b2i (b : Bool) : Int32 := if b then 1 else 0
theorem b2i_0 {b : Bool} : b2i b = 0 ↔ b = false := by cases b <;> decide
theorem b2i_n {b : Bool} : ¬ b2i b = 0 ↔ b = true := by cases b <;> decide
theorem rem_c {w : Nat} (hw : w < 2 ^ 31) (k : Nat) (h0 : 0 < k) (hk : k < 2 ^ 31) {y : Int32} (hy : y = nI k) : nI w - nI w / y * y = nI (w % k) := by rw [hy]; exact pk_rem hw h0 hk
theorem nI_e0 {k : Nat} (h : k < 2 ^ 31) : nI k = 0 ↔ k = 0 := by
  rw [show (0 : Int32) = nI 0 from rfl, nI_eq h (by decide)]
theorem nI_ec {k : Nat} (c : Nat) (h : k < 2 ^ 31) (hc : c < 2 ^ 31) {y : Int32} (hy : y = nI c) : nI k = y ↔ k = c := by
  rw [hy, nI_eq h hc]
/-- cut at 0 -/
theorem max0 {t c : Nat} (ht : t < 2 ^ 30) (hc : c < 2 ^ 30) : (if (0 : Int32) < nI t - nI c then nI t - nI c else 0) = nI (t - c) := by
  by_cases h : c ≤ t
  · rw [pk_sub h]
    by_cases h2 : t - c = 0
    · rw [h2]; rfl
    · rw [if_pos]
      rw [show (0 : Int32) = nI 0 from rfl]
      exact nI_lt (by omega) (by omega)
  · rw [if_neg, show t - c = 0 by omega]
    · rfl
    · exact fun q => absurd (Int32.lt_trans q (pk_sneg hc (by omega))) (by decide)
theorem slp_0 (t w : Nat) (f : Bool) : slp 0 t w f = t := rfl
theorem slp_1 (t w : Nat) (f : Bool) : slp 1 t w f = if w % 4 = 0 then t - 3 else t := rfl
theorem slp_2 (t w : Nat) (f : Bool) : slp 2 t w f = if f then t else t / 2 := rfl
theorem slp_3 (t w : Nat) (f : Bool) : slp 3 t w f = if f then 2 * t else t := rfl
theorem slp_4 (t w : Nat) (f : Bool) : slp 4 t w f = slp 1 t w f + if w % 7 = 3 then 5 else 0 := rfl
theorem slp_5 (t w : Nat) (f : Bool) : slp 5 t w f = 0 := rfl
theorem slp_le (k t w : Nat) (f : Bool) : slp k t w f ≤ 2 * t + 5 := by
  unfold slp; repeat' split
  all_goals omega
section PWN
variable {G : GE} {I : MI} {d : Nat} {Post : Option Value → Mm → Prop} {pc : Nat} {ls st : List Value} {M : Mm} {nc ns : Nat}
theorem PW_ial {a n j : Nat} {v : Int32} (hd : decode I.2.1 pc = .ok (.iaload, 1)) (ht : mt M a = (13, n)) (hn : n < 2 ^ 31) (hj : j < n) (hv : mi M a j = v) (kk : PW G I d Post (pc + 1) ls (.int v :: st) M nc ns) : PW G I d Post pc ls (.int (nI j) :: .ref a :: st) M nc ns := by
  refine PW_iaload hd ht (vin hj hn) ?_
  rw [cln (by omega), hv]
  exact kk
theorem PW_ias {a n j : Nat} {x : Int32} (hd : decode I.2.1 pc = .ok (.iastore, 1)) (ht : mt M a = (13, n)) (hn : n < 2 ^ 31) (hj : j < n) (kk : PW G I d Post (pc + 1) ls st (wI M a j x) nc ns) : PW G I d Post pc ls (.int x :: .int (nI j) :: .ref a :: st) M nc ns := by
  refine PW_iastore hd ht (vin hj hn) ?_
  rw [cln (by omega)]
  exact kk
theorem PW_aal {a ka n j b : Nat} (hd : decode I.2.1 pc = .ok (.aaload, 1)) (ht : mt M a = (ka, n)) (h15 : ¬ ka < 15) (h18 : ka < 18) (hn : n < 2 ^ 31) (hj : j < n) (hr : mr M a j = some b) (kk : PW G I d Post (pc + 1) ls (.ref b :: st) M nc ns) : PW G I d Post pc ls (.int (nI j) :: .ref a :: st) M nc ns :=
  PW_aaload hd ht h15 h18 (vin hj hn) (by rw [cln (by omega)]; exact hr) kk
theorem PW_aas {a ka n j b ci z0 : Nat} (hd : decode I.2.1 pc = .ok (.aastore, 1)) (ht : mt M a = (ka, n)) (h15 : ¬ ka < 15) (h18 : ka < 18) (hn : n < 2 ^ 31) (hj : j < n) (htb : mt M b = (ci, z0)) (he : eOk ka ci) (kk : PW G I d Post (pc + 1) ls st (wR M a j (some b)) nc ns) : PW G I d Post pc ls (.ref b :: .int (nI j) :: .ref a :: st) M nc ns := by
  refine PW_aastore hd ht h15 h18 (vin hj hn) htb he ?_
  rw [cln (by omega)]
  exact kk
theorem PW_giv {a idx ci k : Nat} {v : Int32} (hd : decode I.2.1 pc = .ok (.getfield idx, 3)) (hf : FRr I.1.cls idx ci k 0) (ht : mt M a = (ci, 0)) (hv : mi M a k = v) (kk : PW G I d Post (pc + 3) ls (.int v :: st) M nc ns) : PW G I d Post pc ls (.ref a :: st) M nc ns := by
  refine PW_getI hd hf ht ?_
  rw [hv]
  exact kk
theorem PW_inc1 {i h : Nat} (hd : decode I.2.1 pc = .ok (.iinc i 1, 3)) (hx : ls[i]? = some (.int (nI h))) (hi : i < I.2.2.1) (hk : okS ls i = true) (k : PW G I d Post (pc + 3) (ls.set i (.int (nI (h + 1)))) st M nc ns) : PW G I d Post pc ls st M nc ns := by
  refine PW_iinc hd hx hi hk ?_
  rw [show nI h + Int32.ofInt 1 = nI (h + 1) from (nI_succ h).symm]
  exact k
end PWN
/-! reads behind writes -/
theorem rI (M : Mm) (a k : Nat) (v : Int32) (b j : Nat) : mi (wI M a k v) b j = if b = a ∧ j = k then v else mi M b j := by
  unfold mi wI va_up upd
  by_cases h : b = a
  · subst h
    by_cases h2 : j = k <;> simp [h2]
  · simp [h]
theorem rI_s (M : Mm) (a k : Nat) (v : Int32) : mi (wI M a k v) a k = v := by rw [rI, if_pos ⟨rfl, rfl⟩]
theorem rI_a (M : Mm) {a k : Nat} (v : Int32) {b : Nat} (j : Nat) (h : b ≠ a) : mi (wI M a k v) b j = mi M b j := by rw [rI, if_neg (fun q => h q.1)]
theorem rI_k (M : Mm) {a k : Nat} (v : Int32) (b : Nat) {j : Nat} (h : j ≠ k) : mi (wI M a k v) b j = mi M b j := by rw [rI, if_neg (fun q => h q.2)]
theorem rA (M : Mm) (a : Nat) (f : Nat → Int32) (b j : Nat) : mi (wA M a f) b j = if b = a then f j else mi M b j := by
  unfold mi wA va_up
  by_cases h : b = a <;> simp [h]
theorem cpy0 {f g : Nat → Int32} {n j : Nat} (h : j < n) : va_cpy f g 0 0 n j = f j := by
  simp [va_cpy, h]
/-! a whole number as an int -/
def iN (z : Int) : Int32 := Int32.ofInt z
theorem iN_nat (n : Nat) : iN (n : Int) = nI n := by
  unfold iN nI
  first | exact Int32.ofInt_eq_ofNat | (apply Int32.toBitVec_inj.mp; simp) | rfl
theorem iN_toInt {z : Int} (h1 : -2147483648 ≤ z) (h2 : z < 2147483648) : (iN z).toInt = z := by
  unfold iN
  rw [Int32.toInt_ofInt]
  have e : (Int32.size : Int) = 4294967296 := by decide
  exact Int.bmod_eq_of_le (by rw [e]; omega) (by rw [e]; omega)
theorem iN_add (x y : Int) : iN x + iN y = iN (x + y) := by simp [iN, Int32.ofInt_add]
theorem iN_sub (x y : Int) : iN x - iN y = iN (x - y) := by simp [iN, Int32.ofInt_sub]
theorem iN_mul (x y : Int) : iN x * iN y = iN (x * y) := by simp [iN, Int32.ofInt_mul]
theorem iN_inj {x y : Int} (h1 : -2147483648 ≤ x) (h2 : x < 2147483648) (h3 : -2147483648 ≤ y) (h4 : y < 2147483648) : iN x = iN y ↔ x = y := by
  constructor
  · intro h
    have := congrArg Int32.toInt h
    rwa [iN_toInt h1 h2, iN_toInt h3 h4] at this
  · intro h; rw [h]
theorem iN_lt {x y : Int} (h1 : -2147483648 ≤ x) (h2 : x < 2147483648) (h3 : -2147483648 ≤ y) (h4 : y < 2147483648) : iN x < iN y ↔ x < y := by
  rw [Int32.lt_iff_toInt_lt, iN_toInt h1 h2, iN_toInt h3 h4]
theorem iN_le {x y : Int} (h1 : -2147483648 ≤ x) (h2 : x < 2147483648) (h3 : -2147483648 ≤ y) (h4 : y < 2147483648) : iN x ≤ iN y ↔ x ≤ y := by
  rw [Int32.le_iff_toInt_le, iN_toInt h1 h2, iN_toInt h3 h4]
theorem iN_of (x : Int32) : x = iN x.toInt := by simp [iN]
/-- who, told as one more than his number, 0: nobody -/
def pI (w : Nat) : Int32 := nI w - 1
theorem pI_s (k : Nat) : pI (k + 1) = nI k := nI_pred k
theorem pI_0 : pI 0 = -1 := by decide
theorem nI_iN (k : Nat) : nI k = iN (k : Int) := (iN_nat k).symm
theorem pI_iN (w : Nat) : pI w = iN ((w : Int) - 1) := by
  unfold pI
  rw [nI_iN, show (1 : Int32) = iN 1 from rfl, iN_sub]
theorem pI_eq {w k : Nat} (hw : w < 1000) (hk : k < 1000) : nI k = pI w ↔ w = k + 1 := by
  rw [nI_iN, pI_iN, iN_inj (by omega) (by omega) (by omega) (by omega)]
  omega
theorem jle {a b : Nat} (h : nI a ≤ nI b) (ha : a < 2 ^ 31 := by omega) (hb : b < 2 ^ 31 := by omega) : a ≤ b := (nI_leI ha hb).mp h
theorem jnle {a b : Nat} (h : ¬ nI a ≤ nI b) (ha : a < 2 ^ 31 := by omega) (hb : b < 2 ^ 31 := by omega) : b < a := by
  have : ¬ a ≤ b := fun q => h ((nI_leI ha hb).mpr q)
  omega
theorem jlt {a b : Nat} (h : nI a < nI b) (ha : a < 2 ^ 31 := by omega) (hb : b < 2 ^ 31 := by omega) : a < b := (nI_ltI ha hb).mp h
theorem jnlt {a b : Nat} (h : ¬ nI a < nI b) (ha : a < 2 ^ 31 := by omega) (hb : b < 2 ^ 31 := by omega) : b ≤ a := by
  have : ¬ a < b := fun q => h ((nI_ltI ha hb).mpr q)
  omega
theorem jeq {a b : Nat} (h : nI a = nI b) (ha : a < 2 ^ 31 := by omega) (hb : b < 2 ^ 31 := by omega) : a = b := (nI_eq ha hb).mp h
theorem jne {a b : Nat} (h : ¬ nI a = nI b) : ¬ a = b := fun q => h (by rw [q])
theorem rA_s (M : Mm) (a : Nat) (f : Nat → Int32) (j : Nat) : mi (wA M a f) a j = f j := by rw [rA, if_pos rfl]
theorem rA_n (M : Mm) {a : Nat} (f : Nat → Int32) {b : Nat} (j : Nat) (h : b ≠ a) : mi (wA M a f) b j = mi M b j := by rw [rA, if_neg h]
theorem rP (i : MI0) (S : MS) (b j : Nat) : mi (i, S) b j = i b j := rfl
/-- no answer; the ints are new, and P holds of them -/
def Wr (S : MS) (P : MI0 → Prop) : Option Value → Mm → Prop := fun v M' => v = none ∧ ∃ i', M' = (i', S) ∧ P i'
theorem Wr_mk {M' : Mm} {S : MS} {P : MI0 → Prop} (h2 : M'.2 = S) (h : P (mi M')) : Wr S P none M' := ⟨rfl, M'.1, by rw [← h2], h⟩
/-- an answer; the ints are new, and P holds of them -/
def Wi (r : Int32) (S : MS) (P : MI0 → Prop) : Option Value → Mm → Prop := fun v M' => v = some (.int r) ∧ ∃ i', M' = (i', S) ∧ P i'
theorem Wi_mk {r r' : Int32} {M' : Mm} {S : MS} {P : MI0 → Prop} (h2 : M'.2 = S) (hr : r' = r) (h : P (mi M')) : Wi r S P (some (.int r')) M' := ⟨by rw [hr], M'.1, by rw [← h2], h⟩
theorem min99 {t : Nat} (ht : t < 2 ^ 30) : (if nI t < 99 then nI t else 99) = nI (min 99 t) := by
  rw [show (99 : Int32) = nI 99 from rfl]
  by_cases h : t < 99
  · rw [if_pos (nI_lt h (by decide)), Nat.min_eq_right (by omega)]
  · rw [if_neg (nI_nlt (by omega) (by omega)), Nat.min_eq_left (by omega)]
theorem c6 : (6 : Int32).toNatClampNeg = 6 := rfl
end
section
/-! ===== the kinds, and small static methods ===== -/
set_option maxRecDepth 100000 in
set_option maxHeartbeats 4000000 in
theorem spX11_isWithin {G : GE} {d : Nat} {M : Mm} (n lo hi : Int32) : Mt G iX11_isWithin d [.int n, .int lo, .int hi] M (Rt (b1 (lo ≤ n ∧ n ≤ hi)) M) := by
  refine Mt_in 0 (ls := [.int n, .int lo, .int hi]) moX11_isWithin (Nat.le_of_ble_eq_true rfl) rfl ?_
  refine PW_iload_n (i := 0) dX11_isWithin_0 rfl rfl ?_
  refine PW_iload_n (i := 1) dX11_isWithin_1 rfl rfl ?_
  refine PW_icmp_lt 14 dX11_isWithin_2 (by decide) (fun h2 => ?_) (fun h2 => ?_)
  · refine PW_iconst (v := 0) dX11_isWithin_14 (by decide) ?_
    refine PW_ireturn rfl (rfl) dX11_isWithin_15 (Nat.le_of_ble_eq_true rfl) (Nat.le_of_ble_eq_true rfl) ?_
    first | exact rt_f (fun q => absurd h7 ((n32 _ _).mpr q.2)) | exact rt_f (fun q => absurd h2 ((n32 _ _).mpr q.1))
  · refine PW_iload_n (i := 0) dX11_isWithin_5 rfl rfl ?_
    refine PW_iload_n (i := 2) dX11_isWithin_6 rfl rfl ?_
    refine PW_icmp_gt 14 dX11_isWithin_7 (by decide) (fun h7 => ?_) (fun h7 => ?_)
    · refine PW_iconst (v := 0) dX11_isWithin_14 (by decide) ?_
      refine PW_ireturn rfl (rfl) dX11_isWithin_15 (Nat.le_of_ble_eq_true rfl) (Nat.le_of_ble_eq_true rfl) ?_
      first | exact rt_f (fun q => absurd h7 ((n32 _ _).mpr q.2)) | exact rt_f (fun q => absurd h2 ((n32 _ _).mpr q.1))
    · refine PW_iconst (v := 1) dX11_isWithin_10 (by decide) ?_
      refine PW_goto 15 dX11_isWithin_11 (by decide) ?_
      refine PW_ireturn rfl (rfl) dX11_isWithin_15 (Nat.le_of_ble_eq_true rfl) (Nat.le_of_ble_eq_true rfl) ?_
      exact rt_t ⟨(n32 _ _).mp h2, (n32 _ _).mp h7⟩
set_option maxRecDepth 100000 in
set_option maxHeartbeats 4000000 in
theorem spX12_in {G : GE} {d : Nat} {M : Mm} (n lo hi : Int32) : Mt G iX12_in d [.int n, .int lo, .int hi] M (Rt (b1 (lo ≤ n ∧ n ≤ hi)) M) := by
  refine Mt_in 0 (ls := [.int n, .int lo, .int hi]) moX12_in (Nat.le_of_ble_eq_true rfl) rfl ?_
  refine PW_iload_n (i := 0) dX12_in_0 rfl rfl ?_
  refine PW_iload_n (i := 1) dX12_in_1 rfl rfl ?_
  refine PW_icmp_lt 14 dX12_in_2 (by decide) (fun h2 => ?_) (fun h2 => ?_)
  · refine PW_iconst (v := 0) dX12_in_14 (by decide) ?_
    refine PW_ireturn rfl (rfl) dX12_in_15 (Nat.le_of_ble_eq_true rfl) (Nat.le_of_ble_eq_true rfl) ?_
    first | exact rt_f (fun q => absurd h7 ((n32 _ _).mpr q.2)) | exact rt_f (fun q => absurd h2 ((n32 _ _).mpr q.1))
  · refine PW_iload_n (i := 0) dX12_in_5 rfl rfl ?_
    refine PW_iload_n (i := 2) dX12_in_6 rfl rfl ?_
    refine PW_icmp_gt 14 dX12_in_7 (by decide) (fun h7 => ?_) (fun h7 => ?_)
    · refine PW_iconst (v := 0) dX12_in_14 (by decide) ?_
      refine PW_ireturn rfl (rfl) dX12_in_15 (Nat.le_of_ble_eq_true rfl) (Nat.le_of_ble_eq_true rfl) ?_
      first | exact rt_f (fun q => absurd h7 ((n32 _ _).mpr q.2)) | exact rt_f (fun q => absurd h2 ((n32 _ _).mpr q.1))
    · refine PW_iconst (v := 1) dX12_in_10 (by decide) ?_
      refine PW_goto 15 dX12_in_11 (by decide) ?_
      refine PW_ireturn rfl (rfl) dX12_in_15 (Nat.le_of_ble_eq_true rfl) (Nat.le_of_ble_eq_true rfl) ?_
      exact rt_t ⟨(n32 _ _).mp h2, (n32 _ _).mp h7⟩
set_option maxRecDepth 100000 in
set_option maxHeartbeats 4000000 in
theorem spX11_isPlace {G : GE} {d : Nat} {M : Mm} (hd : 1 ≤ d) (n : Int32) : Mt G iX11_isPlace d [.int n] M (Rt (b1 ((-60 : Int32) ≤ n ∧ n ≤ 60)) M) := by
  refine Mt_in 0 (ls := [.int n]) moX11_isPlace (Nat.le_of_ble_eq_true rfl) rfl ?_
  refine PW_iload_n (i := 0) dX11_isPlace_0 rfl rfl ?_
  refine PW_bipush (v := -60) dX11_isPlace_1 (by decide) ?_
  refine PW_bipush (v := 60) dX11_isPlace_3 (by decide) ?_
  refine PW_callS dX11_isPlace_5 moX11_isWithin cs11_116 (by omega) rfl rfl (Nat.le_of_ble_eq_true rfl) (Nat.le_of_ble_eq_true rfl) (Nat.le_of_ble_eq_true rfl) (spX11_isWithin (d := d - 1) _ _ _) (fun v M1 hq => ?_)
  obtain ⟨rfl, rfl⟩ := hq
  refine PW_ireturn rfl (b1_n _) dX11_isPlace_8 (Nat.le_of_ble_eq_true rfl) (Nat.le_of_ble_eq_true rfl) ?_
  exact rt_i rfl
set_option maxRecDepth 100000 in
set_option maxHeartbeats 4000000 in
theorem spX11_isNods {G : GE} {d : Nat} {M : Mm} (hd : 1 ≤ d) (n : Int32) : Mt G iX11_isNods d [.int n] M (Rt (b1 ((-3 : Int32) ≤ n ∧ n ≤ 3)) M) := by
  refine Mt_in 0 (ls := [.int n]) moX11_isNods (Nat.le_of_ble_eq_true rfl) rfl ?_
  refine PW_iload_n (i := 0) dX11_isNods_0 rfl rfl ?_
  refine PW_bipush (v := -3) dX11_isNods_1 (by decide) ?_
  refine PW_iconst (v := 3) dX11_isNods_3 (by decide) ?_
  refine PW_callS dX11_isNods_4 moX11_isWithin cs11_116 (by omega) rfl rfl (Nat.le_of_ble_eq_true rfl) (Nat.le_of_ble_eq_true rfl) (Nat.le_of_ble_eq_true rfl) (spX11_isWithin (d := d - 1) _ _ _) (fun v M1 hq => ?_)
  obtain ⟨rfl, rfl⟩ := hq
  refine PW_ireturn rfl (b1_n _) dX11_isNods_7 (Nat.le_of_ble_eq_true rfl) (Nat.le_of_ble_eq_true rfl) ?_
  exact rt_i rfl
set_option maxRecDepth 100000 in
set_option maxHeartbeats 4000000 in
theorem spX11_holds {G : GE} {d : Nat} {M : Mm} (s h : Int32) : Mt G iX11_holds d [.int s, .int h] M (Rt (b1 (s >>> (h &&& 31) &&& 1 = 1)) M) := by
  refine Mt_in 0 (ls := [.int s, .int h]) moX11_holds (Nat.le_of_ble_eq_true rfl) rfl ?_
  refine PW_iload_n (i := 0) dX11_holds_0 rfl rfl ?_
  refine PW_iload_n (i := 1) dX11_holds_1 rfl rfl ?_
  refine PW_ishr dX11_holds_2 ?_
  refine PW_iconst (v := 1) dX11_holds_3 (by decide) ?_
  refine PW_iand dX11_holds_4 ?_
  refine PW_iconst (v := 1) dX11_holds_5 (by decide) ?_
  refine PW_icmp_ne 13 dX11_holds_6 (by decide) (fun h6 => ?_) (fun h6 => ?_)
  · refine PW_iconst (v := 0) dX11_holds_13 (by decide) ?_
    refine PW_ireturn rfl (rfl) dX11_holds_14 (Nat.le_of_ble_eq_true rfl) (Nat.le_of_ble_eq_true rfl) ?_
    exact rt_f h6
  · refine PW_iconst (v := 1) dX11_holds_9 (by decide) ?_
    refine PW_goto 14 dX11_holds_10 (by decide) ?_
    refine PW_ireturn rfl (rfl) dX11_holds_14 (Nat.le_of_ble_eq_true rfl) (Nat.le_of_ble_eq_true rfl) ?_
    exact rt_t h6
set_option maxRecDepth 100000 in
set_option maxHeartbeats 4000000 in
theorem spX12_has {G : GE} {d : Nat} {M : Mm} (s h : Int32) : Mt G iX12_has d [.int s, .int h] M (Rt (b1 (s >>> (h &&& 31) &&& 1 = 1)) M) := by
  refine Mt_in 0 (ls := [.int s, .int h]) moX12_has (Nat.le_of_ble_eq_true rfl) rfl ?_
  refine PW_iload_n (i := 0) dX12_has_0 rfl rfl ?_
  refine PW_iload_n (i := 1) dX12_has_1 rfl rfl ?_
  refine PW_ishr dX12_has_2 ?_
  refine PW_iconst (v := 1) dX12_has_3 (by decide) ?_
  refine PW_iand dX12_has_4 ?_
  refine PW_iconst (v := 1) dX12_has_5 (by decide) ?_
  refine PW_icmp_ne 13 dX12_has_6 (by decide) (fun h6 => ?_) (fun h6 => ?_)
  · refine PW_iconst (v := 0) dX12_has_13 (by decide) ?_
    refine PW_ireturn rfl (rfl) dX12_has_14 (Nat.le_of_ble_eq_true rfl) (Nat.le_of_ble_eq_true rfl) ?_
    exact rt_f h6
  · refine PW_iconst (v := 1) dX12_has_9 (by decide) ?_
    refine PW_goto 14 dX12_has_10 (by decide) ?_
    refine PW_ireturn rfl (rfl) dX12_has_14 (Nat.le_of_ble_eq_true rfl) (Nat.le_of_ble_eq_true rfl) ?_
    exact rt_t h6
set_option maxRecDepth 100000 in
set_option maxHeartbeats 4000000 in
theorem spJ6_compare {G : GE} {d : Nat} {M : Mm} (x y : Int32) : Mt G iJ6_compare_7cf53 d [.int x, .int y] M (Rt (if x < y then -1 else if x = y then 0 else 1) M) := by
  refine Mt_in 0 (ls := [.int x, .int y]) moJ6_compare_7cf53 (Nat.le_of_ble_eq_true rfl) rfl ?_
  refine PW_iload_n (i := 0) dJ6_compare_7cf53_0 rfl rfl ?_
  refine PW_iload_n (i := 1) dJ6_compare_7cf53_1 rfl rfl ?_
  refine PW_icmp_ge 9 dJ6_compare_7cf53_2 (by decide) (fun h2 => ?_) (fun h2 => ?_)
  · refine PW_iload_n (i := 0) dJ6_compare_7cf53_9 rfl rfl ?_
    refine PW_iload_n (i := 1) dJ6_compare_7cf53_10 rfl rfl ?_
    refine PW_icmp_ne 18 dJ6_compare_7cf53_11 (by decide) (fun h11 => ?_) (fun h11 => ?_)
    · refine PW_iconst (v := 1) dJ6_compare_7cf53_18 (by decide) ?_
      refine PW_ireturn rfl (rfl) dJ6_compare_7cf53_19 (Nat.le_of_ble_eq_true rfl) (Nat.le_of_ble_eq_true rfl) ?_
      exact rt_i (by rw [if_neg (fun q => absurd q (Int32.not_lt.mpr h2)), if_neg h11])
    · refine PW_iconst (v := 0) dJ6_compare_7cf53_14 (by decide) ?_
      refine PW_goto 19 dJ6_compare_7cf53_15 (by decide) ?_
      refine PW_ireturn rfl (rfl) dJ6_compare_7cf53_19 (Nat.le_of_ble_eq_true rfl) (Nat.le_of_ble_eq_true rfl) ?_
      exact rt_i (by rw [if_neg (fun q => absurd q (Int32.not_lt.mpr h2)), if_pos h11])
  · refine PW_iconst (v := -1) dJ6_compare_7cf53_5 (by decide) ?_
    refine PW_goto 19 dJ6_compare_7cf53_6 (by decide) ?_
    refine PW_ireturn rfl (rfl) dJ6_compare_7cf53_19 (Nat.le_of_ble_eq_true rfl) (Nat.le_of_ble_eq_true rfl) ?_
    exact rt_i (by rw [if_pos ((n32' _ _).mp h2)])
set_option maxRecDepth 100000 in
set_option maxHeartbeats 4000000 in
theorem spX7_sleepy {G : GE} {d : Nat} {M : Mm} {b w t : Nat} {fed : Bool} : Mt G iX7_sleepy d [.ref b, .int (nI w), .int (b2i fed), .int (nI t)] M (Rt (nI t) M) := by
  refine Mt_in 0 (ls := [.ref b, .int (nI w), .int (b2i fed), .int (nI t)]) moX7_sleepy (Nat.le_of_ble_eq_true rfl) rfl ?_
  refine PW_iload_n (i := 3) dX7_sleepy_0 rfl rfl ?_
  refine PW_ireturn rfl (rfl) dX7_sleepy_1 (Nat.le_of_ble_eq_true rfl) (Nat.le_of_ble_eq_true rfl) ?_
  exact rt_i rfl
set_option maxRecDepth 100000 in
set_option maxHeartbeats 4000000 in
theorem spX1_sleepy {G : GE} {d : Nat} {M : Mm} (hd : 1 ≤ d) {b ci w t : Nat} {fed : Bool} (hcl : ∃ r : vw_C, vwCl[ci]? = some r ∧ ci < 13) (ht : mt M b = (ci, 0)) (hw : w < 2 ^ 30) (h9 : t < 2 ^ 20) : Mt G iX1_sleepy d [.ref b, .int (nI w), .int (b2i fed), .int (nI t)] M (Rt (nI (slp 1 t w fed)) M) := by
  refine Mt_in 1 (ls := [.ref b, .int (nI w), .int (b2i fed), .int (nI t), .null]) moX1_sleepy (Nat.le_of_ble_eq_true rfl) rfl ?_
  refine PW_aload_n (i := 0) dX1_sleepy_0 rfl rfl ?_
  refine PW_iload_n (i := 1) dX1_sleepy_1 rfl rfl ?_
  refine PW_iload_n (i := 2) dX1_sleepy_2 rfl rfl ?_
  refine PW_iload_n (i := 3) dX1_sleepy_3 rfl rfl ?_
  refine PW_callSU dX1_sleepy_4 moX7_sleepy cv1_7 (hcl) (ht) (by omega) rfl rfl (Nat.le_of_ble_eq_true rfl) (Nat.le_of_ble_eq_true rfl) (Nat.le_of_ble_eq_true rfl) (spX7_sleepy (d := d - 1)) (fun v M1 hq => ?_)
  obtain ⟨rfl, rfl⟩ := hq
  refine PW_istore dX1_sleepy_7 (Nat.le_of_ble_eq_true rfl) rfl ?_
  refine PW_iload_n (i := 1) dX1_sleepy_9 rfl rfl ?_
  refine PW_iconst (v := 4) dX1_sleepy_10 (by decide) ?_
  refine PW_irem dX1_sleepy_11 (by decide) ?_
  refine PW_eqi (rem_c (by omega) 4 (by decide) (by decide) rfl) ?_
  refine PW_if_ne 26 dX1_sleepy_12 (by decide) (fun h12 => ?_) (fun h12 => ?_)
  · have h12 : ¬ w % 4 = 0 := fun q => h12 ((nI_e0 (by omega)).mpr q)
    refine PW_iload dX1_sleepy_26 rfl ?_
    refine PW_ireturn rfl (rfl) dX1_sleepy_28 (Nat.le_of_ble_eq_true rfl) (Nat.le_of_ble_eq_true rfl) ?_
    refine rt_i ?_
    rw [slp_1]
    first | (rw [if_neg h12]; done) | (rw [if_pos h12]; exact max0 (c := 3) (by omega) (by decide))
  · have h12 := (nI_e0 (by omega)).mp h12
    refine PW_iconst (v := 0) dX1_sleepy_15 (by decide) ?_
    refine PW_iload dX1_sleepy_16 rfl ?_
    refine PW_iconst (v := 3) dX1_sleepy_18 (by decide) ?_
    refine PW_isub dX1_sleepy_19 ?_
    refine PW_max dX1_sleepy_20 mm1_11 mw_max (Nat.le_of_ble_eq_true rfl) (Nat.le_of_ble_eq_true rfl) (Nat.le_of_ble_eq_true rfl) ?_
    refine PW_goto 28 dX1_sleepy_23 (by decide) ?_
    refine PW_ireturn rfl (rfl) dX1_sleepy_28 (Nat.le_of_ble_eq_true rfl) (Nat.le_of_ble_eq_true rfl) ?_
    refine rt_i ?_
    rw [slp_1]
    first | (rw [if_neg h12]; done) | (rw [if_pos h12]; exact max0 (c := 3) (by omega) (by decide))
set_option maxRecDepth 100000 in
set_option maxHeartbeats 4000000 in
theorem spX8_sleepy {G : GE} {d : Nat} {M : Mm} (hd : 1 ≤ d) {b ci w t : Nat} {fed : Bool} (hcl : ∃ r : vw_C, vwCl[ci]? = some r ∧ ci < 13) (ht : mt M b = (ci, 0)) (hw : w < 2 ^ 30) (h9 : t < 2 ^ 20) : Mt G iX8_sleepy d [.ref b, .int (nI w), .int (b2i fed), .int (nI t)] M (Rt (nI (slp 2 t w fed)) M) := by
  refine Mt_in 1 (ls := [.ref b, .int (nI w), .int (b2i fed), .int (nI t), .null]) moX8_sleepy (Nat.le_of_ble_eq_true rfl) rfl ?_
  refine PW_aload_n (i := 0) dX8_sleepy_0 rfl rfl ?_
  refine PW_iload_n (i := 1) dX8_sleepy_1 rfl rfl ?_
  refine PW_iload_n (i := 2) dX8_sleepy_2 rfl rfl ?_
  refine PW_iload_n (i := 3) dX8_sleepy_3 rfl rfl ?_
  refine PW_callSU dX8_sleepy_4 moX7_sleepy cv8_7 (hcl) (ht) (by omega) rfl rfl (Nat.le_of_ble_eq_true rfl) (Nat.le_of_ble_eq_true rfl) (Nat.le_of_ble_eq_true rfl) (spX7_sleepy (d := d - 1)) (fun v M1 hq => ?_)
  obtain ⟨rfl, rfl⟩ := hq
  refine PW_istore dX8_sleepy_7 (Nat.le_of_ble_eq_true rfl) rfl ?_
  refine PW_iload_n (i := 2) dX8_sleepy_9 rfl rfl ?_
  refine PW_if_eq 18 dX8_sleepy_10 (by decide) (fun h10 => ?_) (fun h10 => ?_)
  · have h10 := b2i_0.mp h10
    refine PW_iload dX8_sleepy_18 rfl ?_
    refine PW_iconst (v := 2) dX8_sleepy_20 (by decide) ?_
    refine PW_idiv dX8_sleepy_21 (by decide) ?_
    refine PW_ireturn rfl (rfl) dX8_sleepy_22 (Nat.le_of_ble_eq_true rfl) (Nat.le_of_ble_eq_true rfl) ?_
    refine rt_i ?_
    subst h10
    rw [slp_2]
    first | rfl | exact pk_div (by omega) (by decide) (by decide)
  · have h10 := b2i_n.mp h10
    refine PW_iload dX8_sleepy_13 rfl ?_
    refine PW_goto 22 dX8_sleepy_15 (by decide) ?_
    refine PW_ireturn rfl (rfl) dX8_sleepy_22 (Nat.le_of_ble_eq_true rfl) (Nat.le_of_ble_eq_true rfl) ?_
    refine rt_i ?_
    subst h10
    rw [slp_2]
    first | rfl | exact pk_div (by omega) (by decide) (by decide)
set_option maxRecDepth 100000 in
set_option maxHeartbeats 4000000 in
theorem spX2_sleepy {G : GE} {d : Nat} {M : Mm} (hd : 1 ≤ d) {b ci w t : Nat} {fed : Bool} (hcl : ∃ r : vw_C, vwCl[ci]? = some r ∧ ci < 13) (ht : mt M b = (ci, 0)) (hw : w < 2 ^ 30) (h9 : t < 2 ^ 20) : Mt G iX2_sleepy d [.ref b, .int (nI w), .int (b2i fed), .int (nI t)] M (Rt (nI (slp 3 t w fed)) M) := by
  refine Mt_in 1 (ls := [.ref b, .int (nI w), .int (b2i fed), .int (nI t), .null]) moX2_sleepy (Nat.le_of_ble_eq_true rfl) rfl ?_
  refine PW_aload_n (i := 0) dX2_sleepy_0 rfl rfl ?_
  refine PW_iload_n (i := 1) dX2_sleepy_1 rfl rfl ?_
  refine PW_iload_n (i := 2) dX2_sleepy_2 rfl rfl ?_
  refine PW_iload_n (i := 3) dX2_sleepy_3 rfl rfl ?_
  refine PW_callSU dX2_sleepy_4 moX7_sleepy cv2_7 (hcl) (ht) (by omega) rfl rfl (Nat.le_of_ble_eq_true rfl) (Nat.le_of_ble_eq_true rfl) (Nat.le_of_ble_eq_true rfl) (spX7_sleepy (d := d - 1)) (fun v M1 hq => ?_)
  obtain ⟨rfl, rfl⟩ := hq
  refine PW_istore dX2_sleepy_7 (Nat.le_of_ble_eq_true rfl) rfl ?_
  refine PW_iload_n (i := 2) dX2_sleepy_9 rfl rfl ?_
  refine PW_if_eq 20 dX2_sleepy_10 (by decide) (fun h10 => ?_) (fun h10 => ?_)
  · have h10 := b2i_0.mp h10
    refine PW_iload dX2_sleepy_20 rfl ?_
    refine PW_ireturn rfl (rfl) dX2_sleepy_22 (Nat.le_of_ble_eq_true rfl) (Nat.le_of_ble_eq_true rfl) ?_
    refine rt_i ?_
    subst h10
    rw [slp_3]
    first | rfl | exact pk_mul 2 t
  · have h10 := b2i_n.mp h10
    refine PW_iconst (v := 2) dX2_sleepy_13 (by decide) ?_
    refine PW_iload dX2_sleepy_14 rfl ?_
    refine PW_imul dX2_sleepy_16 ?_
    refine PW_goto 22 dX2_sleepy_17 (by decide) ?_
    refine PW_ireturn rfl (rfl) dX2_sleepy_22 (Nat.le_of_ble_eq_true rfl) (Nat.le_of_ble_eq_true rfl) ?_
    refine rt_i ?_
    subst h10
    rw [slp_3]
    first | rfl | exact pk_mul 2 t
set_option maxRecDepth 100000 in
set_option maxHeartbeats 4000000 in
theorem spX5_sleepy {G : GE} {d : Nat} {M : Mm} (hd : 2 ≤ d) {b ci w t : Nat} {fed : Bool} (hcl : ∃ r : vw_C, vwCl[ci]? = some r ∧ ci < 13) (ht : mt M b = (ci, 0)) (hw : w < 2 ^ 30) (h9 : t < 2 ^ 20) : Mt G iX5_sleepy d [.ref b, .int (nI w), .int (b2i fed), .int (nI t)] M (Rt (nI (slp 4 t w fed)) M) := by
  refine Mt_in 1 (ls := [.ref b, .int (nI w), .int (b2i fed), .int (nI t), .null]) moX5_sleepy (Nat.le_of_ble_eq_true rfl) rfl ?_
  refine PW_aload_n (i := 0) dX5_sleepy_0 rfl rfl ?_
  refine PW_iload_n (i := 1) dX5_sleepy_1 rfl rfl ?_
  refine PW_iload_n (i := 2) dX5_sleepy_2 rfl rfl ?_
  refine PW_iload_n (i := 3) dX5_sleepy_3 rfl rfl ?_
  refine PW_callSU dX5_sleepy_4 moX1_sleepy cv5_7 (hcl) (ht) (by omega) rfl rfl (Nat.le_of_ble_eq_true rfl) (Nat.le_of_ble_eq_true rfl) (Nat.le_of_ble_eq_true rfl) (spX1_sleepy (d := d - 1) (by omega) hcl ht hw h9) (fun v M1 hq => ?_)
  obtain ⟨rfl, rfl⟩ := hq
  refine PW_istore dX5_sleepy_7 (Nat.le_of_ble_eq_true rfl) rfl ?_
  refine PW_iload_n (i := 1) dX5_sleepy_9 rfl rfl ?_
  refine PW_bipush (v := 7) dX5_sleepy_10 (by decide) ?_
  refine PW_irem dX5_sleepy_12 (by decide) ?_
  refine PW_eqi (rem_c (by omega) 7 (by decide) (by decide) rfl) ?_
  refine PW_iconst (v := 3) dX5_sleepy_13 (by decide) ?_
  refine PW_icmp_ne 24 dX5_sleepy_14 (by decide) (fun h14 => ?_) (fun h14 => ?_)
  · have h14 : ¬ w % 7 = 3 := fun q => h14 ((nI_ec 3 (by omega) (by decide) rfl).mpr q)
    refine PW_iload dX5_sleepy_24 rfl ?_
    refine PW_ireturn rfl (rfl) dX5_sleepy_26 (Nat.le_of_ble_eq_true rfl) (Nat.le_of_ble_eq_true rfl) ?_
    refine rt_i ?_
    rw [slp_4]
    first | (rw [if_neg h14, Nat.add_zero]; done) | (rw [if_pos h14]; exact nI_add _ 5)
  · have h14 := (nI_ec 3 (by omega) (by decide) rfl).mp h14
    refine PW_iload dX5_sleepy_17 rfl ?_
    refine PW_iconst (v := 5) dX5_sleepy_19 (by decide) ?_
    refine PW_iadd dX5_sleepy_20 ?_
    refine PW_goto 26 dX5_sleepy_21 (by decide) ?_
    refine PW_ireturn rfl (rfl) dX5_sleepy_26 (Nat.le_of_ble_eq_true rfl) (Nat.le_of_ble_eq_true rfl) ?_
    refine rt_i ?_
    rw [slp_4]
    first | (rw [if_neg h14, Nat.add_zero]; done) | (rw [if_pos h14]; exact nI_add _ 5)
set_option maxRecDepth 100000 in
set_option maxHeartbeats 4000000 in
theorem spX0_sleepy {G : GE} {d : Nat} {M : Mm} {b w t : Nat} {fed : Bool} : Mt G iX0_sleepy d [.ref b, .int (nI w), .int (b2i fed), .int (nI t)] M (Rt (nI (slp 5 t w fed)) M) := by
  refine Mt_in 0 (ls := [.ref b, .int (nI w), .int (b2i fed), .int (nI t)]) moX0_sleepy (Nat.le_of_ble_eq_true rfl) rfl ?_
  refine PW_iconst (v := 0) dX0_sleepy_0 (by decide) ?_
  refine PW_ireturn rfl (rfl) dX0_sleepy_1 (Nat.le_of_ble_eq_true rfl) (Nat.le_of_ble_eq_true rfl) ?_
  exact rt_i rfl
set_option maxRecDepth 100000 in
set_option maxHeartbeats 4000000 in
theorem spX7_tires {G : GE} {d : Nat} {M : Mm} {b : Nat} : Mt G iX7_tires d [.ref b] M (Rt 1 M) := by
  refine Mt_in 0 (ls := [.ref b]) moX7_tires (Nat.le_of_ble_eq_true rfl) rfl ?_
  refine PW_iconst (v := 1) dX7_tires_0 (by decide) ?_
  refine PW_ireturn rfl (rfl) dX7_tires_1 (Nat.le_of_ble_eq_true rfl) (Nat.le_of_ble_eq_true rfl) ?_
  exact rt_i rfl
set_option maxRecDepth 100000 in
set_option maxHeartbeats 4000000 in
theorem spX8_tires {G : GE} {d : Nat} {M : Mm} (hd : 1 ≤ d) {b ci : Nat} (hcl : ∃ r : vw_C, vwCl[ci]? = some r ∧ ci < 13) (ht : mt M b = (ci, 0)) : Mt G iX8_tires d [.ref b] M (Rt 2 M) := by
  refine Mt_in 0 (ls := [.ref b]) moX8_tires (Nat.le_of_ble_eq_true rfl) rfl ?_
  refine PW_aload_n (i := 0) dX8_tires_0 rfl rfl ?_
  refine PW_callSU dX8_tires_1 moX7_tires cv8_11 (hcl) (ht) (by omega) rfl rfl (Nat.le_of_ble_eq_true rfl) (Nat.le_of_ble_eq_true rfl) (Nat.le_of_ble_eq_true rfl) (spX7_tires (d := d - 1)) (fun v M1 hq => ?_)
  obtain ⟨rfl, rfl⟩ := hq
  refine PW_iconst (v := 1) dX8_tires_4 (by decide) ?_
  refine PW_iadd dX8_tires_5 ?_
  refine PW_ireturn rfl (rfl) dX8_tires_6 (Nat.le_of_ble_eq_true rfl) (Nat.le_of_ble_eq_true rfl) ?_
  exact rt_i rfl
set_option maxRecDepth 100000 in
set_option maxHeartbeats 4000000 in
theorem spX0_tires {G : GE} {d : Nat} {M : Mm} (hd : 2 ≤ d) {b ci : Nat} (hcl : ∃ r : vw_C, vwCl[ci]? = some r ∧ ci < 13) (ht : mt M b = (ci, 0)) : Mt G iX0_tires d [.ref b] M (Rt 0 M) := by
  refine Mt_in 0 (ls := [.ref b]) moX0_tires (Nat.le_of_ble_eq_true rfl) rfl ?_
  refine PW_aload_n (i := 0) dX0_tires_0 rfl rfl ?_
  refine PW_callSU dX0_tires_1 moX8_tires cv0_7 (hcl) (ht) (by omega) rfl rfl (Nat.le_of_ble_eq_true rfl) (Nat.le_of_ble_eq_true rfl) (Nat.le_of_ble_eq_true rfl) (spX8_tires (d := d - 1) (by omega) hcl ht) (fun v M1 hq => ?_)
  obtain ⟨rfl, rfl⟩ := hq
  refine PW_iconst (v := 2) dX0_tires_4 (by decide) ?_
  refine PW_isub dX0_tires_5 ?_
  refine PW_ireturn rfl (rfl) dX0_tires_6 (Nat.le_of_ble_eq_true rfl) (Nat.le_of_ble_eq_true rfl) ?_
  exact rt_i rfl
end
section
/-! ===== a helm: crew n, kinds K, tired T, nods N, place p, watch w, fed f (bits) ===== -/
abbrev Hm : Type := Nat × (Nat → Nat) × (Nat → Nat) × (Nat → Int) × Int × Nat × Nat
def hn (h : Hm) : Nat := h.1
def hK (h : Hm) : Nat → Nat := h.2.1
def hT (h : Hm) : Nat → Nat := h.2.2.1
def hN (h : Hm) : Nat → Int := h.2.2.2.1
def hp (h : Hm) : Int := h.2.2.2.2.1
def hw (h : Hm) : Nat := h.2.2.2.2.2.1
def hf (h : Hm) : Nat := h.2.2.2.2.2.2
/-- within b watches from the beginning -/
def HV (b : Nat) (h : Hm) : Prop := hn h ≤ 6 ∧ hf h < 2 ^ hn h ∧ hw h ≤ b ∧ -(3 * (b : Int)) ≤ hp h ∧ hp h ≤ 3 * (b : Int) ∧ ∀ j, j < hn h → hK h j < 6 ∧ hT h j ≤ 99 ∧ -3 ≤ hN h j ∧ hN h j ≤ 3
/-- the class's helm at the address a holds h -/
def HR (i : MI0) (a : Nat) (h : Hm) : Prop := i a 4 = nI (hn h) ∧ i a 5 = iN (hp h) ∧ i a 6 = nI (hw h) ∧ i a 7 = nI (hf h) ∧ ∀ j, j < hn h → i (a + 1) j = nI (hK h j) ∧ i (a + 2) j = nI (hT h j) ∧ i (a + 3) j = iN (hN h j)
def HS (S : MS) (X a : Nat) : Prop := sT S a = (4, 0) ∧ sT S (a + 1) = (13, 6) ∧ sT S (a + 2) = (13, 6) ∧ sT S (a + 3) = (13, 6) ∧ sR S a 0 = some (X + 1) ∧ sR S a 1 = some (a + 1) ∧ sR S a 2 = some (a + 2) ∧ sR S a 3 = some (a + 3)
def KS (S : MS) (X : Nat) : Prop := sT S (X + 1) = (16, 6) ∧ (sR S (X + 1) 0 = some (X + 2) ∧ sR S (X + 1) 1 = some (X + 3) ∧ sR S (X + 1) 2 = some (X + 4) ∧ sR S (X + 1) 3 = some (X + 5) ∧ sR S (X + 1) 4 = some (X + 6) ∧ sR S (X + 1) 5 = some (X + 7)) ∧ sT S (X + 2) = (7, 0) ∧ sT S (X + 3) = (1, 0) ∧ sT S (X + 4) = (8, 0) ∧ sT S (X + 5) = (2, 0) ∧ sT S (X + 6) = (5, 0) ∧ sT S (X + 7) = (0, 0)
/-- how sleepy j is in this watch, if g are fed -/
def sly (h : Hm) (g j : Nat) : Nat := slp (hK h j) (hT h j) (hw h) (g.testBit j)
/-- the first of the greatest above 0: who (one more), how much -/
def bst (f : Nat → Nat) : Nat → Nat × Nat
  | 0 => (0, 0)
  | j + 1 => if (bst f j).2 < f j then (j + 1, f j) else bst f j
theorem bst_le (f : Nat → Nat) : ∀ n, (bst f n).1 ≤ n
  | 0 => Nat.le_refl _
  | n + 1 => by
    unfold bst
    split
    · exact Nat.le_refl _
    · exact Nat.le_succ_of_le (bst_le f n)
theorem bst_mo {f : Nat → Nat} {B : Nat} : ∀ {n : Nat}, (∀ j, j < n → f j ≤ B) → (bst f n).2 ≤ B
  | 0, _ => Nat.zero_le _
  | n + 1, h => by
    unfold bst
    split
    · exact h n (Nat.lt_succ_self n)
    · exact bst_mo (fun j hj => h j (Nat.lt_succ_of_lt hj))
theorem bst_cong {f g : Nat → Nat} : ∀ {n : Nat}, (∀ j, j < n → f j = g j) → bst f n = bst g n
  | 0, _ => rfl
  | n + 1, h => by
    unfold bst
    rw [bst_cong (fun j hj => h j (Nat.lt_succ_of_lt hj)), h n (Nat.lt_succ_self n)]
/-- who steers in this watch, if g are fed -/
def stw (h : Hm) (g : Nat) : Nat := (bst (sly h g) (hn h)).1
theorem stw_le (h : Hm) (g : Nat) : stw h g ≤ hn h := bst_le _ _
/-- a watch goes by in which w steers -/
def goH (h : Hm) (w : Nat) : Hm := (hn h, hK h, (fun j => if w = j + 1 then hT h j - 4 else min 99 (hT h j + mor (hK h j))), hN h, (if w = 0 then hp h else hp h + hN h (w - 1)), hw h + 1, 0)
def pas (h : Hm) : Hm := goH h (stw h (hf h))
theorem mor_le (k : Nat) : mor k ≤ 2 := by
  unfold mor
  split
  · omega
  · split <;> omega
theorem goH_V {b : Nat} {h : Hm} {w : Nat} (hv : HV b h) (hw' : w ≤ hn h) : HV (b + 1) (goH h w) := by
  obtain ⟨h1, h2, h3, h4, h5, h6⟩ := hv
  refine ⟨h1, Nat.two_pow_pos _, Nat.succ_le_succ h3, ?_, ?_, fun j hj => ?_⟩
  · show -(3 * ((b + 1 : Nat) : Int)) ≤ (if w = 0 then hp h else hp h + hN h (w - 1))
    split
    · omega
    · have := h6 (w - 1) (by omega)
      omega
  · show (if w = 0 then hp h else hp h + hN h (w - 1)) ≤ 3 * ((b + 1 : Nat) : Int)
    split
    · omega
    · have := h6 (w - 1) (by omega)
      omega
  · obtain ⟨q1, q2, q3⟩ := h6 j hj
    refine ⟨q1, ?_, q3⟩
    show (if w = j + 1 then hT h j - 4 else min 99 (hT h j + mor (hK h j))) ≤ 99
    split <;> omega
theorem pas_V {b : Nat} {h : Hm} (hv : HV b h) : HV (b + 1) (pas h) := goH_V hv (stw_le _ _)
theorem HV.mono {b c : Nat} {h : Hm} (hv : HV b h) (hbc : b ≤ c) : HV c h := by
  obtain ⟨h1, h2, h3, h4, h5, h6⟩ := hv
  exact ⟨h1, h2, by omega, by omega, by omega, h6⟩
theorem HR.keep {i i' : MI0} {a : Nat} {h : Hm} (hr : HR i a h) (e0 : i' a = i a) (e1 : i' (a + 1) = i (a + 1)) (e2 : i' (a + 2) = i (a + 2)) (e3 : i' (a + 3) = i (a + 3)) : HR i' a h := by
  unfold HR
  rw [e0, e1, e2, e3]
  exact hr
theorem sly_le {b : Nat} {h : Hm} (hv : HV b h) (g : Nat) {j : Nat} (hj : j < hn h) : sly h g j ≤ 203 := by
  have := (hv.2.2.2.2.2 j hj).2.1
  have := slp_le (hK h j) (hT h j) (hw h) (g.testBit j)
  unfold sly
  omega
theorem bst_203 {b : Nat} {h : Hm} (hv : HV b h) (g : Nat) {j : Nat} (hj : j ≤ hn h) : (bst (sly h g) j).2 ≤ 203 := bst_mo (fun k hk => sly_le hv g (by omega))
theorem sh_l : ∀ n, n < 32 → ((nI n &&& 31).toBitVec.smod 32).toNat = n := by decide +kernel
theorem shr_b {g j : Nat} (hg : g < 2 ^ 31) (hj : j < 32) : nI g >>> (nI j &&& 31) &&& 1 = nI (g / 2 ^ j % 2) := by
  rw [pk_shrN hg _ j (sh_l j hj), pk_andN (Nat.lt_of_le_of_lt (Nat.div_le_self _ _) (by omega)) 1 (by decide)]
theorem hold_b {g j : Nat} (hg : g < 2 ^ 31) (hj : j < 32) : b1 (nI g >>> (nI j &&& 31) &&& 1 = 1) = b2i (g.testBit j) := by
  rw [shr_b hg hj]
  have e : g.testBit j = decide (g / 2 ^ j % 2 = 1) := Nat.testBit_eq_decide_div_mod_eq
  have hm : g / 2 ^ j % 2 = 0 ∨ g / 2 ^ j % 2 = 1 := by omega
  rw [e]
  rcases hm with h | h
  · rw [h]; decide
  · rw [h]; decide
theorem bst_s {f : Nat → Nat} {j : Nat} (h : (bst f j).2 < f j) : bst f (j + 1) = (j + 1, f j) := by rw [bst, if_pos h]
theorem bst_n {f : Nat → Nat} {j : Nat} (h : ¬ (bst f j).2 < f j) : bst f (j + 1) = bst f j := by rw [bst, if_neg h]
/-- go's loop, j of the crew done -/
def GI (i i' : MI0) (a : Nat) (h : Hm) (w j : Nat) : Prop := (∀ q, q ≠ a → q ≠ a + 2 → i' q = i q) ∧ (∀ k, k ≠ 5 → i' a k = i a k) ∧ i' a 5 = iN (if w = 0 ∨ j < w then hp h else hp h + hN h (w - 1)) ∧ (∀ q, q < j → i' (a + 2) q = nI (hT (goH h w) q)) ∧ ∀ q, j ≤ q → i' (a + 2) q = i (a + 2) q
theorem GI_0 {i : MI0} {a : Nat} {h : Hm} {w : Nat} (h5 : i a 5 = iN (hp h)) : GI i i a h w 0 := by
  refine ⟨fun _ _ _ => rfl, fun _ _ => rfl, ?_, fun q hq => absurd hq (Nat.not_lt_zero q), fun _ _ => rfl⟩
  rw [if_pos (by omega)]
  exact h5
theorem GI_ne {i i' : MI0} {S : MS} {a : Nat} {h : Hm} {w j : Nat} {v : Int32} (hg : GI i i' a h w j) (hw : ¬ w = j + 1) (hv : v = nI (min 99 (hT h j + mor (hK h j)))) : GI i (mi (wI (i', S) (a + 2) j v)) a h w (j + 1) := by
  obtain ⟨g1, g2, g3, g4, g5⟩ := hg
  refine ⟨fun q h1 h2 => ?_, fun k hk => ?_, ?_, fun q hq => ?_, fun q hq => ?_⟩
  · rw [← g1 q h1 h2]; funext k; exact rI_a _ _ _ h2
  · rw [rI_a _ _ _ (by omega)]; exact g2 k hk
  · rw [rI_a _ _ _ (by omega)]
    show i' a 5 = _
    rw [g3]
    congr 1
    by_cases h0 : w = 0 ∨ j < w
    · rw [if_pos h0, if_pos (by omega)]
    · rw [if_neg h0, if_neg (by omega)]
  · by_cases hqj : q = j
    · subst hqj
      rw [rI_s, hv]
      show _ = nI (if w = q + 1 then _ else _)
      rw [if_neg hw]
    · rw [rI_k _ _ _ hqj]
      exact g4 q (by omega)
  · rw [rI_k _ _ _ (by omega)]
    exact g5 q (by omega)
theorem GI_eq {i i' : MI0} {S : MS} {a : Nat} {h : Hm} {w j : Nat} {v u : Int32} (hg : GI i i' a h w j) (hw : w = j + 1) (hv : v = nI (hT h j - 4)) (hu : u = iN (hp h + hN h j)) : GI i (mi (wI (wI (i', S) a 5 u) (a + 2) j v)) a h w (j + 1) := by
  obtain ⟨g1, g2, g3, g4, g5⟩ := hg
  refine ⟨fun q h1 h2 => ?_, fun k hk => ?_, ?_, fun q hq => ?_, fun q hq => ?_⟩
  · rw [← g1 q h1 h2]; funext k; rw [rI_a _ _ _ h2, rI_a _ _ _ h1]; rfl
  · rw [rI_a _ _ _ (by omega), rI_k _ _ _ hk]; exact g2 k hk
  · rw [rI_a _ _ _ (by omega), rI_s, hu, if_neg (by omega), hw]
    rfl
  · by_cases hqj : q = j
    · subst hqj
      rw [rI_s, hv]
      show _ = nI (if w = q + 1 then _ else _)
      rw [if_pos hw]
    · rw [rI_k _ _ _ hqj, rI_a _ _ _ (by omega)]
      exact g4 q (by omega)
  · rw [rI_k _ _ _ (by omega), rI_a _ _ _ (by omega)]
    exact g5 q (by omega)
theorem GI_end {i i' : MI0} {S : MS} {a : Nat} {h : Hm} {w : Nat} {u z : Int32} (hr : HR i a h) (hw7 : w ≤ hn h) (hg : GI i i' a h w (hn h)) (hz : z = 0) (hu : u = nI (hw h + 1)) : HR (mi (wI (wI (i', S) a 7 z) a 6 u)) a (goH h w) ∧ ∀ q, q ≠ a → q ≠ a + 2 → mi (wI (wI (i', S) a 7 z) a 6 u) q = i q := by
  obtain ⟨g1, g2, g3, g4, g5⟩ := hg
  obtain ⟨r4, r5, r6, r7, rj⟩ := hr
  refine ⟨⟨?_, ?_, ?_, ?_, fun j hj => ⟨?_, ?_, ?_⟩⟩, fun q h1 h2 => ?_⟩
  · rw [rI_k _ _ _ (by decide), rI_k _ _ _ (by decide)]
    exact (g2 4 (by decide)).trans r4
  · rw [rI_k _ _ _ (by decide), rI_k _ _ _ (by decide)]
    refine g3.trans ?_
    show iN _ = iN (if w = 0 then _ else _)
    by_cases h0 : w = 0
    · rw [if_pos h0, if_pos (Or.inl h0)]
    · rw [if_neg h0, if_neg (by omega)]
  · rw [rI_s, hu]; rfl
  · rw [rI_k _ _ _ (by decide), rI_s, hz]; rfl
  · rw [rI_a _ _ _ (by omega), rI_a _ _ _ (by omega)]
    show i' (a + 1) j = _
    rw [g1 _ (by omega) (by omega)]
    exact (rj j hj).1
  · rw [rI_a _ _ _ (by omega), rI_a _ _ _ (by omega)]
    exact g4 j hj
  · rw [rI_a _ _ _ (by omega), rI_a _ _ _ (by omega)]
    show i' (a + 3) j = _
    rw [g1 _ (by omega) (by omega)]
    exact (rj j hj).2.2
  · rw [← g1 q h1 h2]; funext k; rw [rI_a _ _ _ h1, rI_a _ _ _ h1]; rfl
end
section
/-! ===== Helm: sleepiness, steerer ===== -/
set_option maxRecDepth 100000 in
set_option maxHeartbeats 4000000 in
theorem spX4_sleepiness {G : GE} {d : Nat} {i : MI0} {S : MS} {X a b : Nat} {h : Hm} (hd : 4 ≤ d) (hK0 : KS S X) (hS : HS S X a) (hR : HR i a h) (hV : HV b h) (hb : b ≤ 1000) {j : Nat} (hj : j < hn h) (fed : Bool) : Mt G iX4_sleepiness d [.ref a, .int (nI j), .int (b2i fed)] (i, S) (Rt (nI (slp (hK h j) (hT h j) (hw h) fed)) (i, S)) := by
  have hK0' := hK0
  have hS' := hS
  have hR' := hR
  have hV' := hV
  obtain ⟨Fk0, Fkr, Fkp⟩ := hK0
  obtain ⟨Ft0, Ft1, Ft2, Ft3, Fr0, Fr1, Fr2, Fr3⟩ := hS
  obtain ⟨Fg4, Fg5, Fg6, Fg7, Fgj⟩ := hR
  obtain ⟨Fv1, Fv2, Fv3, Fv4, Fv5, Fv6⟩ := hV
  refine Mt_in 0 (ls := [.ref a, .int (nI j), .int (b2i fed)]) moX4_sleepiness (Nat.le_of_ble_eq_true rfl) rfl ?_
  refine PW_aload_n (i := 0) dX4_sleepiness_0 rfl rfl ?_
  refine PW_getR dX4_sleepiness_1 fg4_21 (Ft0) (Fr0) ?_
  refine PW_aload_n (i := 0) dX4_sleepiness_4 rfl rfl ?_
  refine PW_getR dX4_sleepiness_5 fg4_9 (Ft0) (Fr1) ?_
  refine PW_iload_n (i := 1) dX4_sleepiness_8 rfl rfl ?_
  refine PW_ial (v := nI (hK h j)) dX4_sleepiness_9 (Ft1) (by decide) (by omega) ((Fgj j hj).1) ?_
  have h6 := Fv6 j hj
  have hw9 : hw h < 2 ^ 30 := by omega
  have ht9 : hT h j < 2 ^ 20 := by omega
  rcases (by omega : hK h j = 0 ∨ hK h j = 1 ∨ hK h j = 2 ∨ hK h j = 3 ∨ hK h j = 4 ∨ hK h j = 5) with hk | hk | hk | hk | hk | hk
  · rw [hk]
    refine PW_aal dX4_sleepiness_10 (Fk0) (by decide) (by decide) (by decide) (by decide) (Fkr.1) ?_
    refine PW_aload_n (i := 0) dX4_sleepiness_11 rfl rfl ?_
    refine PW_giv (v := nI (hw h)) dX4_sleepiness_12 fg4_32 (Ft0) (Fg6) ?_
    refine PW_iload_n (i := 2) dX4_sleepiness_15 rfl rfl ?_
    refine PW_aload_n (i := 0) dX4_sleepiness_16 rfl rfl ?_
    refine PW_getR dX4_sleepiness_17 fg4_15 (Ft0) (Fr2) ?_
    refine PW_iload_n (i := 1) dX4_sleepiness_20 rfl rfl ?_
    refine PW_ial (v := nI (hT h j)) dX4_sleepiness_21 (Ft2) (by decide) (by omega) ((Fgj j hj).2.1) ?_
    refine PW_callU dX4_sleepiness_22 moX7_sleepy cu4_44_7 (Fkp.1) (by omega) rfl rfl (Nat.le_of_ble_eq_true rfl) (Nat.le_of_ble_eq_true rfl) (Nat.le_of_ble_eq_true rfl) (spX7_sleepy (d := d - 1)) (fun v M1 hq => ?_)
    obtain ⟨rfl, rfl⟩ := hq
    refine PW_ireturn rfl (rfl) dX4_sleepiness_25 (Nat.le_of_ble_eq_true rfl) (Nat.le_of_ble_eq_true rfl) ?_
    exact rt_i rfl
  · rw [hk]
    refine PW_aal dX4_sleepiness_10 (Fk0) (by decide) (by decide) (by decide) (by decide) (Fkr.2.1) ?_
    refine PW_aload_n (i := 0) dX4_sleepiness_11 rfl rfl ?_
    refine PW_giv (v := nI (hw h)) dX4_sleepiness_12 fg4_32 (Ft0) (Fg6) ?_
    refine PW_iload_n (i := 2) dX4_sleepiness_15 rfl rfl ?_
    refine PW_aload_n (i := 0) dX4_sleepiness_16 rfl rfl ?_
    refine PW_getR dX4_sleepiness_17 fg4_15 (Ft0) (Fr2) ?_
    refine PW_iload_n (i := 1) dX4_sleepiness_20 rfl rfl ?_
    refine PW_ial (v := nI (hT h j)) dX4_sleepiness_21 (Ft2) (by decide) (by omega) ((Fgj j hj).2.1) ?_
    refine PW_callU dX4_sleepiness_22 moX1_sleepy cu4_44_1 (Fkp.2.1) (by omega) rfl rfl (Nat.le_of_ble_eq_true rfl) (Nat.le_of_ble_eq_true rfl) (Nat.le_of_ble_eq_true rfl) (spX1_sleepy (d := d - 1) (by omega) (ci := 1) ⟨_, rfl, by decide⟩ (Fkp.2.1) hw9 ht9) (fun v M1 hq => ?_)
    obtain ⟨rfl, rfl⟩ := hq
    refine PW_ireturn rfl (rfl) dX4_sleepiness_25 (Nat.le_of_ble_eq_true rfl) (Nat.le_of_ble_eq_true rfl) ?_
    exact rt_i rfl
  · rw [hk]
    refine PW_aal dX4_sleepiness_10 (Fk0) (by decide) (by decide) (by decide) (by decide) (Fkr.2.2.1) ?_
    refine PW_aload_n (i := 0) dX4_sleepiness_11 rfl rfl ?_
    refine PW_giv (v := nI (hw h)) dX4_sleepiness_12 fg4_32 (Ft0) (Fg6) ?_
    refine PW_iload_n (i := 2) dX4_sleepiness_15 rfl rfl ?_
    refine PW_aload_n (i := 0) dX4_sleepiness_16 rfl rfl ?_
    refine PW_getR dX4_sleepiness_17 fg4_15 (Ft0) (Fr2) ?_
    refine PW_iload_n (i := 1) dX4_sleepiness_20 rfl rfl ?_
    refine PW_ial (v := nI (hT h j)) dX4_sleepiness_21 (Ft2) (by decide) (by omega) ((Fgj j hj).2.1) ?_
    refine PW_callU dX4_sleepiness_22 moX8_sleepy cu4_44_8 (Fkp.2.2.1) (by omega) rfl rfl (Nat.le_of_ble_eq_true rfl) (Nat.le_of_ble_eq_true rfl) (Nat.le_of_ble_eq_true rfl) (spX8_sleepy (d := d - 1) (by omega) (ci := 8) ⟨_, rfl, by decide⟩ (Fkp.2.2.1) hw9 ht9) (fun v M1 hq => ?_)
    obtain ⟨rfl, rfl⟩ := hq
    refine PW_ireturn rfl (rfl) dX4_sleepiness_25 (Nat.le_of_ble_eq_true rfl) (Nat.le_of_ble_eq_true rfl) ?_
    exact rt_i rfl
  · rw [hk]
    refine PW_aal dX4_sleepiness_10 (Fk0) (by decide) (by decide) (by decide) (by decide) (Fkr.2.2.2.1) ?_
    refine PW_aload_n (i := 0) dX4_sleepiness_11 rfl rfl ?_
    refine PW_giv (v := nI (hw h)) dX4_sleepiness_12 fg4_32 (Ft0) (Fg6) ?_
    refine PW_iload_n (i := 2) dX4_sleepiness_15 rfl rfl ?_
    refine PW_aload_n (i := 0) dX4_sleepiness_16 rfl rfl ?_
    refine PW_getR dX4_sleepiness_17 fg4_15 (Ft0) (Fr2) ?_
    refine PW_iload_n (i := 1) dX4_sleepiness_20 rfl rfl ?_
    refine PW_ial (v := nI (hT h j)) dX4_sleepiness_21 (Ft2) (by decide) (by omega) ((Fgj j hj).2.1) ?_
    refine PW_callU dX4_sleepiness_22 moX2_sleepy cu4_44_2 (Fkp.2.2.2.1) (by omega) rfl rfl (Nat.le_of_ble_eq_true rfl) (Nat.le_of_ble_eq_true rfl) (Nat.le_of_ble_eq_true rfl) (spX2_sleepy (d := d - 1) (by omega) (ci := 2) ⟨_, rfl, by decide⟩ (Fkp.2.2.2.1) hw9 ht9) (fun v M1 hq => ?_)
    obtain ⟨rfl, rfl⟩ := hq
    refine PW_ireturn rfl (rfl) dX4_sleepiness_25 (Nat.le_of_ble_eq_true rfl) (Nat.le_of_ble_eq_true rfl) ?_
    exact rt_i rfl
  · rw [hk]
    refine PW_aal dX4_sleepiness_10 (Fk0) (by decide) (by decide) (by decide) (by decide) (Fkr.2.2.2.2.1) ?_
    refine PW_aload_n (i := 0) dX4_sleepiness_11 rfl rfl ?_
    refine PW_giv (v := nI (hw h)) dX4_sleepiness_12 fg4_32 (Ft0) (Fg6) ?_
    refine PW_iload_n (i := 2) dX4_sleepiness_15 rfl rfl ?_
    refine PW_aload_n (i := 0) dX4_sleepiness_16 rfl rfl ?_
    refine PW_getR dX4_sleepiness_17 fg4_15 (Ft0) (Fr2) ?_
    refine PW_iload_n (i := 1) dX4_sleepiness_20 rfl rfl ?_
    refine PW_ial (v := nI (hT h j)) dX4_sleepiness_21 (Ft2) (by decide) (by omega) ((Fgj j hj).2.1) ?_
    refine PW_callU dX4_sleepiness_22 moX5_sleepy cu4_44_5 (Fkp.2.2.2.2.1) (by omega) rfl rfl (Nat.le_of_ble_eq_true rfl) (Nat.le_of_ble_eq_true rfl) (Nat.le_of_ble_eq_true rfl) (spX5_sleepy (d := d - 1) (by omega) (ci := 5) ⟨_, rfl, by decide⟩ (Fkp.2.2.2.2.1) hw9 ht9) (fun v M1 hq => ?_)
    obtain ⟨rfl, rfl⟩ := hq
    refine PW_ireturn rfl (rfl) dX4_sleepiness_25 (Nat.le_of_ble_eq_true rfl) (Nat.le_of_ble_eq_true rfl) ?_
    exact rt_i rfl
  · rw [hk]
    refine PW_aal dX4_sleepiness_10 (Fk0) (by decide) (by decide) (by decide) (by decide) (Fkr.2.2.2.2.2) ?_
    refine PW_aload_n (i := 0) dX4_sleepiness_11 rfl rfl ?_
    refine PW_giv (v := nI (hw h)) dX4_sleepiness_12 fg4_32 (Ft0) (Fg6) ?_
    refine PW_iload_n (i := 2) dX4_sleepiness_15 rfl rfl ?_
    refine PW_aload_n (i := 0) dX4_sleepiness_16 rfl rfl ?_
    refine PW_getR dX4_sleepiness_17 fg4_15 (Ft0) (Fr2) ?_
    refine PW_iload_n (i := 1) dX4_sleepiness_20 rfl rfl ?_
    refine PW_ial (v := nI (hT h j)) dX4_sleepiness_21 (Ft2) (by decide) (by omega) ((Fgj j hj).2.1) ?_
    refine PW_callU dX4_sleepiness_22 moX0_sleepy cu4_44_0 (Fkp.2.2.2.2.2) (by omega) rfl rfl (Nat.le_of_ble_eq_true rfl) (Nat.le_of_ble_eq_true rfl) (Nat.le_of_ble_eq_true rfl) (spX0_sleepy (d := d - 1)) (fun v M1 hq => ?_)
    obtain ⟨rfl, rfl⟩ := hq
    refine PW_ireturn rfl (rfl) dX4_sleepiness_25 (Nat.le_of_ble_eq_true rfl) (Nat.le_of_ble_eq_true rfl) ?_
    exact rt_i rfl
set_option maxRecDepth 100000 in
set_option maxHeartbeats 4000000 in
theorem lpX4_steerer {G : GE} {d : Nat} {i : MI0} {S : MS} {X a b : Nat} {h : Hm} (hd : 5 ≤ d) (hK0 : KS S X) (hS : HS S X a) (hR : HR i a h) (hV : HV b h) (hb : b ≤ 1000) {g : Nat} (hg : g < 2 ^ 30) : ∀ (n0 j : Nat), j ≤ hn h → hn h < j + n0 → ∀ (z5 : Value), PW G iX4_steerer d (Rt (pI (stw h g)) (i, S)) 7 [.ref a, .int (nI g), .int (pI (bst (sly h g) j).1), .int (nI (bst (sly h g) j).2), .int (nI j), z5] [] (i, S) 0 0 := by
  have hK0' := hK0
  have hS' := hS
  have hR' := hR
  have hV' := hV
  obtain ⟨Fk0, Fkr, Fkp⟩ := hK0
  obtain ⟨Ft0, Ft1, Ft2, Ft3, Fr0, Fr1, Fr2, Fr3⟩ := hS
  obtain ⟨Fg4, Fg5, Fg6, Fg7, Fgj⟩ := hR
  obtain ⟨Fv1, Fv2, Fv3, Fv4, Fv5, Fv6⟩ := hV
  intro n0
  induction n0 with
  | zero => intro j h1 h2; exact absurd h2 (by omega)
  | succ n0 ih =>
    intro j hj1 hj2 z5
    refine PW_iload dX4_steerer_7 rfl ?_
    refine PW_aload_n (i := 0) dX4_steerer_9 rfl rfl ?_
    refine PW_giv (v := nI (hn h)) dX4_steerer_10 fg4_25 (Ft0) (Fg4) ?_
    refine PW_icmp_ge 48 dX4_steerer_13 (by decide) (fun h13 => ?_) (fun h13 => ?_)
    · have h13 := jle h13
      have ej : j = hn h := by omega
      subst ej
      refine PW_iload_n (i := 2) dX4_steerer_48 rfl rfl ?_
      refine PW_ireturn rfl (rfl) dX4_steerer_49 (Nat.le_of_ble_eq_true rfl) (Nat.le_of_ble_eq_true rfl) ?_
      exact rt_i rfl
    · have h13 := jnle h13
      refine PW_aload_n (i := 0) dX4_steerer_16 rfl rfl ?_
      refine PW_iload dX4_steerer_17 rfl ?_
      refine PW_iload_n (i := 1) dX4_steerer_19 rfl rfl ?_
      refine PW_iload dX4_steerer_20 rfl ?_
      refine PW_callSN dX4_steerer_22 moX11_holds cs4_50 (by omega) rfl rfl (Nat.le_of_ble_eq_true rfl) (Nat.le_of_ble_eq_true rfl) (Nat.le_of_ble_eq_true rfl) (spX11_holds (d := d - 1) _ _) (fun v M1 hq => ?_)
      obtain ⟨rfl, rfl⟩ := hq
      rw [hold_b (by omega) (by omega)]
      refine PW_callV dX4_steerer_25 moX4_sleepiness cv4_54 (Ft0) (by omega) rfl rfl (Nat.le_of_ble_eq_true rfl) (Nat.le_of_ble_eq_true rfl) (Nat.le_of_ble_eq_true rfl) (spX4_sleepiness (d := d - 1) (by omega) hK0' hS' hR' hV' hb h13 (g.testBit j)) (fun v M1 hq => ?_)
      obtain ⟨rfl, rfl⟩ := hq
      refine PW_istore dX4_steerer_28 (Nat.le_of_ble_eq_true rfl) rfl ?_
      refine PW_iload dX4_steerer_30 rfl ?_
      refine PW_iload_n (i := 3) dX4_steerer_32 rfl rfl ?_
      have Fs1 : sly h g j ≤ 203 := sly_le hV' g h13
      have Fs2 := bst_203 hV' g hj1
      refine PW_icmp_le 42 dX4_steerer_33 (by decide) (fun h33 => ?_) (fun h33 => ?_)
      · have h33 := Nat.not_lt.mpr (jle (a := sly h g j) h33)
        refine PW_inc1 dX4_steerer_42 rfl (Nat.le_of_ble_eq_true rfl) rfl ?_
        refine PW_goto 7 dX4_steerer_45 (by decide) ?_
        have q := ih (j + 1) (by omega) (by omega) (.int (nI (sly h g j)))
        first | (rw [bst_n h33] at q; exact q) | (rw [bst_s h33] at q; simp only [pI_s] at q; exact q)
      · have h33 := jnle (a := sly h g j) h33
        refine PW_iload dX4_steerer_36 rfl ?_
        refine PW_istore_n (i := 3) dX4_steerer_38 rfl (Nat.le_of_ble_eq_true rfl) rfl ?_
        refine PW_iload dX4_steerer_39 rfl ?_
        refine PW_istore_n (i := 2) dX4_steerer_41 rfl (Nat.le_of_ble_eq_true rfl) rfl ?_
        refine PW_inc1 dX4_steerer_42 rfl (Nat.le_of_ble_eq_true rfl) rfl ?_
        refine PW_goto 7 dX4_steerer_45 (by decide) ?_
        have q := ih (j + 1) (by omega) (by omega) (.int (nI (sly h g j)))
        first | (rw [bst_n h33] at q; exact q) | (rw [bst_s h33] at q; simp only [pI_s] at q; exact q)
set_option maxRecDepth 100000 in
set_option maxHeartbeats 4000000 in
theorem spX4_steerer {G : GE} {d : Nat} {i : MI0} {S : MS} {X a b : Nat} {h : Hm} (hd : 5 ≤ d) (hK0 : KS S X) (hS : HS S X a) (hR : HR i a h) (hV : HV b h) (hb : b ≤ 1000) {g : Nat} (hg : g < 2 ^ 30) : Mt G iX4_steerer d [.ref a, .int (nI g)] (i, S) (Rt (pI (stw h g)) (i, S)) := by
  refine Mt_in 4 (ls := [.ref a, .int (nI g), .null, .null, .null, .null]) moX4_steerer (Nat.le_of_ble_eq_true rfl) rfl ?_
  refine PW_iconst (v := -1) dX4_steerer_0 (by decide) ?_
  refine PW_istore_n (i := 2) dX4_steerer_1 rfl (Nat.le_of_ble_eq_true rfl) rfl ?_
  refine PW_iconst (v := 0) dX4_steerer_2 (by decide) ?_
  refine PW_istore_n (i := 3) dX4_steerer_3 rfl (Nat.le_of_ble_eq_true rfl) rfl ?_
  refine PW_iconst (v := 0) dX4_steerer_4 (by decide) ?_
  refine PW_istore dX4_steerer_5 (Nat.le_of_ble_eq_true rfl) rfl ?_
  exact lpX4_steerer hd hK0 hS hR hV hb hg (hn h + 1) 0 (by omega) (by omega) .null
end
section
/-! ===== Helm: begin, take, go ===== -/
set_option maxRecDepth 100000 in
set_option maxHeartbeats 4000000 in
theorem spX4_begin {G : GE} {d : Nat} {i : MI0} {S : MS} {a : Nat} (Ft0 : sT S a = (4, 0)) : Mt G iX4_begin d [.ref a] (i, S) (Wr S (fun i' => i' a 4 = 0 ∧ i' a 5 = 0 ∧ i' a 6 = 0 ∧ i' a 7 = 0 ∧ ∀ q, q ≠ a → i' q = i q)) := by
  refine Mt_in 0 (ls := [.ref a]) moX4_begin (Nat.le_of_ble_eq_true rfl) rfl ?_
  refine PW_aload_n (i := 0) dX4_begin_0 rfl rfl ?_
  refine PW_iconst (v := 0) dX4_begin_1 (by decide) ?_
  refine PW_putI dX4_begin_2 fr4_25 (fun h => by cases h) (Ft0) ?_
  refine PW_aload_n (i := 0) dX4_begin_5 rfl rfl ?_
  refine PW_iconst (v := 0) dX4_begin_6 (by decide) ?_
  refine PW_putI dX4_begin_7 fr4_29 (fun h => by cases h) (Ft0) ?_
  refine PW_aload_n (i := 0) dX4_begin_10 rfl rfl ?_
  refine PW_iconst (v := 0) dX4_begin_11 (by decide) ?_
  refine PW_putI dX4_begin_12 fr4_32 (fun h => by cases h) (Ft0) ?_
  refine PW_aload_n (i := 0) dX4_begin_15 rfl rfl ?_
  refine PW_iconst (v := 0) dX4_begin_16 (by decide) ?_
  refine PW_putI dX4_begin_17 fr4_35 (fun h => by cases h) (Ft0) ?_
  refine PW_return rfl dX4_begin_20 (Nat.le_of_ble_eq_true rfl) (Nat.le_of_ble_eq_true rfl) ?_
  refine Wr_mk rfl ⟨?_, ?_, ?_, ?_, ?_⟩
  · simp only [rI_s, rI_k _ _ _ (show (4 : Nat) ≠ 5 by decide), rI_k _ _ _ (show (4 : Nat) ≠ 6 by decide), rI_k _ _ _ (show (4 : Nat) ≠ 7 by decide)]
  · simp only [rI_s, rI_k _ _ _ (show (5 : Nat) ≠ 6 by decide), rI_k _ _ _ (show (5 : Nat) ≠ 7 by decide)]
  · simp only [rI_s, rI_k _ _ _ (show (6 : Nat) ≠ 7 by decide)]
  · simp only [rI_s]
  · intro q hq; funext k; simp only [rI_a _ _ _ hq]; rfl
set_option maxRecDepth 100000 in
set_option maxHeartbeats 4000000 in
theorem spX4_take {G : GE} {d : Nat} {i : MI0} {S : MS} {X Y a c : Nat} {h : Hm} (hS : HS S X a) (hS2 : HS S Y c) (hR : HR i c h) (h6 : hn h ≤ 6) (hac : a + 4 ≤ c ∨ c + 4 ≤ a) : Mt G iX4_take d [.ref a, .ref c] (i, S) (Wr S (fun i' => HR i' a h ∧ ∀ q, (q < a ∨ a + 3 < q) → i' q = i q)) := by
  obtain ⟨Ft0, Ft1, Ft2, Ft3, Fr0, Fr1, Fr2, Fr3⟩ := hS
  obtain ⟨Fu0, Fu1, Fu2, Fu3, Fs0, Fs1, Fs2, Fs3⟩ := hS2
  obtain ⟨Fg4, Fg5, Fg6, Fg7, Fgj⟩ := hR
  refine Mt_in 0 (ls := [.ref a, .ref c]) moX4_take (Nat.le_of_ble_eq_true rfl) rfl ?_
  refine PW_aload_n (i := 1) dX4_take_0 rfl rfl ?_
  refine PW_getR dX4_take_1 fg4_9 (u0) (Fs1) ?_
  refine PW_iconst (v := 0) dX4_take_4 (by decide) ?_
  refine PW_aload_n (i := 0) dX4_take_5 rfl rfl ?_
  refine PW_getR dX4_take_6 fg4_9 (Ft0) (Fr1) ?_
  refine PW_iconst (v := 0) dX4_take_9 (by decide) ?_
  refine PW_bipush (v := 6) dX4_take_10 (by decide) ?_
  refine PW_copy dX4_take_12 ac4_38 acw (u1) (Ft1) (by decide) (Nat.le_of_ble_eq_true rfl) (Nat.le_of_ble_eq_true rfl) (Nat.le_of_ble_eq_true rfl) ?_
  refine PW_aload_n (i := 1) dX4_take_15 rfl rfl ?_
  refine PW_getR dX4_take_16 fg4_15 (u0) (Fs2) ?_
  refine PW_iconst (v := 0) dX4_take_19 (by decide) ?_
  refine PW_aload_n (i := 0) dX4_take_20 rfl rfl ?_
  refine PW_getR dX4_take_21 fg4_15 (Ft0) (Fr2) ?_
  refine PW_iconst (v := 0) dX4_take_24 (by decide) ?_
  refine PW_bipush (v := 6) dX4_take_25 (by decide) ?_
  refine PW_copy dX4_take_27 ac4_38 acw (u2) (Ft2) (by decide) (Nat.le_of_ble_eq_true rfl) (Nat.le_of_ble_eq_true rfl) (Nat.le_of_ble_eq_true rfl) ?_
  refine PW_aload_n (i := 1) dX4_take_30 rfl rfl ?_
  refine PW_getR dX4_take_31 fg4_18 (u0) (Fs3) ?_
  refine PW_iconst (v := 0) dX4_take_34 (by decide) ?_
  refine PW_aload_n (i := 0) dX4_take_35 rfl rfl ?_
  refine PW_getR dX4_take_36 fg4_18 (Ft0) (Fr3) ?_
  refine PW_iconst (v := 0) dX4_take_39 (by decide) ?_
  refine PW_bipush (v := 6) dX4_take_40 (by decide) ?_
  refine PW_copy dX4_take_42 ac4_38 acw (u3) (Ft3) (by decide) (Nat.le_of_ble_eq_true rfl) (Nat.le_of_ble_eq_true rfl) (Nat.le_of_ble_eq_true rfl) ?_
  refine PW_aload_n (i := 0) dX4_take_45 rfl rfl ?_
  refine PW_aload_n (i := 1) dX4_take_46 rfl rfl ?_
  refine PW_getI dX4_take_47 fg4_25 (u0) ?_
  refine PW_putI dX4_take_50 fr4_25 (fun h => by cases h) (Ft0) ?_
  refine PW_aload_n (i := 0) dX4_take_53 rfl rfl ?_
  refine PW_aload_n (i := 1) dX4_take_54 rfl rfl ?_
  refine PW_getI dX4_take_55 fg4_29 (u0) ?_
  refine PW_putI dX4_take_58 fr4_29 (fun h => by cases h) (Ft0) ?_
  refine PW_aload_n (i := 0) dX4_take_61 rfl rfl ?_
  refine PW_aload_n (i := 1) dX4_take_62 rfl rfl ?_
  refine PW_getI dX4_take_63 fg4_32 (u0) ?_
  refine PW_putI dX4_take_66 fr4_32 (fun h => by cases h) (Ft0) ?_
  refine PW_aload_n (i := 0) dX4_take_69 rfl rfl ?_
  refine PW_aload_n (i := 1) dX4_take_70 rfl rfl ?_
  refine PW_getI dX4_take_71 fg4_35 (u0) ?_
  refine PW_putI dX4_take_74 fr4_35 (fun h => by cases h) (Ft0) ?_
  refine PW_return rfl dX4_take_77 (Nat.le_of_ble_eq_true rfl) (Nat.le_of_ble_eq_true rfl) ?_
  refine Wr_mk rfl ⟨⟨?_, ?_, ?_, ?_, fun j hj => ⟨?_, ?_, ?_⟩⟩, fun q hq => ?_⟩
  · simp (disch := omega) only [rI_s, rI_k, rI_a, rA_s, rA_n, c6, cpy0, rP]; exact Fg4
  · simp (disch := omega) only [rI_s, rI_k, rI_a, rA_s, rA_n, c6, cpy0, rP]; exact Fg5
  · simp (disch := omega) only [rI_s, rI_k, rI_a, rA_s, rA_n, c6, cpy0, rP]; exact Fg6
  · simp (disch := omega) only [rI_s, rI_k, rI_a, rA_s, rA_n, c6, cpy0, rP]; exact Fg7
  · simp (disch := omega) only [rI_s, rI_k, rI_a, rA_s, rA_n, c6, cpy0, rP]; exact (Fgj j hj).1
  · simp (disch := omega) only [rI_s, rI_k, rI_a, rA_s, rA_n, c6, cpy0, rP]; exact (Fgj j hj).2.1
  · simp (disch := omega) only [rI_s, rI_k, rI_a, rA_s, rA_n, c6, cpy0, rP]; exact (Fgj j hj).2.2
  · funext k; simp (disch := omega) only [rI_a, rA_n, rP]
set_option maxRecDepth 100000 in
set_option maxHeartbeats 4000000 in
theorem lpX4_go {G : GE} {d : Nat} {i : MI0} {S : MS} {X a b : Nat} {h : Hm} (hd : 4 ≤ d) (hK0 : KS S X) (hS : HS S X a) (hR : HR i a h) (hV : HV b h) (hb : b ≤ 1000) {w : Nat} (hw9 : w ≤ hn h) : ∀ (n0 j : Nat), j ≤ hn h → hn h < j + n0 → ∀ (i' : MI0), GI i i' a h w j → PW G iX4_go d (Wr S (fun i' => HR i' a (goH h w) ∧ ∀ q, q ≠ a → q ≠ a + 2 → i' q = i q)) 2 [.ref a, .int (pI w), .int (nI j)] [] (i', S) 0 0 := by
  have hK0' := hK0
  have hS' := hS
  have hR' := hR
  have hV' := hV
  obtain ⟨Fk0, Fkr, Fkp⟩ := hK0
  obtain ⟨Ft0, Ft1, Ft2, Ft3, Fr0, Fr1, Fr2, Fr3⟩ := hS
  obtain ⟨Fg4, Fg5, Fg6, Fg7, Fgj⟩ := hR
  obtain ⟨Fv1, Fv2, Fv3, Fv4, Fv5, Fv6⟩ := hV
  intro n0
  induction n0 with
  | zero => intro j h1 h2; exact absurd h2 (by omega)
  | succ n0 ih =>
    intro j hj1 hj2 i' gi
    refine PW_iload_n (i := 2) dX4_go_2 rfl rfl ?_
    refine PW_aload_n (i := 0) dX4_go_3 rfl rfl ?_
    refine PW_giv (v := nI (hn h)) dX4_go_4 fg4_25 (Ft0) ((gi.2.1 4 (by decide)).trans Fg4) ?_
    refine PW_icmp_ge 89 dX4_go_7 (by decide) (fun h7 => ?_) (fun h7 => ?_)
    · have h7 := jle h7
      have ej : j = hn h := by omega
      subst ej
      refine PW_aload_n (i := 0) dX4_go_89 rfl rfl ?_
      refine PW_iconst (v := 0) dX4_go_90 (by decide) ?_
      refine PW_putI dX4_go_91 fr4_35 (fun h => by cases h) (Ft0) ?_
      refine PW_aload_n (i := 0) dX4_go_94 rfl rfl ?_
      refine PW_dup dX4_go_95 rfl ?_
      refine PW_giv (v := nI (hw h)) dX4_go_96 fg4_32 (Ft0) ((rI_k _ _ _ (by decide)).trans ((gi.2.1 6 (by decide)).trans Fg6)) ?_
      refine PW_iconst (v := 1) dX4_go_99 (by decide) ?_
      refine PW_iadd dX4_go_100 ?_
      refine PW_eqi (nI_1 _) ?_
      refine PW_putI dX4_go_101 fr4_32 (fun h => by cases h) (Ft0) ?_
      refine PW_return rfl dX4_go_104 (Nat.le_of_ble_eq_true rfl) (Nat.le_of_ble_eq_true rfl) ?_
      have q := GI_end (S := S) (z := 0) hR' hw9 gi rfl rfl
      exact Wr_mk rfl q
    · have h7 := jnle h7
      refine PW_iload_n (i := 2) dX4_go_10 rfl rfl ?_
      refine PW_iload_n (i := 1) dX4_go_11 rfl rfl ?_
      refine PW_icmp_ne 51 dX4_go_12 (by decide) (fun h12 => ?_) (fun h12 => ?_)
      · refine PW_aload_n (i := 0) dX4_go_51 rfl rfl ?_
        refine PW_getR dX4_go_52 fg4_15 (Ft0) (Fr2) ?_
        refine PW_iload_n (i := 2) dX4_go_55 rfl rfl ?_
        refine PW_bipush (v := 99) dX4_go_56 (by decide) ?_
        refine PW_aload_n (i := 0) dX4_go_58 rfl rfl ?_
        refine PW_getR dX4_go_59 fg4_15 (Ft0) (Fr2) ?_
        refine PW_iload_n (i := 2) dX4_go_62 rfl rfl ?_
        refine PW_ial (v := nI (hT h j)) dX4_go_63 (Ft2) (by decide) (by omega) ((gi.2.2.2.2 j (by omega)).trans (Fgj j h7).2.1) ?_
        refine PW_aload_n (i := 0) dX4_go_64 rfl rfl ?_
        refine PW_getR dX4_go_65 fg4_21 (Ft0) (Fr0) ?_
        refine PW_aload_n (i := 0) dX4_go_68 rfl rfl ?_
        refine PW_getR dX4_go_69 fg4_9 (Ft0) (Fr1) ?_
        refine PW_iload_n (i := 2) dX4_go_72 rfl rfl ?_
        refine PW_ial (v := nI (hK h j)) dX4_go_73 (Ft1) (by decide) (by omega) ((congrFun (gi.1 (a + 1) (by omega) (by omega)) j).trans (Fgj j h7).1) ?_
        have h6 := Fv6 j h7
        rcases (by omega : hK h j = 0 ∨ hK h j = 1 ∨ hK h j = 2 ∨ hK h j = 3 ∨ hK h j = 4 ∨ hK h j = 5) with hk | hk | hk | hk | hk | hk
        · rw [hk]
          refine PW_aal dX4_go_74 (Fk0) (by decide) (by decide) (by decide) (by decide) (Fkr.1) ?_
          refine PW_callU dX4_go_75 moX7_tires cu4_64_7 (Fkp.1) (by omega) rfl rfl (Nat.le_of_ble_eq_true rfl) (Nat.le_of_ble_eq_true rfl) (Nat.le_of_ble_eq_true rfl) (spX7_tires (d := d - 1)) (fun v M1 hq => ?_)
          obtain ⟨rfl, rfl⟩ := hq
          refine PW_iadd dX4_go_78 ?_
          refine PW_eqi (nI_add _ 1) ?_
          refine PW_min dX4_go_79 mm4_68 mw_min (Nat.le_of_ble_eq_true rfl) (Nat.le_of_ble_eq_true rfl) (Nat.le_of_ble_eq_true rfl) ?_
          refine PW_eqi (min99 (by omega)) ?_
          refine PW_ias dX4_go_82 (Ft2) (by decide) (by omega) ?_
          refine PW_inc1 dX4_go_83 rfl (Nat.le_of_ble_eq_true rfl) rfl ?_
          refine PW_goto 2 dX4_go_86 (by decide) ?_
          exact ih (j + 1) (by omega) (by omega) _ (GI_ne gi (by have := fun q => h12 ((pI_eq (by omega) (by omega)).mpr q); exact this) (by rw [hk]; rfl))
        · rw [hk]
          refine PW_aal dX4_go_74 (Fk0) (by decide) (by decide) (by decide) (by decide) (Fkr.2.1) ?_
          refine PW_callU dX4_go_75 moX7_tires cu4_64_1 (Fkp.2.1) (by omega) rfl rfl (Nat.le_of_ble_eq_true rfl) (Nat.le_of_ble_eq_true rfl) (Nat.le_of_ble_eq_true rfl) (spX7_tires (d := d - 1)) (fun v M1 hq => ?_)
          obtain ⟨rfl, rfl⟩ := hq
          refine PW_iadd dX4_go_78 ?_
          refine PW_eqi (nI_add _ 1) ?_
          refine PW_min dX4_go_79 mm4_68 mw_min (Nat.le_of_ble_eq_true rfl) (Nat.le_of_ble_eq_true rfl) (Nat.le_of_ble_eq_true rfl) ?_
          refine PW_eqi (min99 (by omega)) ?_
          refine PW_ias dX4_go_82 (Ft2) (by decide) (by omega) ?_
          refine PW_inc1 dX4_go_83 rfl (Nat.le_of_ble_eq_true rfl) rfl ?_
          refine PW_goto 2 dX4_go_86 (by decide) ?_
          exact ih (j + 1) (by omega) (by omega) _ (GI_ne gi (by have := fun q => h12 ((pI_eq (by omega) (by omega)).mpr q); exact this) (by rw [hk]; rfl))
        · rw [hk]
          refine PW_aal dX4_go_74 (Fk0) (by decide) (by decide) (by decide) (by decide) (Fkr.2.2.1) ?_
          refine PW_callU dX4_go_75 moX8_tires cu4_64_8 (Fkp.2.2.1) (by omega) rfl rfl (Nat.le_of_ble_eq_true rfl) (Nat.le_of_ble_eq_true rfl) (Nat.le_of_ble_eq_true rfl) (spX8_tires (d := d - 1) (by omega) (ci := 8) ⟨_, rfl, by decide⟩ (Fkp.2.2.1)) (fun v M1 hq => ?_)
          obtain ⟨rfl, rfl⟩ := hq
          refine PW_iadd dX4_go_78 ?_
          refine PW_eqi (nI_add _ 2) ?_
          refine PW_min dX4_go_79 mm4_68 mw_min (Nat.le_of_ble_eq_true rfl) (Nat.le_of_ble_eq_true rfl) (Nat.le_of_ble_eq_true rfl) ?_
          refine PW_eqi (min99 (by omega)) ?_
          refine PW_ias dX4_go_82 (Ft2) (by decide) (by omega) ?_
          refine PW_inc1 dX4_go_83 rfl (Nat.le_of_ble_eq_true rfl) rfl ?_
          refine PW_goto 2 dX4_go_86 (by decide) ?_
          exact ih (j + 1) (by omega) (by omega) _ (GI_ne gi (by have := fun q => h12 ((pI_eq (by omega) (by omega)).mpr q); exact this) (by rw [hk]; rfl))
        · rw [hk]
          refine PW_aal dX4_go_74 (Fk0) (by decide) (by decide) (by decide) (by decide) (Fkr.2.2.2.1) ?_
          refine PW_callU dX4_go_75 moX7_tires cu4_64_2 (Fkp.2.2.2.1) (by omega) rfl rfl (Nat.le_of_ble_eq_true rfl) (Nat.le_of_ble_eq_true rfl) (Nat.le_of_ble_eq_true rfl) (spX7_tires (d := d - 1)) (fun v M1 hq => ?_)
          obtain ⟨rfl, rfl⟩ := hq
          refine PW_iadd dX4_go_78 ?_
          refine PW_eqi (nI_add _ 1) ?_
          refine PW_min dX4_go_79 mm4_68 mw_min (Nat.le_of_ble_eq_true rfl) (Nat.le_of_ble_eq_true rfl) (Nat.le_of_ble_eq_true rfl) ?_
          refine PW_eqi (min99 (by omega)) ?_
          refine PW_ias dX4_go_82 (Ft2) (by decide) (by omega) ?_
          refine PW_inc1 dX4_go_83 rfl (Nat.le_of_ble_eq_true rfl) rfl ?_
          refine PW_goto 2 dX4_go_86 (by decide) ?_
          exact ih (j + 1) (by omega) (by omega) _ (GI_ne gi (by have := fun q => h12 ((pI_eq (by omega) (by omega)).mpr q); exact this) (by rw [hk]; rfl))
        · rw [hk]
          refine PW_aal dX4_go_74 (Fk0) (by decide) (by decide) (by decide) (by decide) (Fkr.2.2.2.2.1) ?_
          refine PW_callU dX4_go_75 moX7_tires cu4_64_5 (Fkp.2.2.2.2.1) (by omega) rfl rfl (Nat.le_of_ble_eq_true rfl) (Nat.le_of_ble_eq_true rfl) (Nat.le_of_ble_eq_true rfl) (spX7_tires (d := d - 1)) (fun v M1 hq => ?_)
          obtain ⟨rfl, rfl⟩ := hq
          refine PW_iadd dX4_go_78 ?_
          refine PW_eqi (nI_add _ 1) ?_
          refine PW_min dX4_go_79 mm4_68 mw_min (Nat.le_of_ble_eq_true rfl) (Nat.le_of_ble_eq_true rfl) (Nat.le_of_ble_eq_true rfl) ?_
          refine PW_eqi (min99 (by omega)) ?_
          refine PW_ias dX4_go_82 (Ft2) (by decide) (by omega) ?_
          refine PW_inc1 dX4_go_83 rfl (Nat.le_of_ble_eq_true rfl) rfl ?_
          refine PW_goto 2 dX4_go_86 (by decide) ?_
          exact ih (j + 1) (by omega) (by omega) _ (GI_ne gi (by have := fun q => h12 ((pI_eq (by omega) (by omega)).mpr q); exact this) (by rw [hk]; rfl))
        · rw [hk]
          refine PW_aal dX4_go_74 (Fk0) (by decide) (by decide) (by decide) (by decide) (Fkr.2.2.2.2.2) ?_
          refine PW_callU dX4_go_75 moX0_tires cu4_64_0 (Fkp.2.2.2.2.2) (by omega) rfl rfl (Nat.le_of_ble_eq_true rfl) (Nat.le_of_ble_eq_true rfl) (Nat.le_of_ble_eq_true rfl) (spX0_tires (d := d - 1) (by omega) (ci := 0) ⟨_, rfl, by decide⟩ (Fkp.2.2.2.2.2)) (fun v M1 hq => ?_)
          obtain ⟨rfl, rfl⟩ := hq
          refine PW_iadd dX4_go_78 ?_
          refine PW_eqi (nI_add _ 0) ?_
          refine PW_min dX4_go_79 mm4_68 mw_min (Nat.le_of_ble_eq_true rfl) (Nat.le_of_ble_eq_true rfl) (Nat.le_of_ble_eq_true rfl) ?_
          refine PW_eqi (min99 (by omega)) ?_
          refine PW_ias dX4_go_82 (Ft2) (by decide) (by omega) ?_
          refine PW_inc1 dX4_go_83 rfl (Nat.le_of_ble_eq_true rfl) rfl ?_
          refine PW_goto 2 dX4_go_86 (by decide) ?_
          exact ih (j + 1) (by omega) (by omega) _ (GI_ne gi (by have := fun q => h12 ((pI_eq (by omega) (by omega)).mpr q); exact this) (by rw [hk]; rfl))
      · have h12 := (pI_eq (by omega) (by omega)).mp h12
        have e5 : (if w = 0 ∨ j < w then hp h else hp h + hN h (w - 1)) = hp h := if_pos (by omega)
        refine PW_aload_n (i := 0) dX4_go_15 rfl rfl ?_
        refine PW_dup dX4_go_16 rfl ?_
        refine PW_giv (v := iN (if w = 0 ∨ j < w then hp h else hp h + hN h (w - 1))) dX4_go_17 fg4_29 (Ft0) (gi.2.2.1) ?_
        refine PW_aload_n (i := 0) dX4_go_20 rfl rfl ?_
        refine PW_getR dX4_go_21 fg4_18 (Ft0) (Fr3) ?_
        refine PW_iload_n (i := 2) dX4_go_24 rfl rfl ?_
        refine PW_ial (v := iN (hN h j)) dX4_go_25 (Ft3) (by decide) (by omega) ((congrFun (gi.1 (a + 3) (by omega) (by omega)) j).trans (Fgj j h7).2.2) ?_
        refine PW_iadd dX4_go_26 ?_
        rw [e5]
        refine PW_eqi (iN_add _ _) ?_
        refine PW_putI dX4_go_27 fr4_29 (fun h => by cases h) (Ft0) ?_
        refine PW_aload_n (i := 0) dX4_go_30 rfl rfl ?_
        refine PW_getR dX4_go_31 fg4_15 (Ft0) (Fr2) ?_
        refine PW_iload_n (i := 2) dX4_go_34 rfl rfl ?_
        refine PW_iconst (v := 0) dX4_go_35 (by decide) ?_
        refine PW_aload_n (i := 0) dX4_go_36 rfl rfl ?_
        refine PW_getR dX4_go_37 fg4_15 (Ft0) (Fr2) ?_
        refine PW_iload_n (i := 2) dX4_go_40 rfl rfl ?_
        refine PW_ial (v := nI (hT h j)) dX4_go_41 (Ft2) (by decide) (by omega) ((rI_a _ _ _ (by omega)).trans ((gi.2.2.2.2 j (by omega)).trans (Fgj j h7).2.1)) ?_
        refine PW_iconst (v := 4) dX4_go_42 (by decide) ?_
        refine PW_isub dX4_go_43 ?_
        refine PW_max dX4_go_44 mm4_58 mw_max (Nat.le_of_ble_eq_true rfl) (Nat.le_of_ble_eq_true rfl) (Nat.le_of_ble_eq_true rfl) ?_
        refine PW_eqi (max0 (c := 4) (by have := (Fv6 j h7).2.1; omega) (by decide)) ?_
        refine PW_ias dX4_go_47 (Ft2) (by decide) (by omega) ?_
        refine PW_goto 83 dX4_go_48 (by decide) ?_
        refine PW_inc1 dX4_go_83 rfl (Nat.le_of_ble_eq_true rfl) rfl ?_
        refine PW_goto 2 dX4_go_86 (by decide) ?_
        exact ih (j + 1) (by omega) (by omega) _ (GI_eq gi h12 rfl rfl)
set_option maxRecDepth 100000 in
set_option maxHeartbeats 4000000 in
theorem spX4_go {G : GE} {d : Nat} {i : MI0} {S : MS} {X a b : Nat} {h : Hm} (hd : 4 ≤ d) (hK0 : KS S X) (hS : HS S X a) (hR : HR i a h) (hV : HV b h) (hb : b ≤ 1000) {w : Nat} (hw9 : w ≤ hn h) : Mt G iX4_go d [.ref a, .int (pI w)] (i, S) (Wr S (fun i' => HR i' a (goH h w) ∧ ∀ q, q ≠ a → q ≠ a + 2 → i' q = i q)) := by
  refine Mt_in 1 (ls := [.ref a, .int (pI w), .null]) moX4_go (Nat.le_of_ble_eq_true rfl) rfl ?_
  refine PW_iconst (v := 0) dX4_go_0 (by decide) ?_
  refine PW_istore_n (i := 2) dX4_go_1 rfl (Nat.le_of_ble_eq_true rfl) rfl ?_
  exact lpX4_go hd hK0 hS hR hV hb hw9 (hn h + 1) 0 (by omega) (by omega) i (GI_0 hR.2.1)
end
section
/-! ===== what of this watch: who may steer, by what odds, by pairs ===== -/
def allB (f : Nat → Bool) : Nat → Bool
  | 0 => true
  | n + 1 => allB f n && f n
theorem allB_iff {f : Nat → Bool} : ∀ {n : Nat}, allB f n = true ↔ ∀ j, j < n → f j = true
  | 0 => ⟨fun _ j hj => absurd hj (Nat.not_lt_zero j), fun _ => rfl⟩
  | n + 1 => by
    unfold allB
    rw [Bool.and_eq_true, allB_iff]
    constructor
    · rintro ⟨h1, h2⟩ j hj
      by_cases e : j = n
      · rw [e]; exact h2
      · exact h1 j (by omega)
    · intro h
      exact ⟨fun j hj => h j (by omega), h n (by omega)⟩
def prodN (f : Nat → Nat) : Nat → Nat
  | 0 => 1
  | n + 1 => prodN f n * f n
theorem prodN_le {f : Nat → Nat} : ∀ {n : Nat}, (∀ j, j < n → f j ≤ 10) → prodN f n ≤ 10 ^ n
  | 0, _ => Nat.le_refl _
  | n + 1, h => by
    unfold prodN
    rw [Nat.pow_succ]
    exact Nat.mul_le_mul (prodN_le (fun j hj => h j (by omega))) (h n (by omega))
def stbB (o so k s : Nat) : Bool := if o < k then decide (so < s) else decide (so ≤ s)
def slf (h : Hm) (j : Nat) (f : Bool) : Nat := slp (hK h j) (hT h j) (hw h) f
def mxs (h : Hm) (j : Nat) : Nat := max (slf h j true) (slf h j false)
def mns (h : Hm) (j : Nat) : Nat := min (slf h j true) (slf h j false)
def csF (h : Hm) (k j : Nat) : Bool := decide (j = k) || stbB j (mns h j) k (mxs h k)
def csP (h : Hm) (k j : Nat) : Bool := decide (0 < mxs h k) && allB (csF h k) j
theorem csP_s (h : Hm) (k j : Nat) : csP h k (j + 1) = (csP h k j && csF h k j) := by simp [csP, allB, Bool.and_assoc]
def cooF (h : Hm) (k s c j : Nat) : Nat := if j = k then 1 else (if stbB j (slf h j true) k s then c else 0) + (if stbB j (slf h j false) k s then 10 - c else 0)
def coo (h : Hm) (k s c : Nat) : Nat := if s = 0 then 0 else prodN (cooF h k s c) (hn h)
def chn (h : Hm) (k c : Nat) : Nat := c * coo h k (slf h k true) c + (10 - c) * coo h k (slf h k false) c
theorem cooF_le {h : Hm} {k s c j : Nat} (hc : c ≤ 10) : cooF h k s c j ≤ 10 := by
  unfold cooF
  by_cases e : j = k
  · rw [if_pos e]; decide
  · rw [if_neg e]; split <;> split <;> omega
theorem slf_le {b : Nat} {h : Hm} (hv : HV b h) {j : Nat} (hj : j < hn h) (f : Bool) : slf h j f ≤ 203 := by
  have := (hv.2.2.2.2.2 j hj).2.1
  have := slp_le (hK h j) (hT h j) (hw h) f
  unfold slf
  omega
theorem maxN {x y : Nat} (hx : x < 2 ^ 31) (hy : y < 2 ^ 31) : (if nI x < nI y then nI y else nI x) = nI (max x y) := by
  by_cases h : x < y
  · rw [if_pos (nI_lt h hy), Nat.max_eq_right (by omega)]
  · rw [if_neg (nI_nlt (by omega) (by omega)), Nat.max_eq_left (by omega)]
theorem minN {x y : Nat} (hx : x < 2 ^ 31) (hy : y < 2 ^ 31) : (if nI y < nI x then nI y else nI x) = nI (min x y) := by
  by_cases h : y < x
  · rw [if_pos (nI_lt h hx), Nat.min_eq_right (by omega)]
  · rw [if_neg (nI_nlt (by omega) (by omega)), Nat.min_eq_left (by omega)]
theorem fa_and (a b : Nat) : nI a &&& nI b = nI (a &&& b) := by
  apply Int32.toBitVec_inj.1
  show BitVec.ofNat 32 a &&& BitVec.ofNat 32 b = BitVec.ofNat 32 (a &&& b)
  apply BitVec.eq_of_getLsbD_eq
  intro i hi
  simp [hi]
theorem fa_or (a b : Nat) : nI a ||| nI b = nI (a ||| b) := by
  apply Int32.toBitVec_inj.1
  show BitVec.ofNat 32 a ||| BitVec.ofNat 32 b = BitVec.ofNat 32 (a ||| b)
  apply BitVec.eq_of_getLsbD_eq
  intro i hi
  simp [hi]
theorem fa_xor (a b : Nat) : nI a ^^^ nI b = nI (a ^^^ b) := by
  apply Int32.toBitVec_inj.1
  show BitVec.ofNat 32 a ^^^ BitVec.ofNat 32 b = BitVec.ofNat 32 (a ^^^ b)
  apply BitVec.eq_of_getLsbD_eq
  intro i hi
  simp [hi]
theorem shl_n {x a : Nat} (ha : a < 32) (h : x * 2 ^ a < 2 ^ 32) : nI x <<< (nI a &&& 31) = nI (x * 2 ^ a) := pk_shlN _ a (sh_l a ha) h
theorem pow_le6 {a : Nat} (ha : a < 6) : 2 ^ a ≤ 32 := by
  have : 2 ^ a ≤ 2 ^ 5 := Nat.pow_le_pow_right (by decide) (by omega)
  omega
/-- the set f, but for a and b, who are in it as the bits of q say -/
def prS (f a b q : Nat) : Nat := (f &&& (2 ^ a ^^^ 4294967295) &&& (2 ^ b ^^^ 4294967295)) ||| (q % 2) * 2 ^ a ||| (q / 2 % 2) * 2 ^ b
theorem prS_ok {a b q f : Nat} (ha : a < 6) (hb : b < 6) (hq : q < 4) (hf : f < 64) : (nI f &&& ((1 : Int32) <<< (nI a &&& 31) ^^^ -1) &&& ((1 : Int32) <<< (nI b &&& 31) ^^^ -1) ||| (nI q &&& 1) <<< (nI a &&& 31) ||| (nI q >>> ((1 : Int32) &&& 31) &&& 1) <<< (nI b &&& 31)) = nI (prS f a b q) ∧ prS f a b q < 64 := by
  have pa := pow_le6 ha
  have pb := pow_le6 hb
  have e1 : (1 : Int32) <<< (nI a &&& 31) = nI (2 ^ a) := by
    have := shl_n (x := 1) (a := a) (by omega) (by omega)
    rw [Nat.one_mul] at this
    exact this
  have e2 : (1 : Int32) <<< (nI b &&& 31) = nI (2 ^ b) := by
    have := shl_n (x := 1) (a := b) (by omega) (by omega)
    rw [Nat.one_mul] at this
    exact this
  have em : (-1 : Int32) = nI 4294967295 := by decide
  have q0 : nI q &&& 1 = nI (q % 2) := pk_andN (by omega) 1 (by decide)
  have q1 : nI q >>> ((1 : Int32) &&& 31) &&& 1 = nI (q / 2 % 2) := by
    have := shr_b (g := q) (j := 1) (by omega) (by decide)
    rw [Nat.pow_one] at this
    exact this
  have m0 : q % 2 * 2 ^ a ≤ 32 := Nat.le_trans (Nat.mul_le_mul_right _ (by omega : q % 2 ≤ 1)) (by omega)
  have m1 : q / 2 % 2 * 2 ^ b ≤ 32 := Nat.le_trans (Nat.mul_le_mul_right _ (by omega : q / 2 % 2 ≤ 1)) (by omega)
  constructor
  · rw [e1, e2, em, q0, q1, shl_n (by omega) (by omega), shl_n (by omega) (by omega), fa_xor, fa_xor, fa_and, fa_and, fa_or, fa_or]
    rfl
  · unfold prS
    refine Nat.or_lt_two_pow (n := 6) (Nat.or_lt_two_pow (n := 6) ?_ (by omega)) (by omega)
    exact Nat.lt_of_le_of_lt Nat.and_le_left (Nat.lt_of_le_of_lt Nat.and_le_left hf)
def eatB (h : Hm) (a b q : Nat) : Bool := !(decide (stw h (prS (hf h) a b q) = a + 1) && !decide (stw h (prS (hf h) a b (q ^^^ 1)) = a + 1)) && !(decide (stw h (prS (hf h) a b q) = b + 1) && !decide (stw h (prS (hf h) a b (q ^^^ 2)) = b + 1))
theorem x4 : ∀ q, q < 4 → nI q ^^^ 1 = nI (q ^^^ 1) ∧ nI q ^^^ 2 = nI (q ^^^ 2) ∧ q ^^^ 1 < 4 ∧ q ^^^ 2 < 4 := by decide
end
section
/-! ===== Helm: canSteer, chances, pairs ===== -/
set_option maxRecDepth 100000 in
set_option maxHeartbeats 4000000 in
theorem spX4_staysBehind {G : GE} {d : Nat} {M : Mm} {o so k s : Nat} (h1 : o < 1000) (h2 : so < 1000) (h3 : k < 1000) (h4 : s < 1000) : Mt G iX4_staysBehind d [.int (nI o), .int (nI so), .int (nI k), .int (nI s)] M (Rt (b2i (stbB o so k s)) M) := by
  refine Mt_in 0 (ls := [.int (nI o), .int (nI so), .int (nI k), .int (nI s)]) moX4_staysBehind (Nat.le_of_ble_eq_true rfl) rfl ?_
  refine PW_iload_n (i := 0) dX4_staysBehind_0 rfl rfl ?_
  refine PW_iload_n (i := 2) dX4_staysBehind_1 rfl rfl ?_
  refine PW_icmp_ge 18 dX4_staysBehind_2 (by decide) (fun h2 => ?_) (fun h2 => ?_)
  · have h2 := jle h2
    refine PW_iload_n (i := 1) dX4_staysBehind_18 rfl rfl ?_
    refine PW_iload_n (i := 3) dX4_staysBehind_19 rfl rfl ?_
    refine PW_icmp_gt 27 dX4_staysBehind_20 (by decide) (fun h20 => ?_) (fun h20 => ?_)
    · have h20 := jlt h20
      refine PW_iconst (v := 0) dX4_staysBehind_27 (by decide) ?_
      refine PW_ireturn rfl (rfl) dX4_staysBehind_28 (Nat.le_of_ble_eq_true rfl) (Nat.le_of_ble_eq_true rfl) ?_
      refine rt_i ?_
      unfold stbB
      first | rw [if_neg (by omega)] | rw [if_pos (by omega)]
      first | (rw [decide_eq_true (by omega)]; rfl) | (rw [decide_eq_false (by omega)]; rfl)
    · have h20 := jnlt h20
      refine PW_iconst (v := 1) dX4_staysBehind_23 (by decide) ?_
      refine PW_goto 28 dX4_staysBehind_24 (by decide) ?_
      refine PW_ireturn rfl (rfl) dX4_staysBehind_28 (Nat.le_of_ble_eq_true rfl) (Nat.le_of_ble_eq_true rfl) ?_
      refine rt_i ?_
      unfold stbB
      first | rw [if_neg (by omega)] | rw [if_pos (by omega)]
      first | (rw [decide_eq_true (by omega)]; rfl) | (rw [decide_eq_false (by omega)]; rfl)
  · have h2 := jnle h2
    refine PW_iload_n (i := 1) dX4_staysBehind_5 rfl rfl ?_
    refine PW_iload_n (i := 3) dX4_staysBehind_6 rfl rfl ?_
    refine PW_icmp_ge 14 dX4_staysBehind_7 (by decide) (fun h7 => ?_) (fun h7 => ?_)
    · have h7 := jle h7
      refine PW_iconst (v := 0) dX4_staysBehind_14 (by decide) ?_
      refine PW_goto 28 dX4_staysBehind_15 (by decide) ?_
      refine PW_ireturn rfl (rfl) dX4_staysBehind_28 (Nat.le_of_ble_eq_true rfl) (Nat.le_of_ble_eq_true rfl) ?_
      refine rt_i ?_
      unfold stbB
      first | rw [if_neg (by omega)] | rw [if_pos (by omega)]
      first | (rw [decide_eq_true (by omega)]; rfl) | (rw [decide_eq_false (by omega)]; rfl)
    · have h7 := jnle h7
      refine PW_iconst (v := 1) dX4_staysBehind_10 (by decide) ?_
      refine PW_goto 28 dX4_staysBehind_11 (by decide) ?_
      refine PW_ireturn rfl (rfl) dX4_staysBehind_28 (Nat.le_of_ble_eq_true rfl) (Nat.le_of_ble_eq_true rfl) ?_
      refine rt_i ?_
      unfold stbB
      first | rw [if_neg (by omega)] | rw [if_pos (by omega)]
      first | (rw [decide_eq_true (by omega)]; rfl) | (rw [decide_eq_false (by omega)]; rfl)
set_option maxRecDepth 100000 in
set_option maxHeartbeats 4000000 in
theorem lpX4_canSteer {G : GE} {d : Nat} {i : MI0} {S : MS} {X a b : Nat} {h : Hm} (hd : 5 ≤ d) (hK0 : KS S X) (hS : HS S X a) (hR : HR i a h) (hV : HV b h) (hb : b ≤ 1000) {k : Nat} (hk : k < hn h) : ∀ (n0 j : Nat), j ≤ hn h → hn h < j + n0 → ∀ (z5 : Value), PW G iX4_canSteer d (Rt (b2i (csP h k (hn h))) (i, S)) 29 [.ref a, .int (nI k), .int (nI (mxs h k)), .int (b2i (csP h k j)), .int (nI j), z5] [] (i, S) 0 0 := by
  have hK0' := hK0
  have hS' := hS
  have hR' := hR
  have hV' := hV
  obtain ⟨Fk0, Fkr, Fkp⟩ := hK0
  obtain ⟨Ft0, Ft1, Ft2, Ft3, Fr0, Fr1, Fr2, Fr3⟩ := hS
  obtain ⟨Fg4, Fg5, Fg6, Fg7, Fgj⟩ := hR
  obtain ⟨Fv1, Fv2, Fv3, Fv4, Fv5, Fv6⟩ := hV
  intro n0
  induction n0 with
  | zero => intro j h1 h2; exact absurd h2 (by omega)
  | succ n0 ih =>
    intro j hj1 hj2 z5
    refine PW_iload dX4_canSteer_29 rfl ?_
    refine PW_aload_n (i := 0) dX4_canSteer_31 rfl rfl ?_
    refine PW_giv (v := nI (hn h)) dX4_canSteer_32 fg4_25 (Ft0) (Fg4) ?_
    refine PW_icmp_ge 91 dX4_canSteer_35 (by decide) (fun h35 => ?_) (fun h35 => ?_)
    · have h35 := jle h35
      have ej : j = hn h := by omega
      subst ej
      refine PW_iload_n (i := 3) dX4_canSteer_91 rfl rfl ?_
      refine PW_ireturn rfl (by cases csP h k (hn h) <;> rfl) dX4_canSteer_92 (Nat.le_of_ble_eq_true rfl) (Nat.le_of_ble_eq_true rfl) ?_
      exact rt_i rfl
    · have h35 := jnle h35
      have Fs1 := slf_le hV' h35 true
      have Fs2 := slf_le hV' h35 false
      have Fs3 := slf_le hV' hk true
      have s4 := slf_le hV' hk false
      have s5 : mns h j ≤ 203 := by unfold mns; omega
      have s6 : mxs h k ≤ 203 := by unfold mxs; omega
      refine PW_aload_n (i := 0) dX4_canSteer_38 rfl rfl ?_
      refine PW_iload dX4_canSteer_39 rfl ?_
      refine PW_iconst (v := 1) dX4_canSteer_41 (by decide) ?_
      refine PW_callV dX4_canSteer_42 moX4_sleepiness cv4_54 (Ft0) (by omega) rfl rfl (Nat.le_of_ble_eq_true rfl) (Nat.le_of_ble_eq_true rfl) (Nat.le_of_ble_eq_true rfl) (spX4_sleepiness (d := d - 1) (by omega) hK0' hS' hR' hV' hb h35 true) (fun v M1 hq => ?_)
      obtain ⟨rfl, rfl⟩ := hq
      refine PW_aload_n (i := 0) dX4_canSteer_45 rfl rfl ?_
      refine PW_iload dX4_canSteer_46 rfl ?_
      refine PW_iconst (v := 0) dX4_canSteer_48 (by decide) ?_
      refine PW_callV dX4_canSteer_49 moX4_sleepiness cv4_54 (Ft0) (by omega) rfl rfl (Nat.le_of_ble_eq_true rfl) (Nat.le_of_ble_eq_true rfl) (Nat.le_of_ble_eq_true rfl) (spX4_sleepiness (d := d - 1) (by omega) hK0' hS' hR' hV' hb h35 false) (fun v M1 hq => ?_)
      obtain ⟨rfl, rfl⟩ := hq
      refine PW_min dX4_canSteer_52 mm4_68 mw_min (Nat.le_of_ble_eq_true rfl) (Nat.le_of_ble_eq_true rfl) (Nat.le_of_ble_eq_true rfl) ?_
      refine PW_eqi (minN (x := slf h j true) (y := slf h j false) (by omega) (by omega)) ?_
      refine PW_istore dX4_canSteer_55 (Nat.le_of_ble_eq_true rfl) rfl ?_
      refine PW_iload_n (i := 3) dX4_canSteer_57 rfl rfl ?_
      refine PW_if_eq 83 dX4_canSteer_58 (by decide) (fun h58 => ?_) (fun h58 => ?_)
      · have h58 := b2i_0.mp h58
        refine PW_iconst (v := 0) dX4_canSteer_83 (by decide) ?_
        refine PW_istore_n (i := 3) dX4_canSteer_84 rfl (Nat.le_of_ble_eq_true rfl) rfl ?_
        refine PW_inc1 dX4_canSteer_85 rfl (Nat.le_of_ble_eq_true rfl) rfl ?_
        refine PW_goto 29 dX4_canSteer_88 (by decide) ?_
        have q := ih (j + 1) (by omega) (by omega) (.int (nI (mns h j)))
        rw [csP_s] at q
        first | (rw [h58, Bool.false_and] at q; exact q) | (rw [h58, Bool.true_and] at q; unfold csF at q; first | (rw [decide_eq_true h64, Bool.true_or] at q; exact q) | (rw [decide_eq_false h64, Bool.false_or, h76] at q; exact q))
      · have h58 := b2i_n.mp h58
        refine PW_iload dX4_canSteer_61 rfl ?_
        refine PW_iload_n (i := 1) dX4_canSteer_63 rfl rfl ?_
        refine PW_icmp_eq 79 dX4_canSteer_64 (by decide) (fun h64 => ?_) (fun h64 => ?_)
        · have h64 := jeq h64
          refine PW_iconst (v := 1) dX4_canSteer_79 (by decide) ?_
          refine PW_goto 84 dX4_canSteer_80 (by decide) ?_
          refine PW_istore_n (i := 3) dX4_canSteer_84 rfl (Nat.le_of_ble_eq_true rfl) rfl ?_
          refine PW_inc1 dX4_canSteer_85 rfl (Nat.le_of_ble_eq_true rfl) rfl ?_
          refine PW_goto 29 dX4_canSteer_88 (by decide) ?_
          have q := ih (j + 1) (by omega) (by omega) (.int (nI (mns h j)))
          rw [csP_s] at q
          first | (rw [h58, Bool.false_and] at q; exact q) | (rw [h58, Bool.true_and] at q; unfold csF at q; first | (rw [decide_eq_true h64, Bool.true_or] at q; exact q) | (rw [decide_eq_false h64, Bool.false_or, h76] at q; exact q))
        · have h64 := jne h64
          refine PW_iload dX4_canSteer_67 rfl ?_
          refine PW_iload dX4_canSteer_69 rfl ?_
          refine PW_iload_n (i := 1) dX4_canSteer_71 rfl rfl ?_
          refine PW_iload_n (i := 2) dX4_canSteer_72 rfl rfl ?_
          refine PW_callS dX4_canSteer_73 moX4_staysBehind cs4_71 (by omega) rfl rfl (Nat.le_of_ble_eq_true rfl) (Nat.le_of_ble_eq_true rfl) (Nat.le_of_ble_eq_true rfl) (spX4_staysBehind (d := d - 1) (o := j) (so := mns h j) (k := k) (s := mxs h k) (by omega) (by omega) (by omega) (by omega)) (fun v M1 hq => ?_)
          obtain ⟨rfl, rfl⟩ := hq
          refine PW_if_eq 83 dX4_canSteer_76 (by decide) (fun h76 => ?_) (fun h76 => ?_)
          · have h76 := b2i_0.mp h76
            refine PW_iconst (v := 0) dX4_canSteer_83 (by decide) ?_
            refine PW_istore_n (i := 3) dX4_canSteer_84 rfl (Nat.le_of_ble_eq_true rfl) rfl ?_
            refine PW_inc1 dX4_canSteer_85 rfl (Nat.le_of_ble_eq_true rfl) rfl ?_
            refine PW_goto 29 dX4_canSteer_88 (by decide) ?_
            have q := ih (j + 1) (by omega) (by omega) (.int (nI (mns h j)))
            rw [csP_s] at q
            first | (rw [h58, Bool.false_and] at q; exact q) | (rw [h58, Bool.true_and] at q; unfold csF at q; first | (rw [decide_eq_true h64, Bool.true_or] at q; exact q) | (rw [decide_eq_false h64, Bool.false_or, h76] at q; exact q))
          · have h76 := b2i_n.mp h76
            refine PW_iconst (v := 1) dX4_canSteer_79 (by decide) ?_
            refine PW_goto 84 dX4_canSteer_80 (by decide) ?_
            refine PW_istore_n (i := 3) dX4_canSteer_84 rfl (Nat.le_of_ble_eq_true rfl) rfl ?_
            refine PW_inc1 dX4_canSteer_85 rfl (Nat.le_of_ble_eq_true rfl) rfl ?_
            refine PW_goto 29 dX4_canSteer_88 (by decide) ?_
            have q := ih (j + 1) (by omega) (by omega) (.int (nI (mns h j)))
            rw [csP_s] at q
            first | (rw [h58, Bool.false_and] at q; exact q) | (rw [h58, Bool.true_and] at q; unfold csF at q; first | (rw [decide_eq_true h64, Bool.true_or] at q; exact q) | (rw [decide_eq_false h64, Bool.false_or, h76] at q; exact q))
set_option maxRecDepth 100000 in
set_option maxHeartbeats 4000000 in
theorem spX4_canSteer {G : GE} {d : Nat} {i : MI0} {S : MS} {X a b : Nat} {h : Hm} (hd : 5 ≤ d) (hK0 : KS S X) (hS : HS S X a) (hR : HR i a h) (hV : HV b h) (hb : b ≤ 1000) {k : Nat} (hk : k < hn h) : Mt G iX4_canSteer d [.ref a, .int (nI k)] (i, S) (Rt (b2i (csP h k (hn h))) (i, S)) := by
  have hK0' := hK0
  have hS' := hS
  have hR' := hR
  have hV' := hV
  obtain ⟨Fk0, Fkr, Fkp⟩ := hK0
  obtain ⟨Ft0, Ft1, Ft2, Ft3, Fr0, Fr1, Fr2, Fr3⟩ := hS
  obtain ⟨Fg4, Fg5, Fg6, Fg7, Fgj⟩ := hR
  obtain ⟨Fv1, Fv2, Fv3, Fv4, Fv5, Fv6⟩ := hV
  refine Mt_in 4 (ls := [.ref a, .int (nI k), .null, .null, .null, .null]) moX4_canSteer (Nat.le_of_ble_eq_true rfl) rfl ?_
  refine PW_aload_n (i := 0) dX4_canSteer_0 rfl rfl ?_
  refine PW_iload_n (i := 1) dX4_canSteer_1 rfl rfl ?_
  refine PW_iconst (v := 1) dX4_canSteer_2 (by decide) ?_
  refine PW_callV dX4_canSteer_3 moX4_sleepiness cv4_54 (Ft0) (by omega) rfl rfl (Nat.le_of_ble_eq_true rfl) (Nat.le_of_ble_eq_true rfl) (Nat.le_of_ble_eq_true rfl) (spX4_sleepiness (d := d - 1) (by omega) hK0' hS' hR' hV' hb hk true) (fun v M1 hq => ?_)
  obtain ⟨rfl, rfl⟩ := hq
  refine PW_aload_n (i := 0) dX4_canSteer_6 rfl rfl ?_
  refine PW_iload_n (i := 1) dX4_canSteer_7 rfl rfl ?_
  refine PW_iconst (v := 0) dX4_canSteer_8 (by decide) ?_
  refine PW_callV dX4_canSteer_9 moX4_sleepiness cv4_54 (Ft0) (by omega) rfl rfl (Nat.le_of_ble_eq_true rfl) (Nat.le_of_ble_eq_true rfl) (Nat.le_of_ble_eq_true rfl) (spX4_sleepiness (d := d - 1) (by omega) hK0' hS' hR' hV' hb hk false) (fun v M1 hq => ?_)
  obtain ⟨rfl, rfl⟩ := hq
  have Fs3 := slf_le hV' hk true
  have s4 := slf_le hV' hk false
  have s6 : mxs h k ≤ 203 := by unfold mxs; omega
  refine PW_max dX4_canSteer_12 mm4_58 mw_max (Nat.le_of_ble_eq_true rfl) (Nat.le_of_ble_eq_true rfl) (Nat.le_of_ble_eq_true rfl) ?_
  refine PW_eqi (maxN (x := slf h k true) (y := slf h k false) (by omega) (by omega)) ?_
  refine PW_istore_n (i := 2) dX4_canSteer_15 rfl (Nat.le_of_ble_eq_true rfl) rfl ?_
  refine PW_iload_n (i := 2) dX4_canSteer_16 rfl rfl ?_
  refine PW_if_le 24 dX4_canSteer_17 (by decide) (fun h17 => ?_) (fun h17 => ?_)
  · have h17 : ¬ 0 < mxs h k := by have := jle (b := 0) h17; unfold mxs; omega
    refine PW_iconst (v := 0) dX4_canSteer_24 (by decide) ?_
    refine PW_istore_n (i := 3) dX4_canSteer_25 rfl (Nat.le_of_ble_eq_true rfl) rfl ?_
    refine PW_iconst (v := 0) dX4_canSteer_26 (by decide) ?_
    refine PW_istore dX4_canSteer_27 (Nat.le_of_ble_eq_true rfl) rfl ?_
    first
      | (have q := lpX4_canSteer hd hK0' hS' hR' hV' hb hk (hn h + 1) 0 (by omega) (by omega) .null; have e : csP h k 0 = true := by unfold csP allB; rw [decide_eq_true h17]; rfl; rw [e] at q; exact q)
      | (have q := lpX4_canSteer hd hK0' hS' hR' hV' hb hk (hn h + 1) 0 (by omega) (by omega) .null; have e : csP h k 0 = false := by unfold csP allB; rw [decide_eq_false h17]; rfl; rw [e] at q; exact q)
  · have h17 : 0 < mxs h k := by have := jnle (b := 0) h17; unfold mxs; omega
    refine PW_iconst (v := 1) dX4_canSteer_20 (by decide) ?_
    refine PW_goto 25 dX4_canSteer_21 (by decide) ?_
    refine PW_istore_n (i := 3) dX4_canSteer_25 rfl (Nat.le_of_ble_eq_true rfl) rfl ?_
    refine PW_iconst (v := 0) dX4_canSteer_26 (by decide) ?_
    refine PW_istore dX4_canSteer_27 (Nat.le_of_ble_eq_true rfl) rfl ?_
    first
      | (have q := lpX4_canSteer hd hK0' hS' hR' hV' hb hk (hn h + 1) 0 (by omega) (by omega) .null; have e : csP h k 0 = true := by unfold csP allB; rw [decide_eq_true h17]; rfl; rw [e] at q; exact q)
      | (have q := lpX4_canSteer hd hK0' hS' hR' hV' hb hk (hn h + 1) 0 (by omega) (by omega) .null; have e : csP h k 0 = false := by unfold csP allB; rw [decide_eq_false h17]; rfl; rw [e] at q; exact q)
set_option maxRecDepth 100000 in
set_option maxHeartbeats 4000000 in
theorem lpX4_coo {G : GE} {d : Nat} {i : MI0} {S : MS} {X a b : Nat} {h : Hm} (hd : 5 ≤ d) (hK0 : KS S X) (hS : HS S X a) (hR : HR i a h) (hV : HV b h) (hb : b ≤ 1000) {k s c : Nat} (hk : k < hn h) (hs : s ≤ 300) (hc : c ≤ 10) (hs0 : ¬ s = 0) : ∀ (n0 j : Nat), j ≤ hn h → hn h < j + n0 → ∀ (z6 z7 : Value), PW G iX4_chancesOfOthers d (Rt (nI (coo h k s c)) (i, S)) 12 [.ref a, .int (nI k), .int (nI s), .int (nI c), .int (nI (prodN (cooF h k s c) j)), .int (nI j), z6, z7] [] (i, S) 0 0 := by
  have hK0' := hK0
  have hS' := hS
  have hR' := hR
  have hV' := hV
  obtain ⟨Fk0, Fkr, Fkp⟩ := hK0
  obtain ⟨Ft0, Ft1, Ft2, Ft3, Fr0, Fr1, Fr2, Fr3⟩ := hS
  obtain ⟨Fg4, Fg5, Fg6, Fg7, Fgj⟩ := hR
  obtain ⟨Fv1, Fv2, Fv3, Fv4, Fv5, Fv6⟩ := hV
  intro n0
  induction n0 with
  | zero => intro j h1 h2; exact absurd h2 (by omega)
  | succ n0 ih =>
    intro j hj1 hj2 z6 z7
    refine PW_iload dX4_chancesOfOthers_12 rfl ?_
    refine PW_aload_n (i := 0) dX4_chancesOfOthers_14 rfl rfl ?_
    refine PW_giv (v := nI (hn h)) dX4_chancesOfOthers_15 fg4_25 (Ft0) (Fg4) ?_
    refine PW_icmp_ge 94 dX4_chancesOfOthers_18 (by decide) (fun h18 => ?_) (fun h18 => ?_)
    · have h18 := jle h18
      have ej : j = hn h := by omega
      subst ej
      refine PW_iload dX4_chancesOfOthers_94 rfl ?_
      refine PW_ireturn rfl (rfl) dX4_chancesOfOthers_96 (Nat.le_of_ble_eq_true rfl) (Nat.le_of_ble_eq_true rfl) ?_
      refine rt_i ?_
      unfold coo
      rw [if_neg hs0]
    · have h18 := jnle h18
      have Fs1 := slf_le hV' h18 true
      have Fs2 := slf_le hV' h18 false
      refine PW_iload dX4_chancesOfOthers_21 rfl ?_
      refine PW_iload_n (i := 1) dX4_chancesOfOthers_23 rfl rfl ?_
      refine PW_icmp_eq 88 dX4_chancesOfOthers_24 (by decide) (fun h24 => ?_) (fun h24 => ?_)
      · have h24 := jeq h24
        refine PW_inc1 dX4_chancesOfOthers_88 rfl (Nat.le_of_ble_eq_true rfl) rfl ?_
        refine PW_goto 12 dX4_chancesOfOthers_91 (by decide) ?_
        have q := ih (j + 1) (by omega) (by omega)
        rw [show prodN (cooF h k s c) (j + 1) = prodN (cooF h k s c) j * cooF h k s c j from rfl] at q
        unfold cooF at q
        first | (rw [if_pos h24, Nat.mul_one] at q; exact q z6 z7) | (rw [if_neg h24, h41, h65] at q; exact q _ _)
      · have h24 := jne h24
        refine PW_iload dX4_chancesOfOthers_27 rfl ?_
        refine PW_aload_n (i := 0) dX4_chancesOfOthers_29 rfl rfl ?_
        refine PW_iload dX4_chancesOfOthers_30 rfl ?_
        refine PW_iconst (v := 1) dX4_chancesOfOthers_32 (by decide) ?_
        refine PW_callV dX4_chancesOfOthers_33 moX4_sleepiness cv4_54 (Ft0) (by omega) rfl rfl (Nat.le_of_ble_eq_true rfl) (Nat.le_of_ble_eq_true rfl) (Nat.le_of_ble_eq_true rfl) (spX4_sleepiness (d := d - 1) (by omega) hK0' hS' hR' hV' hb h18 true) (fun v M1 hq => ?_)
        obtain ⟨rfl, rfl⟩ := hq
        refine PW_iload_n (i := 1) dX4_chancesOfOthers_36 rfl rfl ?_
        refine PW_iload_n (i := 2) dX4_chancesOfOthers_37 rfl rfl ?_
        refine PW_callS dX4_chancesOfOthers_38 moX4_staysBehind cs4_71 (by omega) rfl rfl (Nat.le_of_ble_eq_true rfl) (Nat.le_of_ble_eq_true rfl) (Nat.le_of_ble_eq_true rfl) (spX4_staysBehind (d := d - 1) (o := j) (so := slf h j true) (k := k) (s := s) (by omega) (by omega) (by omega) (by omega)) (fun v M1 hq => ?_)
        obtain ⟨rfl, rfl⟩ := hq
        refine PW_if_eq 48 dX4_chancesOfOthers_41 (by decide) (fun h41 => ?_) (fun h41 => ?_)
        · have h41 := b2i_0.mp h41
          refine PW_iconst (v := 0) dX4_chancesOfOthers_48 (by decide) ?_
          refine PW_istore dX4_chancesOfOthers_49 (Nat.le_of_ble_eq_true rfl) rfl ?_
          refine PW_iload dX4_chancesOfOthers_51 rfl ?_
          refine PW_aload_n (i := 0) dX4_chancesOfOthers_53 rfl rfl ?_
          refine PW_iload dX4_chancesOfOthers_54 rfl ?_
          refine PW_iconst (v := 0) dX4_chancesOfOthers_56 (by decide) ?_
          refine PW_callV dX4_chancesOfOthers_57 moX4_sleepiness cv4_54 (Ft0) (by omega) rfl rfl (Nat.le_of_ble_eq_true rfl) (Nat.le_of_ble_eq_true rfl) (Nat.le_of_ble_eq_true rfl) (spX4_sleepiness (d := d - 1) (by omega) hK0' hS' hR' hV' hb h18 false) (fun v M1 hq => ?_)
          obtain ⟨rfl, rfl⟩ := hq
          refine PW_iload_n (i := 1) dX4_chancesOfOthers_60 rfl rfl ?_
          refine PW_iload_n (i := 2) dX4_chancesOfOthers_61 rfl rfl ?_
          refine PW_callS dX4_chancesOfOthers_62 moX4_staysBehind cs4_71 (by omega) rfl rfl (Nat.le_of_ble_eq_true rfl) (Nat.le_of_ble_eq_true rfl) (Nat.le_of_ble_eq_true rfl) (spX4_staysBehind (d := d - 1) (o := j) (so := slf h j false) (k := k) (s := s) (by omega) (by omega) (by omega) (by omega)) (fun v M1 hq => ?_)
          obtain ⟨rfl, rfl⟩ := hq
          refine PW_if_eq 75 dX4_chancesOfOthers_65 (by decide) (fun h65 => ?_) (fun h65 => ?_)
          · have h65 := b2i_0.mp h65
            refine PW_iconst (v := 0) dX4_chancesOfOthers_75 (by decide) ?_
            refine PW_istore dX4_chancesOfOthers_76 (Nat.le_of_ble_eq_true rfl) rfl ?_
            refine PW_iload dX4_chancesOfOthers_78 rfl ?_
            refine PW_iload dX4_chancesOfOthers_80 rfl ?_
            refine PW_iload dX4_chancesOfOthers_82 rfl ?_
            refine PW_iadd dX4_chancesOfOthers_84 ?_
            refine PW_eqi (nI_add _ _) ?_
            refine PW_imul dX4_chancesOfOthers_85 ?_
            refine PW_eqi (pk_mul _ _) ?_
            refine PW_istore dX4_chancesOfOthers_86 (Nat.le_of_ble_eq_true rfl) rfl ?_
            refine PW_inc1 dX4_chancesOfOthers_88 rfl (Nat.le_of_ble_eq_true rfl) rfl ?_
            refine PW_goto 12 dX4_chancesOfOthers_91 (by decide) ?_
            have q := ih (j + 1) (by omega) (by omega)
            rw [show prodN (cooF h k s c) (j + 1) = prodN (cooF h k s c) j * cooF h k s c j from rfl] at q
            unfold cooF at q
            first | (rw [if_pos h24, Nat.mul_one] at q; exact q z6 z7) | (rw [if_neg h24, h41, h65] at q; exact q _ _)
          · have h65 := b2i_n.mp h65
            refine PW_bipush (v := 10) dX4_chancesOfOthers_68 (by decide) ?_
            refine PW_iload_n (i := 3) dX4_chancesOfOthers_70 rfl rfl ?_
            refine PW_isub dX4_chancesOfOthers_71 ?_
            refine PW_eqi (pk_sub (a := 10) (b := c) hc) ?_
            refine PW_goto 76 dX4_chancesOfOthers_72 (by decide) ?_
            refine PW_istore dX4_chancesOfOthers_76 (Nat.le_of_ble_eq_true rfl) rfl ?_
            refine PW_iload dX4_chancesOfOthers_78 rfl ?_
            refine PW_iload dX4_chancesOfOthers_80 rfl ?_
            refine PW_iload dX4_chancesOfOthers_82 rfl ?_
            refine PW_iadd dX4_chancesOfOthers_84 ?_
            refine PW_eqi (nI_add _ _) ?_
            refine PW_imul dX4_chancesOfOthers_85 ?_
            refine PW_eqi (pk_mul _ _) ?_
            refine PW_istore dX4_chancesOfOthers_86 (Nat.le_of_ble_eq_true rfl) rfl ?_
            refine PW_inc1 dX4_chancesOfOthers_88 rfl (Nat.le_of_ble_eq_true rfl) rfl ?_
            refine PW_goto 12 dX4_chancesOfOthers_91 (by decide) ?_
            have q := ih (j + 1) (by omega) (by omega)
            rw [show prodN (cooF h k s c) (j + 1) = prodN (cooF h k s c) j * cooF h k s c j from rfl] at q
            unfold cooF at q
            first | (rw [if_pos h24, Nat.mul_one] at q; exact q z6 z7) | (rw [if_neg h24, h41, h65] at q; exact q _ _)
        · have h41 := b2i_n.mp h41
          refine PW_iload_n (i := 3) dX4_chancesOfOthers_44 rfl rfl ?_
          refine PW_goto 49 dX4_chancesOfOthers_45 (by decide) ?_
          refine PW_istore dX4_chancesOfOthers_49 (Nat.le_of_ble_eq_true rfl) rfl ?_
          refine PW_iload dX4_chancesOfOthers_51 rfl ?_
          refine PW_aload_n (i := 0) dX4_chancesOfOthers_53 rfl rfl ?_
          refine PW_iload dX4_chancesOfOthers_54 rfl ?_
          refine PW_iconst (v := 0) dX4_chancesOfOthers_56 (by decide) ?_
          refine PW_callV dX4_chancesOfOthers_57 moX4_sleepiness cv4_54 (Ft0) (by omega) rfl rfl (Nat.le_of_ble_eq_true rfl) (Nat.le_of_ble_eq_true rfl) (Nat.le_of_ble_eq_true rfl) (spX4_sleepiness (d := d - 1) (by omega) hK0' hS' hR' hV' hb h18 false) (fun v M1 hq => ?_)
          obtain ⟨rfl, rfl⟩ := hq
          refine PW_iload_n (i := 1) dX4_chancesOfOthers_60 rfl rfl ?_
          refine PW_iload_n (i := 2) dX4_chancesOfOthers_61 rfl rfl ?_
          refine PW_callS dX4_chancesOfOthers_62 moX4_staysBehind cs4_71 (by omega) rfl rfl (Nat.le_of_ble_eq_true rfl) (Nat.le_of_ble_eq_true rfl) (Nat.le_of_ble_eq_true rfl) (spX4_staysBehind (d := d - 1) (o := j) (so := slf h j false) (k := k) (s := s) (by omega) (by omega) (by omega) (by omega)) (fun v M1 hq => ?_)
          obtain ⟨rfl, rfl⟩ := hq
          refine PW_if_eq 75 dX4_chancesOfOthers_65 (by decide) (fun h65 => ?_) (fun h65 => ?_)
          · have h65 := b2i_0.mp h65
            refine PW_iconst (v := 0) dX4_chancesOfOthers_75 (by decide) ?_
            refine PW_istore dX4_chancesOfOthers_76 (Nat.le_of_ble_eq_true rfl) rfl ?_
            refine PW_iload dX4_chancesOfOthers_78 rfl ?_
            refine PW_iload dX4_chancesOfOthers_80 rfl ?_
            refine PW_iload dX4_chancesOfOthers_82 rfl ?_
            refine PW_iadd dX4_chancesOfOthers_84 ?_
            refine PW_eqi (nI_add _ _) ?_
            refine PW_imul dX4_chancesOfOthers_85 ?_
            refine PW_eqi (pk_mul _ _) ?_
            refine PW_istore dX4_chancesOfOthers_86 (Nat.le_of_ble_eq_true rfl) rfl ?_
            refine PW_inc1 dX4_chancesOfOthers_88 rfl (Nat.le_of_ble_eq_true rfl) rfl ?_
            refine PW_goto 12 dX4_chancesOfOthers_91 (by decide) ?_
            have q := ih (j + 1) (by omega) (by omega)
            rw [show prodN (cooF h k s c) (j + 1) = prodN (cooF h k s c) j * cooF h k s c j from rfl] at q
            unfold cooF at q
            first | (rw [if_pos h24, Nat.mul_one] at q; exact q z6 z7) | (rw [if_neg h24, h41, h65] at q; exact q _ _)
          · have h65 := b2i_n.mp h65
            refine PW_bipush (v := 10) dX4_chancesOfOthers_68 (by decide) ?_
            refine PW_iload_n (i := 3) dX4_chancesOfOthers_70 rfl rfl ?_
            refine PW_isub dX4_chancesOfOthers_71 ?_
            refine PW_eqi (pk_sub (a := 10) (b := c) hc) ?_
            refine PW_goto 76 dX4_chancesOfOthers_72 (by decide) ?_
            refine PW_istore dX4_chancesOfOthers_76 (Nat.le_of_ble_eq_true rfl) rfl ?_
            refine PW_iload dX4_chancesOfOthers_78 rfl ?_
            refine PW_iload dX4_chancesOfOthers_80 rfl ?_
            refine PW_iload dX4_chancesOfOthers_82 rfl ?_
            refine PW_iadd dX4_chancesOfOthers_84 ?_
            refine PW_eqi (nI_add _ _) ?_
            refine PW_imul dX4_chancesOfOthers_85 ?_
            refine PW_eqi (pk_mul _ _) ?_
            refine PW_istore dX4_chancesOfOthers_86 (Nat.le_of_ble_eq_true rfl) rfl ?_
            refine PW_inc1 dX4_chancesOfOthers_88 rfl (Nat.le_of_ble_eq_true rfl) rfl ?_
            refine PW_goto 12 dX4_chancesOfOthers_91 (by decide) ?_
            have q := ih (j + 1) (by omega) (by omega)
            rw [show prodN (cooF h k s c) (j + 1) = prodN (cooF h k s c) j * cooF h k s c j from rfl] at q
            unfold cooF at q
            first | (rw [if_pos h24, Nat.mul_one] at q; exact q z6 z7) | (rw [if_neg h24, h41, h65] at q; exact q _ _)
set_option maxRecDepth 100000 in
set_option maxHeartbeats 4000000 in
theorem spX4_coo {G : GE} {d : Nat} {i : MI0} {S : MS} {X a b : Nat} {h : Hm} (hd : 5 ≤ d) (hK0 : KS S X) (hS : HS S X a) (hR : HR i a h) (hV : HV b h) (hb : b ≤ 1000) {k s c : Nat} (hk : k < hn h) (hs : s ≤ 300) (hc : c ≤ 10) : Mt G iX4_chancesOfOthers d [.ref a, .int (nI k), .int (nI s), .int (nI c)] (i, S) (Rt (nI (coo h k s c)) (i, S)) := by
  refine Mt_in 4 (ls := [.ref a, .int (nI k), .int (nI s), .int (nI c), .null, .null, .null, .null]) moX4_chancesOfOthers (Nat.le_of_ble_eq_true rfl) rfl ?_
  refine PW_iload_n (i := 2) dX4_chancesOfOthers_0 rfl rfl ?_
  refine PW_if_gt 6 dX4_chancesOfOthers_1 (by decide) (fun h1 => ?_) (fun h1 => ?_)
  · have h1 : ¬ s = 0 := by have := jlt (a := 0) h1; omega
    refine PW_iconst (v := 1) dX4_chancesOfOthers_6 (by decide) ?_
    refine PW_istore dX4_chancesOfOthers_7 (Nat.le_of_ble_eq_true rfl) rfl ?_
    refine PW_iconst (v := 0) dX4_chancesOfOthers_9 (by decide) ?_
    refine PW_istore dX4_chancesOfOthers_10 (Nat.le_of_ble_eq_true rfl) rfl ?_
    exact lpX4_coo hd hK0 hS hR hV hb hk hs hc h1 (hn h + 1) 0 (by omega) (by omega) .null .null
  · have h1 : s = 0 := by have := jnlt (a := 0) h1; omega
    refine PW_iconst (v := 0) dX4_chancesOfOthers_4 (by decide) ?_
    refine PW_ireturn rfl (rfl) dX4_chancesOfOthers_5 (Nat.le_of_ble_eq_true rfl) (Nat.le_of_ble_eq_true rfl) ?_
    refine rt_i ?_
    unfold coo
    rw [if_pos h1]; rfl
set_option maxRecDepth 100000 in
set_option maxHeartbeats 4000000 in
theorem spX4_chances {G : GE} {d : Nat} {i : MI0} {S : MS} {X a b : Nat} {h : Hm} (hd : 6 ≤ d) (hK0 : KS S X) (hS : HS S X a) (hR : HR i a h) (hV : HV b h) (hb : b ≤ 1000) {k c : Nat} (hk : k < hn h) (hc : c ≤ 10) : Mt G iX4_chances d [.ref a, .int (nI k), .int (nI c)] (i, S) (Rt (nI (chn h k c)) (i, S)) := by
  have hK0' := hK0
  have hS' := hS
  have hR' := hR
  have hV' := hV
  obtain ⟨Fk0, Fkr, Fkp⟩ := hK0
  obtain ⟨Ft0, Ft1, Ft2, Ft3, Fr0, Fr1, Fr2, Fr3⟩ := hS
  obtain ⟨Fg4, Fg5, Fg6, Fg7, Fgj⟩ := hR
  obtain ⟨Fv1, Fv2, Fv3, Fv4, Fv5, Fv6⟩ := hV
  refine Mt_in 0 (ls := [.ref a, .int (nI k), .int (nI c)]) moX4_chances (Nat.le_of_ble_eq_true rfl) rfl ?_
  refine PW_iload_n (i := 2) dX4_chances_0 rfl rfl ?_
  refine PW_aload_n (i := 0) dX4_chances_1 rfl rfl ?_
  refine PW_iload_n (i := 1) dX4_chances_2 rfl rfl ?_
  refine PW_aload_n (i := 0) dX4_chances_3 rfl rfl ?_
  refine PW_iload_n (i := 1) dX4_chances_4 rfl rfl ?_
  refine PW_iconst (v := 1) dX4_chances_5 (by decide) ?_
  refine PW_callV dX4_chances_6 moX4_sleepiness cv4_54 (Ft0) (by omega) rfl rfl (Nat.le_of_ble_eq_true rfl) (Nat.le_of_ble_eq_true rfl) (Nat.le_of_ble_eq_true rfl) (spX4_sleepiness (d := d - 1) (by omega) hK0' hS' hR' hV' hb hk true) (fun v M1 hq => ?_)
  obtain ⟨rfl, rfl⟩ := hq
  refine PW_iload_n (i := 2) dX4_chances_9 rfl rfl ?_
  refine PW_callV dX4_chances_10 moX4_chancesOfOthers cv4_75 (Ft0) (by omega) rfl rfl (Nat.le_of_ble_eq_true rfl) (Nat.le_of_ble_eq_true rfl) (Nat.le_of_ble_eq_true rfl) (spX4_coo (d := d - 1) (s := slf h k true) (by omega) hK0' hS' hR' hV' hb hk (by have := slf_le hV' hk true; omega) hc) (fun v M1 hq => ?_)
  obtain ⟨rfl, rfl⟩ := hq
  refine PW_imul dX4_chances_13 ?_
  refine PW_eqi (pk_mul _ _) ?_
  refine PW_bipush (v := 10) dX4_chances_14 (by decide) ?_
  refine PW_iload_n (i := 2) dX4_chances_16 rfl rfl ?_
  refine PW_isub dX4_chances_17 ?_
  refine PW_eqi (pk_sub (a := 10) (b := c) hc) ?_
  refine PW_aload_n (i := 0) dX4_chances_18 rfl rfl ?_
  refine PW_iload_n (i := 1) dX4_chances_19 rfl rfl ?_
  refine PW_aload_n (i := 0) dX4_chances_20 rfl rfl ?_
  refine PW_iload_n (i := 1) dX4_chances_21 rfl rfl ?_
  refine PW_iconst (v := 0) dX4_chances_22 (by decide) ?_
  refine PW_callV dX4_chances_23 moX4_sleepiness cv4_54 (Ft0) (by omega) rfl rfl (Nat.le_of_ble_eq_true rfl) (Nat.le_of_ble_eq_true rfl) (Nat.le_of_ble_eq_true rfl) (spX4_sleepiness (d := d - 1) (by omega) hK0' hS' hR' hV' hb hk false) (fun v M1 hq => ?_)
  obtain ⟨rfl, rfl⟩ := hq
  refine PW_iload_n (i := 2) dX4_chances_26 rfl rfl ?_
  refine PW_callV dX4_chances_27 moX4_chancesOfOthers cv4_75 (Ft0) (by omega) rfl rfl (Nat.le_of_ble_eq_true rfl) (Nat.le_of_ble_eq_true rfl) (Nat.le_of_ble_eq_true rfl) (spX4_coo (d := d - 1) (s := slf h k false) (by omega) hK0' hS' hR' hV' hb hk (by have := slf_le hV' hk false; omega) hc) (fun v M1 hq => ?_)
  obtain ⟨rfl, rfl⟩ := hq
  refine PW_imul dX4_chances_30 ?_
  refine PW_eqi (pk_mul _ _) ?_
  refine PW_iadd dX4_chances_31 ?_
  refine PW_eqi (nI_add _ _) ?_
  refine PW_ireturn rfl (rfl) dX4_chances_32 (Nat.le_of_ble_eq_true rfl) (Nat.le_of_ble_eq_true rfl) ?_
  exact rt_i rfl
set_option maxRecDepth 100000 in
set_option maxHeartbeats 4000000 in
theorem spX4_steererByPair {G : GE} {d : Nat} {i : MI0} {S : MS} {X a b : Nat} {h : Hm} (hd : 6 ≤ d) (hK0 : KS S X) (hS : HS S X a) (hR : HR i a h) (hV : HV b h) (hb : b ≤ 1000) {k l q : Nat} (hk : k < hn h) (hl : l < hn h) (hq9 : q < 4) : Mt G iX4_steererByPair d [.ref a, .int (nI k), .int (nI l), .int (nI q)] (i, S) (Rt (pI (stw h (prS (hf h) k l q))) (i, S)) := by
  refine Mt_in 1 (ls := [.ref a, .int (nI k), .int (nI l), .int (nI q), .null]) moX4_steererByPair (Nat.le_of_ble_eq_true rfl) rfl ?_
  refine PW_aload_n (i := 0) dX4_steererByPair_0 rfl rfl ?_
  refine PW_giv (v := nI (hf h)) dX4_steererByPair_1 fg4_35 (hS.1) (hR.2.2.2.1) ?_
  refine PW_iconst (v := 1) dX4_steererByPair_4 (by decide) ?_
  refine PW_iload_n (i := 1) dX4_steererByPair_5 rfl rfl ?_
  refine PW_ishl dX4_steererByPair_6 ?_
  refine PW_iconst (v := -1) dX4_steererByPair_7 (by decide) ?_
  refine PW_ixor dX4_steererByPair_8 ?_
  refine PW_iand dX4_steererByPair_9 ?_
  refine PW_iconst (v := 1) dX4_steererByPair_10 (by decide) ?_
  refine PW_iload_n (i := 2) dX4_steererByPair_11 rfl rfl ?_
  refine PW_ishl dX4_steererByPair_12 ?_
  refine PW_iconst (v := -1) dX4_steererByPair_13 (by decide) ?_
  refine PW_ixor dX4_steererByPair_14 ?_
  refine PW_iand dX4_steererByPair_15 ?_
  refine PW_istore dX4_steererByPair_16 (Nat.le_of_ble_eq_true rfl) rfl ?_
  refine PW_aload_n (i := 0) dX4_steererByPair_18 rfl rfl ?_
  refine PW_iload dX4_steererByPair_19 rfl ?_
  refine PW_iload_n (i := 3) dX4_steererByPair_21 rfl rfl ?_
  refine PW_iconst (v := 1) dX4_steererByPair_22 (by decide) ?_
  refine PW_iand dX4_steererByPair_23 ?_
  refine PW_iload_n (i := 1) dX4_steererByPair_24 rfl rfl ?_
  refine PW_ishl dX4_steererByPair_25 ?_
  refine PW_ior dX4_steererByPair_26 ?_
  refine PW_iload_n (i := 3) dX4_steererByPair_27 rfl rfl ?_
  refine PW_iconst (v := 1) dX4_steererByPair_28 (by decide) ?_
  refine PW_ishr dX4_steererByPair_29 ?_
  refine PW_iconst (v := 1) dX4_steererByPair_30 (by decide) ?_
  refine PW_iand dX4_steererByPair_31 ?_
  refine PW_iload_n (i := 2) dX4_steererByPair_32 rfl rfl ?_
  refine PW_ishl dX4_steererByPair_33 ?_
  refine PW_ior dX4_steererByPair_34 ?_
  have pq := prS_ok (f := hf h) (a := k) (b := l) (by have := hV.1; omega) (by have := hV.1; omega) hq9 (by have h1 := hV.1; have h2 := hV.2.1; have h3 : 2 ^ hn h ≤ 2 ^ 6 := Nat.pow_le_pow_right (by decide) h1; omega)
  refine PW_eqi pq.1 ?_
  refine PW_callV dX4_steererByPair_35 moX4_steerer cv4_82 (hS.1) (by omega) rfl rfl (Nat.le_of_ble_eq_true rfl) (Nat.le_of_ble_eq_true rfl) (Nat.le_of_ble_eq_true rfl) (spX4_steerer (d := d - 1) (by omega) hK0 hS hR hV hb (by omega)) (fun v M1 hq => ?_)
  obtain ⟨rfl, rfl⟩ := hq
  refine PW_ireturn rfl (rfl) dX4_steererByPair_38 (Nat.le_of_ble_eq_true rfl) (Nat.le_of_ble_eq_true rfl) ?_
  exact rt_i rfl
set_option maxRecDepth 100000 in
set_option maxHeartbeats 4000000 in
theorem spX4_pairRests {G : GE} {d : Nat} {i : MI0} {S : MS} {X a b : Nat} {h : Hm} (hd : 7 ≤ d) (hK0 : KS S X) (hS : HS S X a) (hR : HR i a h) (hV : HV b h) (hb : b ≤ 1000) {k l q : Nat} (hk : k < hn h) (hl : l < hn h) (hq9 : q < 4) : Mt G iX4_pairRests d [.ref a, .int (nI k), .int (nI l), .int (nI q)] (i, S) (Rt (b2i (eatB h k l q)) (i, S)) := by
  refine Mt_in 3 (ls := [.ref a, .int (nI k), .int (nI l), .int (nI q), .null, .null, .null]) moX4_pairRests (Nat.le_of_ble_eq_true rfl) rfl ?_
  refine PW_aload_n (i := 0) dX4_pairRests_0 rfl rfl ?_
  refine PW_iload_n (i := 1) dX4_pairRests_1 rfl rfl ?_
  refine PW_iload_n (i := 2) dX4_pairRests_2 rfl rfl ?_
  refine PW_iload_n (i := 3) dX4_pairRests_3 rfl rfl ?_
  refine PW_callV dX4_pairRests_4 moX4_steererByPair cv4_79 (hS.1) (by omega) rfl rfl (Nat.le_of_ble_eq_true rfl) (Nat.le_of_ble_eq_true rfl) (Nat.le_of_ble_eq_true rfl) (spX4_steererByPair (d := d - 1) (by omega) hK0 hS hR hV hb hk hl hq9) (fun v M1 hq => ?_)
  obtain ⟨rfl, rfl⟩ := hq
  refine PW_istore dX4_pairRests_7 (Nat.le_of_ble_eq_true rfl) rfl ?_
  refine PW_iload dX4_pairRests_9 rfl ?_
  refine PW_iload_n (i := 1) dX4_pairRests_11 rfl rfl ?_
  refine PW_icmp_ne 32 dX4_pairRests_12 (by decide) (fun h12 => ?_) (fun h12 => ?_)
  · have h12 : ¬ stw h (prS (hf h) k l q) = k + 1 := fun z => h12 ((pI_eq (k := k) (by have := stw_le h (prS (hf h) k l q); have := hV.1; omega) (by have := hV.1; omega)).mpr z).symm
    refine PW_iconst (v := 0) dX4_pairRests_32 (by decide) ?_
    refine PW_istore dX4_pairRests_33 (Nat.le_of_ble_eq_true rfl) rfl ?_
    refine PW_iload dX4_pairRests_35 rfl ?_
    refine PW_iload_n (i := 2) dX4_pairRests_37 rfl rfl ?_
    refine PW_icmp_ne 58 dX4_pairRests_38 (by decide) (fun h38 => ?_) (fun h38 => ?_)
    · have h38 : ¬ stw h (prS (hf h) k l q) = l + 1 := fun z => h38 ((pI_eq (k := l) (by have := stw_le h (prS (hf h) k l q); have := hV.1; omega) (by have := hV.1; omega)).mpr z).symm
      refine PW_iconst (v := 0) dX4_pairRests_58 (by decide) ?_
      refine PW_istore dX4_pairRests_59 (Nat.le_of_ble_eq_true rfl) rfl ?_
      refine PW_iload dX4_pairRests_61 rfl ?_
      refine PW_if_ne 75 dX4_pairRests_63 (by decide) (fun h63 => ?_) (fun h63 => ?_)
      · refine PW_iconst (v := 0) dX4_pairRests_75 (by decide) ?_
        refine PW_ireturn rfl (rfl) dX4_pairRests_76 (Nat.le_of_ble_eq_true rfl) (Nat.le_of_ble_eq_true rfl) ?_
        refine rt_i ?_
        unfold eatB
        simp_all [b2i]
      · refine PW_iload dX4_pairRests_66 rfl ?_
        refine PW_if_ne 75 dX4_pairRests_68 (by decide) (fun h68 => ?_) (fun h68 => ?_)
        · refine PW_iconst (v := 0) dX4_pairRests_75 (by decide) ?_
          refine PW_ireturn rfl (rfl) dX4_pairRests_76 (Nat.le_of_ble_eq_true rfl) (Nat.le_of_ble_eq_true rfl) ?_
          refine rt_i ?_
          unfold eatB
          simp_all [b2i]
        · refine PW_iconst (v := 1) dX4_pairRests_71 (by decide) ?_
          refine PW_goto 76 dX4_pairRests_72 (by decide) ?_
          refine PW_ireturn rfl (rfl) dX4_pairRests_76 (Nat.le_of_ble_eq_true rfl) (Nat.le_of_ble_eq_true rfl) ?_
          refine rt_i ?_
          unfold eatB
          simp_all [b2i]
    · have h38 : stw h (prS (hf h) k l q) = l + 1 := (pI_eq (k := l) (by have := stw_le h (prS (hf h) k l q); have := hV.1; omega) (by have := hV.1; omega)).mp h38.symm
      refine PW_aload_n (i := 0) dX4_pairRests_41 rfl rfl ?_
      refine PW_iload_n (i := 1) dX4_pairRests_42 rfl rfl ?_
      refine PW_iload_n (i := 2) dX4_pairRests_43 rfl rfl ?_
      refine PW_iload_n (i := 3) dX4_pairRests_44 rfl rfl ?_
      refine PW_iconst (v := 2) dX4_pairRests_45 (by decide) ?_
      refine PW_ixor dX4_pairRests_46 ?_
      refine PW_eqi (x4 q hq9).2.1 ?_
      refine PW_callV dX4_pairRests_47 moX4_steererByPair cv4_79 (hS.1) (by omega) rfl rfl (Nat.le_of_ble_eq_true rfl) (Nat.le_of_ble_eq_true rfl) (Nat.le_of_ble_eq_true rfl) (spX4_steererByPair (d := d - 1) (by omega) hK0 hS hR hV hb hk hl (x4 q hq9).2.2.2) (fun v M1 hq => ?_)
      obtain ⟨rfl, rfl⟩ := hq
      refine PW_iload_n (i := 2) dX4_pairRests_50 rfl rfl ?_
      refine PW_icmp_eq 58 dX4_pairRests_51 (by decide) (fun h51 => ?_) (fun h51 => ?_)
      · have h51 : stw h (prS (hf h) k l (q ^^^ 2)) = l + 1 := (pI_eq (k := l) (by have := stw_le h (prS (hf h) k l (q ^^^ 2)); have := hV.1; omega) (by have := hV.1; omega)).mp h51.symm
        refine PW_iconst (v := 0) dX4_pairRests_58 (by decide) ?_
        refine PW_istore dX4_pairRests_59 (Nat.le_of_ble_eq_true rfl) rfl ?_
        refine PW_iload dX4_pairRests_61 rfl ?_
        refine PW_if_ne 75 dX4_pairRests_63 (by decide) (fun h63 => ?_) (fun h63 => ?_)
        · refine PW_iconst (v := 0) dX4_pairRests_75 (by decide) ?_
          refine PW_ireturn rfl (rfl) dX4_pairRests_76 (Nat.le_of_ble_eq_true rfl) (Nat.le_of_ble_eq_true rfl) ?_
          refine rt_i ?_
          unfold eatB
          simp_all [b2i]
        · refine PW_iload dX4_pairRests_66 rfl ?_
          refine PW_if_ne 75 dX4_pairRests_68 (by decide) (fun h68 => ?_) (fun h68 => ?_)
          · refine PW_iconst (v := 0) dX4_pairRests_75 (by decide) ?_
            refine PW_ireturn rfl (rfl) dX4_pairRests_76 (Nat.le_of_ble_eq_true rfl) (Nat.le_of_ble_eq_true rfl) ?_
            refine rt_i ?_
            unfold eatB
            simp_all [b2i]
          · refine PW_iconst (v := 1) dX4_pairRests_71 (by decide) ?_
            refine PW_goto 76 dX4_pairRests_72 (by decide) ?_
            refine PW_ireturn rfl (rfl) dX4_pairRests_76 (Nat.le_of_ble_eq_true rfl) (Nat.le_of_ble_eq_true rfl) ?_
            refine rt_i ?_
            unfold eatB
            simp_all [b2i]
      · have h51 : ¬ stw h (prS (hf h) k l (q ^^^ 2)) = l + 1 := fun z => h51 ((pI_eq (k := l) (by have := stw_le h (prS (hf h) k l (q ^^^ 2)); have := hV.1; omega) (by have := hV.1; omega)).mpr z).symm
        refine PW_iconst (v := 1) dX4_pairRests_54 (by decide) ?_
        refine PW_goto 59 dX4_pairRests_55 (by decide) ?_
        refine PW_istore dX4_pairRests_59 (Nat.le_of_ble_eq_true rfl) rfl ?_
        refine PW_iload dX4_pairRests_61 rfl ?_
        refine PW_if_ne 75 dX4_pairRests_63 (by decide) (fun h63 => ?_) (fun h63 => ?_)
        · refine PW_iconst (v := 0) dX4_pairRests_75 (by decide) ?_
          refine PW_ireturn rfl (rfl) dX4_pairRests_76 (Nat.le_of_ble_eq_true rfl) (Nat.le_of_ble_eq_true rfl) ?_
          refine rt_i ?_
          unfold eatB
          simp_all [b2i]
        · refine PW_iload dX4_pairRests_66 rfl ?_
          refine PW_if_ne 75 dX4_pairRests_68 (by decide) (fun h68 => ?_) (fun h68 => ?_)
          · refine PW_iconst (v := 0) dX4_pairRests_75 (by decide) ?_
            refine PW_ireturn rfl (rfl) dX4_pairRests_76 (Nat.le_of_ble_eq_true rfl) (Nat.le_of_ble_eq_true rfl) ?_
            refine rt_i ?_
            unfold eatB
            simp_all [b2i]
          · refine PW_iconst (v := 1) dX4_pairRests_71 (by decide) ?_
            refine PW_goto 76 dX4_pairRests_72 (by decide) ?_
            refine PW_ireturn rfl (rfl) dX4_pairRests_76 (Nat.le_of_ble_eq_true rfl) (Nat.le_of_ble_eq_true rfl) ?_
            refine rt_i ?_
            unfold eatB
            simp_all [b2i]
  · have h12 : stw h (prS (hf h) k l q) = k + 1 := (pI_eq (k := k) (by have := stw_le h (prS (hf h) k l q); have := hV.1; omega) (by have := hV.1; omega)).mp h12.symm
    refine PW_aload_n (i := 0) dX4_pairRests_15 rfl rfl ?_
    refine PW_iload_n (i := 1) dX4_pairRests_16 rfl rfl ?_
    refine PW_iload_n (i := 2) dX4_pairRests_17 rfl rfl ?_
    refine PW_iload_n (i := 3) dX4_pairRests_18 rfl rfl ?_
    refine PW_iconst (v := 1) dX4_pairRests_19 (by decide) ?_
    refine PW_ixor dX4_pairRests_20 ?_
    refine PW_eqi (x4 q hq9).1 ?_
    refine PW_callV dX4_pairRests_21 moX4_steererByPair cv4_79 (hS.1) (by omega) rfl rfl (Nat.le_of_ble_eq_true rfl) (Nat.le_of_ble_eq_true rfl) (Nat.le_of_ble_eq_true rfl) (spX4_steererByPair (d := d - 1) (by omega) hK0 hS hR hV hb hk hl (x4 q hq9).2.2.1) (fun v M1 hq => ?_)
    obtain ⟨rfl, rfl⟩ := hq
    refine PW_iload_n (i := 1) dX4_pairRests_24 rfl rfl ?_
    refine PW_icmp_eq 32 dX4_pairRests_25 (by decide) (fun h25 => ?_) (fun h25 => ?_)
    · have h25 : stw h (prS (hf h) k l (q ^^^ 1)) = k + 1 := (pI_eq (k := k) (by have := stw_le h (prS (hf h) k l (q ^^^ 1)); have := hV.1; omega) (by have := hV.1; omega)).mp h25.symm
      refine PW_iconst (v := 0) dX4_pairRests_32 (by decide) ?_
      refine PW_istore dX4_pairRests_33 (Nat.le_of_ble_eq_true rfl) rfl ?_
      refine PW_iload dX4_pairRests_35 rfl ?_
      refine PW_iload_n (i := 2) dX4_pairRests_37 rfl rfl ?_
      refine PW_icmp_ne 58 dX4_pairRests_38 (by decide) (fun h38 => ?_) (fun h38 => ?_)
      · have h38 : ¬ stw h (prS (hf h) k l q) = l + 1 := fun z => h38 ((pI_eq (k := l) (by have := stw_le h (prS (hf h) k l q); have := hV.1; omega) (by have := hV.1; omega)).mpr z).symm
        refine PW_iconst (v := 0) dX4_pairRests_58 (by decide) ?_
        refine PW_istore dX4_pairRests_59 (Nat.le_of_ble_eq_true rfl) rfl ?_
        refine PW_iload dX4_pairRests_61 rfl ?_
        refine PW_if_ne 75 dX4_pairRests_63 (by decide) (fun h63 => ?_) (fun h63 => ?_)
        · refine PW_iconst (v := 0) dX4_pairRests_75 (by decide) ?_
          refine PW_ireturn rfl (rfl) dX4_pairRests_76 (Nat.le_of_ble_eq_true rfl) (Nat.le_of_ble_eq_true rfl) ?_
          refine rt_i ?_
          unfold eatB
          simp_all [b2i]
        · refine PW_iload dX4_pairRests_66 rfl ?_
          refine PW_if_ne 75 dX4_pairRests_68 (by decide) (fun h68 => ?_) (fun h68 => ?_)
          · refine PW_iconst (v := 0) dX4_pairRests_75 (by decide) ?_
            refine PW_ireturn rfl (rfl) dX4_pairRests_76 (Nat.le_of_ble_eq_true rfl) (Nat.le_of_ble_eq_true rfl) ?_
            refine rt_i ?_
            unfold eatB
            simp_all [b2i]
          · refine PW_iconst (v := 1) dX4_pairRests_71 (by decide) ?_
            refine PW_goto 76 dX4_pairRests_72 (by decide) ?_
            refine PW_ireturn rfl (rfl) dX4_pairRests_76 (Nat.le_of_ble_eq_true rfl) (Nat.le_of_ble_eq_true rfl) ?_
            refine rt_i ?_
            unfold eatB
            simp_all [b2i]
      · have h38 : stw h (prS (hf h) k l q) = l + 1 := (pI_eq (k := l) (by have := stw_le h (prS (hf h) k l q); have := hV.1; omega) (by have := hV.1; omega)).mp h38.symm
        refine PW_aload_n (i := 0) dX4_pairRests_41 rfl rfl ?_
        refine PW_iload_n (i := 1) dX4_pairRests_42 rfl rfl ?_
        refine PW_iload_n (i := 2) dX4_pairRests_43 rfl rfl ?_
        refine PW_iload_n (i := 3) dX4_pairRests_44 rfl rfl ?_
        refine PW_iconst (v := 2) dX4_pairRests_45 (by decide) ?_
        refine PW_ixor dX4_pairRests_46 ?_
        refine PW_eqi (x4 q hq9).2.1 ?_
        refine PW_callV dX4_pairRests_47 moX4_steererByPair cv4_79 (hS.1) (by omega) rfl rfl (Nat.le_of_ble_eq_true rfl) (Nat.le_of_ble_eq_true rfl) (Nat.le_of_ble_eq_true rfl) (spX4_steererByPair (d := d - 1) (by omega) hK0 hS hR hV hb hk hl (x4 q hq9).2.2.2) (fun v M1 hq => ?_)
        obtain ⟨rfl, rfl⟩ := hq
        refine PW_iload_n (i := 2) dX4_pairRests_50 rfl rfl ?_
        refine PW_icmp_eq 58 dX4_pairRests_51 (by decide) (fun h51 => ?_) (fun h51 => ?_)
        · have h51 : stw h (prS (hf h) k l (q ^^^ 2)) = l + 1 := (pI_eq (k := l) (by have := stw_le h (prS (hf h) k l (q ^^^ 2)); have := hV.1; omega) (by have := hV.1; omega)).mp h51.symm
          refine PW_iconst (v := 0) dX4_pairRests_58 (by decide) ?_
          refine PW_istore dX4_pairRests_59 (Nat.le_of_ble_eq_true rfl) rfl ?_
          refine PW_iload dX4_pairRests_61 rfl ?_
          refine PW_if_ne 75 dX4_pairRests_63 (by decide) (fun h63 => ?_) (fun h63 => ?_)
          · refine PW_iconst (v := 0) dX4_pairRests_75 (by decide) ?_
            refine PW_ireturn rfl (rfl) dX4_pairRests_76 (Nat.le_of_ble_eq_true rfl) (Nat.le_of_ble_eq_true rfl) ?_
            refine rt_i ?_
            unfold eatB
            simp_all [b2i]
          · refine PW_iload dX4_pairRests_66 rfl ?_
            refine PW_if_ne 75 dX4_pairRests_68 (by decide) (fun h68 => ?_) (fun h68 => ?_)
            · refine PW_iconst (v := 0) dX4_pairRests_75 (by decide) ?_
              refine PW_ireturn rfl (rfl) dX4_pairRests_76 (Nat.le_of_ble_eq_true rfl) (Nat.le_of_ble_eq_true rfl) ?_
              refine rt_i ?_
              unfold eatB
              simp_all [b2i]
            · refine PW_iconst (v := 1) dX4_pairRests_71 (by decide) ?_
              refine PW_goto 76 dX4_pairRests_72 (by decide) ?_
              refine PW_ireturn rfl (rfl) dX4_pairRests_76 (Nat.le_of_ble_eq_true rfl) (Nat.le_of_ble_eq_true rfl) ?_
              refine rt_i ?_
              unfold eatB
              simp_all [b2i]
        · have h51 : ¬ stw h (prS (hf h) k l (q ^^^ 2)) = l + 1 := fun z => h51 ((pI_eq (k := l) (by have := stw_le h (prS (hf h) k l (q ^^^ 2)); have := hV.1; omega) (by have := hV.1; omega)).mpr z).symm
          refine PW_iconst (v := 1) dX4_pairRests_54 (by decide) ?_
          refine PW_goto 59 dX4_pairRests_55 (by decide) ?_
          refine PW_istore dX4_pairRests_59 (Nat.le_of_ble_eq_true rfl) rfl ?_
          refine PW_iload dX4_pairRests_61 rfl ?_
          refine PW_if_ne 75 dX4_pairRests_63 (by decide) (fun h63 => ?_) (fun h63 => ?_)
          · refine PW_iconst (v := 0) dX4_pairRests_75 (by decide) ?_
            refine PW_ireturn rfl (rfl) dX4_pairRests_76 (Nat.le_of_ble_eq_true rfl) (Nat.le_of_ble_eq_true rfl) ?_
            refine rt_i ?_
            unfold eatB
            simp_all [b2i]
          · refine PW_iload dX4_pairRests_66 rfl ?_
            refine PW_if_ne 75 dX4_pairRests_68 (by decide) (fun h68 => ?_) (fun h68 => ?_)
            · refine PW_iconst (v := 0) dX4_pairRests_75 (by decide) ?_
              refine PW_ireturn rfl (rfl) dX4_pairRests_76 (Nat.le_of_ble_eq_true rfl) (Nat.le_of_ble_eq_true rfl) ?_
              refine rt_i ?_
              unfold eatB
              simp_all [b2i]
            · refine PW_iconst (v := 1) dX4_pairRests_71 (by decide) ?_
              refine PW_goto 76 dX4_pairRests_72 (by decide) ?_
              refine PW_ireturn rfl (rfl) dX4_pairRests_76 (Nat.le_of_ble_eq_true rfl) (Nat.le_of_ble_eq_true rfl) ?_
              refine rt_i ?_
              unfold eatB
              simp_all [b2i]
    · have h25 : ¬ stw h (prS (hf h) k l (q ^^^ 1)) = k + 1 := fun z => h25 ((pI_eq (k := k) (by have := stw_le h (prS (hf h) k l (q ^^^ 1)); have := hV.1; omega) (by have := hV.1; omega)).mpr z).symm
      refine PW_iconst (v := 1) dX4_pairRests_28 (by decide) ?_
      refine PW_goto 33 dX4_pairRests_29 (by decide) ?_
      refine PW_istore dX4_pairRests_33 (Nat.le_of_ble_eq_true rfl) rfl ?_
      refine PW_iload dX4_pairRests_35 rfl ?_
      refine PW_iload_n (i := 2) dX4_pairRests_37 rfl rfl ?_
      refine PW_icmp_ne 58 dX4_pairRests_38 (by decide) (fun h38 => ?_) (fun h38 => ?_)
      · have h38 : ¬ stw h (prS (hf h) k l q) = l + 1 := fun z => h38 ((pI_eq (k := l) (by have := stw_le h (prS (hf h) k l q); have := hV.1; omega) (by have := hV.1; omega)).mpr z).symm
        refine PW_iconst (v := 0) dX4_pairRests_58 (by decide) ?_
        refine PW_istore dX4_pairRests_59 (Nat.le_of_ble_eq_true rfl) rfl ?_
        refine PW_iload dX4_pairRests_61 rfl ?_
        refine PW_if_ne 75 dX4_pairRests_63 (by decide) (fun h63 => ?_) (fun h63 => ?_)
        · refine PW_iconst (v := 0) dX4_pairRests_75 (by decide) ?_
          refine PW_ireturn rfl (rfl) dX4_pairRests_76 (Nat.le_of_ble_eq_true rfl) (Nat.le_of_ble_eq_true rfl) ?_
          refine rt_i ?_
          unfold eatB
          simp_all [b2i]
        · refine PW_iload dX4_pairRests_66 rfl ?_
          refine PW_if_ne 75 dX4_pairRests_68 (by decide) (fun h68 => ?_) (fun h68 => ?_)
          · refine PW_iconst (v := 0) dX4_pairRests_75 (by decide) ?_
            refine PW_ireturn rfl (rfl) dX4_pairRests_76 (Nat.le_of_ble_eq_true rfl) (Nat.le_of_ble_eq_true rfl) ?_
            refine rt_i ?_
            unfold eatB
            simp_all [b2i]
          · refine PW_iconst (v := 1) dX4_pairRests_71 (by decide) ?_
            refine PW_goto 76 dX4_pairRests_72 (by decide) ?_
            refine PW_ireturn rfl (rfl) dX4_pairRests_76 (Nat.le_of_ble_eq_true rfl) (Nat.le_of_ble_eq_true rfl) ?_
            refine rt_i ?_
            unfold eatB
            simp_all [b2i]
      · have h38 : stw h (prS (hf h) k l q) = l + 1 := (pI_eq (k := l) (by have := stw_le h (prS (hf h) k l q); have := hV.1; omega) (by have := hV.1; omega)).mp h38.symm
        refine PW_aload_n (i := 0) dX4_pairRests_41 rfl rfl ?_
        refine PW_iload_n (i := 1) dX4_pairRests_42 rfl rfl ?_
        refine PW_iload_n (i := 2) dX4_pairRests_43 rfl rfl ?_
        refine PW_iload_n (i := 3) dX4_pairRests_44 rfl rfl ?_
        refine PW_iconst (v := 2) dX4_pairRests_45 (by decide) ?_
        refine PW_ixor dX4_pairRests_46 ?_
        refine PW_eqi (x4 q hq9).2.1 ?_
        refine PW_callV dX4_pairRests_47 moX4_steererByPair cv4_79 (hS.1) (by omega) rfl rfl (Nat.le_of_ble_eq_true rfl) (Nat.le_of_ble_eq_true rfl) (Nat.le_of_ble_eq_true rfl) (spX4_steererByPair (d := d - 1) (by omega) hK0 hS hR hV hb hk hl (x4 q hq9).2.2.2) (fun v M1 hq => ?_)
        obtain ⟨rfl, rfl⟩ := hq
        refine PW_iload_n (i := 2) dX4_pairRests_50 rfl rfl ?_
        refine PW_icmp_eq 58 dX4_pairRests_51 (by decide) (fun h51 => ?_) (fun h51 => ?_)
        · have h51 : stw h (prS (hf h) k l (q ^^^ 2)) = l + 1 := (pI_eq (k := l) (by have := stw_le h (prS (hf h) k l (q ^^^ 2)); have := hV.1; omega) (by have := hV.1; omega)).mp h51.symm
          refine PW_iconst (v := 0) dX4_pairRests_58 (by decide) ?_
          refine PW_istore dX4_pairRests_59 (Nat.le_of_ble_eq_true rfl) rfl ?_
          refine PW_iload dX4_pairRests_61 rfl ?_
          refine PW_if_ne 75 dX4_pairRests_63 (by decide) (fun h63 => ?_) (fun h63 => ?_)
          · refine PW_iconst (v := 0) dX4_pairRests_75 (by decide) ?_
            refine PW_ireturn rfl (rfl) dX4_pairRests_76 (Nat.le_of_ble_eq_true rfl) (Nat.le_of_ble_eq_true rfl) ?_
            refine rt_i ?_
            unfold eatB
            simp_all [b2i]
          · refine PW_iload dX4_pairRests_66 rfl ?_
            refine PW_if_ne 75 dX4_pairRests_68 (by decide) (fun h68 => ?_) (fun h68 => ?_)
            · refine PW_iconst (v := 0) dX4_pairRests_75 (by decide) ?_
              refine PW_ireturn rfl (rfl) dX4_pairRests_76 (Nat.le_of_ble_eq_true rfl) (Nat.le_of_ble_eq_true rfl) ?_
              refine rt_i ?_
              unfold eatB
              simp_all [b2i]
            · refine PW_iconst (v := 1) dX4_pairRests_71 (by decide) ?_
              refine PW_goto 76 dX4_pairRests_72 (by decide) ?_
              refine PW_ireturn rfl (rfl) dX4_pairRests_76 (Nat.le_of_ble_eq_true rfl) (Nat.le_of_ble_eq_true rfl) ?_
              refine rt_i ?_
              unfold eatB
              simp_all [b2i]
        · have h51 : ¬ stw h (prS (hf h) k l (q ^^^ 2)) = l + 1 := fun z => h51 ((pI_eq (k := l) (by have := stw_le h (prS (hf h) k l (q ^^^ 2)); have := hV.1; omega) (by have := hV.1; omega)).mpr z).symm
          refine PW_iconst (v := 1) dX4_pairRests_54 (by decide) ?_
          refine PW_goto 59 dX4_pairRests_55 (by decide) ?_
          refine PW_istore dX4_pairRests_59 (Nat.le_of_ble_eq_true rfl) rfl ?_
          refine PW_iload dX4_pairRests_61 rfl ?_
          refine PW_if_ne 75 dX4_pairRests_63 (by decide) (fun h63 => ?_) (fun h63 => ?_)
          · refine PW_iconst (v := 0) dX4_pairRests_75 (by decide) ?_
            refine PW_ireturn rfl (rfl) dX4_pairRests_76 (Nat.le_of_ble_eq_true rfl) (Nat.le_of_ble_eq_true rfl) ?_
            refine rt_i ?_
            unfold eatB
            simp_all [b2i]
          · refine PW_iload dX4_pairRests_66 rfl ?_
            refine PW_if_ne 75 dX4_pairRests_68 (by decide) (fun h68 => ?_) (fun h68 => ?_)
            · refine PW_iconst (v := 0) dX4_pairRests_75 (by decide) ?_
              refine PW_ireturn rfl (rfl) dX4_pairRests_76 (Nat.le_of_ble_eq_true rfl) (Nat.le_of_ble_eq_true rfl) ?_
              refine rt_i ?_
              unfold eatB
              simp_all [b2i]
            · refine PW_iconst (v := 1) dX4_pairRests_71 (by decide) ?_
              refine PW_goto 76 dX4_pairRests_72 (by decide) ?_
              refine PW_ireturn rfl (rfl) dX4_pairRests_76 (Nat.le_of_ble_eq_true rfl) (Nat.le_of_ble_eq_true rfl) ?_
              refine rt_i ?_
              unfold eatB
              simp_all [b2i]
end
