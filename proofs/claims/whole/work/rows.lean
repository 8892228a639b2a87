section
-- ===== PART A: goes FIRST, ahead of the names: the tables' words, and 'selects' of the private methods out of them =====
/-- a private method of a class that the tables say can be made, by its rows of tables_1 -/
def lw_okq (q : MethodName × Nat) : Prop := (q.1.cls ≠ "java/lang/invoke/MethodHandle" ∧ q.1.cls ≠ "java/lang/invoke/VarHandle") ∧ Cond.instantiable q.1.cls q.2 ∈ tables_1 ∧ Cond.privateMethod q.1 ∈ tables_1 ∧ Cond.instanceMethod q.1 ∈ tables_1
theorem lw_p0 : lw_okq (⟨"LimbScore", "isSpan", "(II)Z"⟩, 9) := ⟨⟨by decide +kernel, by decide +kernel⟩, List.mem_of_getElem? (i := 14) (by decide +kernel), List.mem_of_getElem? (i := 214) (by decide +kernel), List.mem_of_getElem? (i := 215) (by decide +kernel)⟩
theorem lw_p1 : lw_okq (⟨"LimbScore", "isBeat", "(I)Z"⟩, 9) := ⟨⟨by decide +kernel, by decide +kernel⟩, List.mem_of_getElem? (i := 14) (by decide +kernel), List.mem_of_getElem? (i := 218) (by decide +kernel), List.mem_of_getElem? (i := 219) (by decide +kernel)⟩
theorem lw_p2 : lw_okq (⟨"LimbScore", "addSign", "(I)I"⟩, 9) := ⟨⟨by decide +kernel, by decide +kernel⟩, List.mem_of_getElem? (i := 14) (by decide +kernel), List.mem_of_getElem? (i := 228) (by decide +kernel), List.mem_of_getElem? (i := 229) (by decide +kernel)⟩
theorem lw_p3 : lw_okq (⟨"LimbScore", "isPhrase", "(II)Z"⟩, 9) := ⟨⟨by decide +kernel, by decide +kernel⟩, List.mem_of_getElem? (i := 14) (by decide +kernel), List.mem_of_getElem? (i := 289) (by decide +kernel), List.mem_of_getElem? (i := 290) (by decide +kernel)⟩
theorem lw_p4 : lw_okq (⟨"LimbScore", "canTryPhrase", "()Z"⟩, 9) := ⟨⟨by decide +kernel, by decide +kernel⟩, List.mem_of_getElem? (i := 14) (by decide +kernel), List.mem_of_getElem? (i := 340) (by decide +kernel), List.mem_of_getElem? (i := 341) (by decide +kernel)⟩
theorem lw_p5 : lw_okq (⟨"LimbScore$Script", "readItem", "(LLimbScore$Score;)Z"⟩, 4) := ⟨⟨by decide +kernel, by decide +kernel⟩, List.mem_of_getElem? (i := 144) (by decide +kernel), List.mem_of_getElem? (i := 365) (by decide +kernel), List.mem_of_getElem? (i := 366) (by decide +kernel)⟩
theorem lw_p6 : lw_okq (⟨"LimbScore$Script", "readDigit", "()I"⟩, 4) := ⟨⟨by decide +kernel, by decide +kernel⟩, List.mem_of_getElem? (i := 144) (by decide +kernel), List.mem_of_getElem? (i := 369) (by decide +kernel), List.mem_of_getElem? (i := 370) (by decide +kernel)⟩
theorem lw_p7 : lw_okq (⟨"LimbScore$Script", "digitAt", "(I)I"⟩, 4) := ⟨⟨by decide +kernel, by decide +kernel⟩, List.mem_of_getElem? (i := 144) (by decide +kernel), List.mem_of_getElem? (i := 373) (by decide +kernel), List.mem_of_getElem? (i := 374) (by decide +kernel)⟩
theorem lw_p8 : lw_okq (⟨"LimbScore$Script", "readCharacter", "()I"⟩, 4) := ⟨⟨by decide +kernel, by decide +kernel⟩, List.mem_of_getElem? (i := 144) (by decide +kernel), List.mem_of_getElem? (i := 378) (by decide +kernel), List.mem_of_getElem? (i := 379) (by decide +kernel)⟩
theorem lw_p9 : lw_okq (⟨"LimbScore$Script", "readSign", "(III)I"⟩, 4) := ⟨⟨by decide +kernel, by decide +kernel⟩, List.mem_of_getElem? (i := 144) (by decide +kernel), List.mem_of_getElem? (i := 382) (by decide +kernel), List.mem_of_getElem? (i := 383) (by decide +kernel)⟩
theorem lw_p10 : lw_okq (⟨"LimbScore$Script", "readMove", "(II)I"⟩, 4) := ⟨⟨by decide +kernel, by decide +kernel⟩, List.mem_of_getElem? (i := 144) (by decide +kernel), List.mem_of_getElem? (i := 386) (by decide +kernel), List.mem_of_getElem? (i := 387) (by decide +kernel)⟩
theorem lw_p11 : lw_okq (⟨"LimbScore$Script", "readLength", "()I"⟩, 4) := ⟨⟨by decide +kernel, by decide +kernel⟩, List.mem_of_getElem? (i := 144) (by decide +kernel), List.mem_of_getElem? (i := 393) (by decide +kernel), List.mem_of_getElem? (i := 394) (by decide +kernel)⟩
theorem lw_p12 : lw_okq (⟨"LimbScore$Script", "readTurn", "(II)I"⟩, 4) := ⟨⟨by decide +kernel, by decide +kernel⟩, List.mem_of_getElem? (i := 144) (by decide +kernel), List.mem_of_getElem? (i := 400) (by decide +kernel), List.mem_of_getElem? (i := 401) (by decide +kernel)⟩
theorem lw_p13 : lw_okq (⟨"LimbScore$Weight", "weighSide", "(LLimbScore$Score;I)V"⟩, 7) := ⟨⟨by decide +kernel, by decide +kernel⟩, List.mem_of_getElem? (i := 70) (by decide +kernel), List.mem_of_getElem? (i := 459) (by decide +kernel), List.mem_of_getElem? (i := 460) (by decide +kernel)⟩
theorem lw_p14 : lw_okq (⟨"LimbScore$Weight", "measureFlights", "()V"⟩, 7) := ⟨⟨by decide +kernel, by decide +kernel⟩, List.mem_of_getElem? (i := 70) (by decide +kernel), List.mem_of_getElem? (i := 475) (by decide +kernel), List.mem_of_getElem? (i := 476) (by decide +kernel)⟩
theorem lw_p15 : lw_okq (⟨"LimbScore$Walk", "noteEnd", "(I)V"⟩, 6) := ⟨⟨by decide +kernel, by decide +kernel⟩, List.mem_of_getElem? (i := 100) (by decide +kernel), List.mem_of_getElem? (i := 542) (by decide +kernel), List.mem_of_getElem? (i := 543) (by decide +kernel)⟩
def lw_privs_1 : List (MethodName × Nat) := [(⟨"LimbScore", "isSpan", "(II)Z"⟩, 9), (⟨"LimbScore", "isBeat", "(I)Z"⟩, 9), (⟨"LimbScore", "addSign", "(I)I"⟩, 9), (⟨"LimbScore", "isPhrase", "(II)Z"⟩, 9), (⟨"LimbScore", "canTryPhrase", "()Z"⟩, 9), (⟨"LimbScore$Script", "readItem", "(LLimbScore$Score;)Z"⟩, 4), (⟨"LimbScore$Script", "readDigit", "()I"⟩, 4), (⟨"LimbScore$Script", "digitAt", "(I)I"⟩, 4), (⟨"LimbScore$Script", "readCharacter", "()I"⟩, 4), (⟨"LimbScore$Script", "readSign", "(III)I"⟩, 4), (⟨"LimbScore$Script", "readMove", "(II)I"⟩, 4), (⟨"LimbScore$Script", "readLength", "()I"⟩, 4), (⟨"LimbScore$Script", "readTurn", "(II)I"⟩, 4), (⟨"LimbScore$Weight", "weighSide", "(LLimbScore$Score;I)V"⟩, 7), (⟨"LimbScore$Weight", "measureFlights", "()V"⟩, 7), (⟨"LimbScore$Walk", "noteEnd", "(I)V"⟩, 6)]
theorem lw_r1 : ∀ q ∈ lw_privs_1, lw_okq q := List.forall_mem_cons.mpr ⟨lw_p0, List.forall_mem_cons.mpr ⟨lw_p1, List.forall_mem_cons.mpr ⟨lw_p2, List.forall_mem_cons.mpr ⟨lw_p3, List.forall_mem_cons.mpr ⟨lw_p4, List.forall_mem_cons.mpr ⟨lw_p5, List.forall_mem_cons.mpr ⟨lw_p6, List.forall_mem_cons.mpr ⟨lw_p7, List.forall_mem_cons.mpr ⟨lw_p8, List.forall_mem_cons.mpr ⟨lw_p9, List.forall_mem_cons.mpr ⟨lw_p10, List.forall_mem_cons.mpr ⟨lw_p11, List.forall_mem_cons.mpr ⟨lw_p12, List.forall_mem_cons.mpr ⟨lw_p13, List.forall_mem_cons.mpr ⟨lw_p14, List.forall_mem_cons.mpr ⟨lw_p15, fun _ h => absurd h List.not_mem_nil⟩⟩⟩⟩⟩⟩⟩⟩⟩⟩⟩⟩⟩⟩⟩⟩
theorem lw_p16 : lw_okq (⟨"LimbScore$Walk", "noteStep", "(II)V"⟩, 6) := ⟨⟨by decide +kernel, by decide +kernel⟩, List.mem_of_getElem? (i := 100) (by decide +kernel), List.mem_of_getElem? (i := 549) (by decide +kernel), List.mem_of_getElem? (i := 550) (by decide +kernel)⟩
theorem lw_p17 : lw_okq (⟨"LimbScore$Walk", "step", "(III)V"⟩, 6) := ⟨⟨by decide +kernel, by decide +kernel⟩, List.mem_of_getElem? (i := 100) (by decide +kernel), List.mem_of_getElem? (i := 557) (by decide +kernel), List.mem_of_getElem? (i := 558) (by decide +kernel)⟩
theorem lw_p18 : lw_okq (⟨"LimbScoreModel", "records", "()V"⟩, 10) := ⟨⟨by decide +kernel, by decide +kernel⟩, List.mem_of_getElem? (i := 624) (by decide +kernel), List.mem_of_getElem? (i := 669) (by decide +kernel), List.mem_of_getElem? (i := 670) (by decide +kernel)⟩
theorem lw_p19 : lw_okq (⟨"LimbScoreModel", "isSpan", "(II)Z"⟩, 10) := ⟨⟨by decide +kernel, by decide +kernel⟩, List.mem_of_getElem? (i := 624) (by decide +kernel), List.mem_of_getElem? (i := 677) (by decide +kernel), List.mem_of_getElem? (i := 678) (by decide +kernel)⟩
theorem lw_p20 : lw_okq (⟨"LimbScoreModel", "isBeat", "(I)Z"⟩, 10) := ⟨⟨by decide +kernel, by decide +kernel⟩, List.mem_of_getElem? (i := 624) (by decide +kernel), List.mem_of_getElem? (i := 681) (by decide +kernel), List.mem_of_getElem? (i := 682) (by decide +kernel)⟩
theorem lw_p21 : lw_okq (⟨"LimbScoreModel", "adds", "(IIIIII)I"⟩, 10) := ⟨⟨by decide +kernel, by decide +kernel⟩, List.mem_of_getElem? (i := 624) (by decide +kernel), List.mem_of_getElem? (i := 685) (by decide +kernel), List.mem_of_getElem? (i := 686) (by decide +kernel)⟩
theorem lw_p22 : lw_okq (⟨"LimbScoreModel", "isFree", "(III)Z"⟩, 10) := ⟨⟨by decide +kernel, by decide +kernel⟩, List.mem_of_getElem? (i := 624) (by decide +kernel), List.mem_of_getElem? (i := 689) (by decide +kernel), List.mem_of_getElem? (i := 690) (by decide +kernel)⟩
theorem lw_p23 : lw_okq (⟨"LimbScoreModel", "fills", "()V"⟩, 10) := ⟨⟨by decide +kernel, by decide +kernel⟩, List.mem_of_getElem? (i := 624) (by decide +kernel), List.mem_of_getElem? (i := 693) (by decide +kernel), List.mem_of_getElem? (i := 694) (by decide +kernel)⟩
theorem lw_p24 : lw_okq (⟨"LimbScoreModel", "covering", "(II)I"⟩, 10) := ⟨⟨by decide +kernel, by decide +kernel⟩, List.mem_of_getElem? (i := 624) (by decide +kernel), List.mem_of_getElem? (i := 697) (by decide +kernel), List.mem_of_getElem? (i := 698) (by decide +kernel)⟩
theorem lw_p25 : lw_okq (⟨"LimbScoreModel", "puts", "(IIIIII)I"⟩, 10) := ⟨⟨by decide +kernel, by decide +kernel⟩, List.mem_of_getElem? (i := 624) (by decide +kernel), List.mem_of_getElem? (i := 701) (by decide +kernel), List.mem_of_getElem? (i := 702) (by decide +kernel)⟩
theorem lw_p26 : lw_okq (⟨"LimbScoreModel", "isSign", "(I)Z"⟩, 10) := ⟨⟨by decide +kernel, by decide +kernel⟩, List.mem_of_getElem? (i := 624) (by decide +kernel), List.mem_of_getElem? (i := 724) (by decide +kernel), List.mem_of_getElem? (i := 725) (by decide +kernel)⟩
theorem lw_p27 : lw_okq (⟨"LimbScoreModel", "collects", "(IIIZZ)I"⟩, 10) := ⟨⟨by decide +kernel, by decide +kernel⟩, List.mem_of_getElem? (i := 624) (by decide +kernel), List.mem_of_getElem? (i := 732) (by decide +kernel), List.mem_of_getElem? (i := 733) (by decide +kernel)⟩
theorem lw_p28 : lw_okq (⟨"LimbScoreModel", "endOf", "(I)I"⟩, 10) := ⟨⟨by decide +kernel, by decide +kernel⟩, List.mem_of_getElem? (i := 624) (by decide +kernel), List.mem_of_getElem? (i := 736) (by decide +kernel), List.mem_of_getElem? (i := 737) (by decide +kernel)⟩
theorem lw_p29 : lw_okq (⟨"LimbScoreModel", "feet", "(I)I"⟩, 10) := ⟨⟨by decide +kernel, by decide +kernel⟩, List.mem_of_getElem? (i := 624) (by decide +kernel), List.mem_of_getElem? (i := 770) (by decide +kernel), List.mem_of_getElem? (i := 771) (by decide +kernel)⟩
theorem lw_p30 : lw_okq (⟨"LimbScoreModel", "isBearing", "(II)Z"⟩, 10) := ⟨⟨by decide +kernel, by decide +kernel⟩, List.mem_of_getElem? (i := 624) (by decide +kernel), List.mem_of_getElem? (i := 774) (by decide +kernel), List.mem_of_getElem? (i := 775) (by decide +kernel)⟩
theorem lw_p31 : lw_okq (⟨"LimbScoreModel", "twice", "(I)I"⟩, 10) := ⟨⟨by decide +kernel, by decide +kernel⟩, List.mem_of_getElem? (i := 624) (by decide +kernel), List.mem_of_getElem? (i := 782) (by decide +kernel), List.mem_of_getElem? (i := 783) (by decide +kernel)⟩
def lw_privs_2 : List (MethodName × Nat) := [(⟨"LimbScore$Walk", "noteStep", "(II)V"⟩, 6), (⟨"LimbScore$Walk", "step", "(III)V"⟩, 6), (⟨"LimbScoreModel", "records", "()V"⟩, 10), (⟨"LimbScoreModel", "isSpan", "(II)Z"⟩, 10), (⟨"LimbScoreModel", "isBeat", "(I)Z"⟩, 10), (⟨"LimbScoreModel", "adds", "(IIIIII)I"⟩, 10), (⟨"LimbScoreModel", "isFree", "(III)Z"⟩, 10), (⟨"LimbScoreModel", "fills", "()V"⟩, 10), (⟨"LimbScoreModel", "covering", "(II)I"⟩, 10), (⟨"LimbScoreModel", "puts", "(IIIIII)I"⟩, 10), (⟨"LimbScoreModel", "isSign", "(I)Z"⟩, 10), (⟨"LimbScoreModel", "collects", "(IIIZZ)I"⟩, 10), (⟨"LimbScoreModel", "endOf", "(I)I"⟩, 10), (⟨"LimbScoreModel", "feet", "(I)I"⟩, 10), (⟨"LimbScoreModel", "isBearing", "(II)Z"⟩, 10), (⟨"LimbScoreModel", "twice", "(I)I"⟩, 10)]
theorem lw_r2 : ∀ q ∈ lw_privs_2, lw_okq q := List.forall_mem_cons.mpr ⟨lw_p16, List.forall_mem_cons.mpr ⟨lw_p17, List.forall_mem_cons.mpr ⟨lw_p18, List.forall_mem_cons.mpr ⟨lw_p19, List.forall_mem_cons.mpr ⟨lw_p20, List.forall_mem_cons.mpr ⟨lw_p21, List.forall_mem_cons.mpr ⟨lw_p22, List.forall_mem_cons.mpr ⟨lw_p23, List.forall_mem_cons.mpr ⟨lw_p24, List.forall_mem_cons.mpr ⟨lw_p25, List.forall_mem_cons.mpr ⟨lw_p26, List.forall_mem_cons.mpr ⟨lw_p27, List.forall_mem_cons.mpr ⟨lw_p28, List.forall_mem_cons.mpr ⟨lw_p29, List.forall_mem_cons.mpr ⟨lw_p30, List.forall_mem_cons.mpr ⟨lw_p31, fun _ h => absurd h List.not_mem_nil⟩⟩⟩⟩⟩⟩⟩⟩⟩⟩⟩⟩⟩⟩⟩⟩
theorem lw_p32 : lw_okq (⟨"LimbScoreModel", "isTwice", "(II)Z"⟩, 10) := ⟨⟨by decide +kernel, by decide +kernel⟩, List.mem_of_getElem? (i := 624) (by decide +kernel), List.mem_of_getElem? (i := 786) (by decide +kernel), List.mem_of_getElem? (i := 787) (by decide +kernel)⟩
theorem lw_p33 : lw_okq (⟨"LimbScoreModel", "isWrong", "(I)Z"⟩, 10) := ⟨⟨by decide +kernel, by decide +kernel⟩, List.mem_of_getElem? (i := 624) (by decide +kernel), List.mem_of_getElem? (i := 794) (by decide +kernel), List.mem_of_getElem? (i := 795) (by decide +kernel)⟩
theorem lw_p34 : lw_okq (⟨"LimbScoreModel", "flight", "(I)I"⟩, 10) := ⟨⟨by decide +kernel, by decide +kernel⟩, List.mem_of_getElem? (i := 624) (by decide +kernel), List.mem_of_getElem? (i := 798) (by decide +kernel), List.mem_of_getElem? (i := 799) (by decide +kernel)⟩
theorem lw_p35 : lw_okq (⟨"LimbScoreModel", "facing", "(I)I"⟩, 10) := ⟨⟨by decide +kernel, by decide +kernel⟩, List.mem_of_getElem? (i := 624) (by decide +kernel), List.mem_of_getElem? (i := 823) (by decide +kernel), List.mem_of_getElem? (i := 824) (by decide +kernel)⟩
theorem lw_p36 : lw_okq (⟨"LimbScoreModel", "place", "(IZ)I"⟩, 10) := ⟨⟨by decide +kernel, by decide +kernel⟩, List.mem_of_getElem? (i := 624) (by decide +kernel), List.mem_of_getElem? (i := 827) (by decide +kernel), List.mem_of_getElem? (i := 828) (by decide +kernel)⟩
theorem lw_p37 : lw_okq (⟨"LimbScoreModel", "isTogether", "(I)Z"⟩, 10) := ⟨⟨by decide +kernel, by decide +kernel⟩, List.mem_of_getElem? (i := 624) (by decide +kernel), List.mem_of_getElem? (i := 834) (by decide +kernel), List.mem_of_getElem? (i := 835) (by decide +kernel)⟩
theorem lw_p38 : lw_okq (⟨"LimbScoreModel", "isLike", "(IIIZ)Z"⟩, 10) := ⟨⟨by decide +kernel, by decide +kernel⟩, List.mem_of_getElem? (i := 624) (by decide +kernel), List.mem_of_getElem? (i := 853) (by decide +kernel), List.mem_of_getElem? (i := 854) (by decide +kernel)⟩
theorem lw_p39 : lw_okq (⟨"LimbScoreModel", "keeps", "()V"⟩, 10) := ⟨⟨by decide +kernel, by decide +kernel⟩, List.mem_of_getElem? (i := 624) (by decide +kernel), List.mem_of_getElem? (i := 869) (by decide +kernel), List.mem_of_getElem? (i := 870) (by decide +kernel)⟩
theorem lw_p40 : lw_okq (⟨"LimbScoreModel", "reads", "()I"⟩, 10) := ⟨⟨by decide +kernel, by decide +kernel⟩, List.mem_of_getElem? (i := 624) (by decide +kernel), List.mem_of_getElem? (i := 873) (by decide +kernel), List.mem_of_getElem? (i := 874) (by decide +kernel)⟩
theorem lw_p41 : lw_okq (⟨"LimbScoreModel", "readsItem", "()Z"⟩, 10) := ⟨⟨by decide +kernel, by decide +kernel⟩, List.mem_of_getElem? (i := 624) (by decide +kernel), List.mem_of_getElem? (i := 877) (by decide +kernel), List.mem_of_getElem? (i := 878) (by decide +kernel)⟩
theorem lw_p42 : lw_okq (⟨"LimbScoreModel", "digit", "(II)I"⟩, 10) := ⟨⟨by decide +kernel, by decide +kernel⟩, List.mem_of_getElem? (i := 624) (by decide +kernel), List.mem_of_getElem? (i := 881) (by decide +kernel), List.mem_of_getElem? (i := 882) (by decide +kernel)⟩
theorem lw_p43 : lw_okq (⟨"LimbScoreModel", "here", "()I"⟩, 10) := ⟨⟨by decide +kernel, by decide +kernel⟩, List.mem_of_getElem? (i := 624) (by decide +kernel), List.mem_of_getElem? (i := 885) (by decide +kernel), List.mem_of_getElem? (i := 886) (by decide +kernel)⟩
theorem lw_p44 : lw_okq (⟨"LimbScoreModel", "passes", "(I)Z"⟩, 10) := ⟨⟨by decide +kernel, by decide +kernel⟩, List.mem_of_getElem? (i := 624) (by decide +kernel), List.mem_of_getElem? (i := 889) (by decide +kernel), List.mem_of_getElem? (i := 890) (by decide +kernel)⟩
theorem lw_p45 : lw_okq (⟨"LimbScoreModel", "readsMove", "(I)Z"⟩, 10) := ⟨⟨by decide +kernel, by decide +kernel⟩, List.mem_of_getElem? (i := 624) (by decide +kernel), List.mem_of_getElem? (i := 893) (by decide +kernel), List.mem_of_getElem? (i := 894) (by decide +kernel)⟩
theorem lw_p46 : lw_okq (⟨"LimbScoreModel", "length", "()I"⟩, 10) := ⟨⟨by decide +kernel, by decide +kernel⟩, List.mem_of_getElem? (i := 624) (by decide +kernel), List.mem_of_getElem? (i := 897) (by decide +kernel), List.mem_of_getElem? (i := 898) (by decide +kernel)⟩
theorem lw_p47 : lw_okq (⟨"LimbScoreModel", "lays", "(IIIII)Z"⟩, 10) := ⟨⟨by decide +kernel, by decide +kernel⟩, List.mem_of_getElem? (i := 624) (by decide +kernel), List.mem_of_getElem? (i := 901) (by decide +kernel), List.mem_of_getElem? (i := 902) (by decide +kernel)⟩
def lw_privs_3 : List (MethodName × Nat) := [(⟨"LimbScoreModel", "isTwice", "(II)Z"⟩, 10), (⟨"LimbScoreModel", "isWrong", "(I)Z"⟩, 10), (⟨"LimbScoreModel", "flight", "(I)I"⟩, 10), (⟨"LimbScoreModel", "facing", "(I)I"⟩, 10), (⟨"LimbScoreModel", "place", "(IZ)I"⟩, 10), (⟨"LimbScoreModel", "isTogether", "(I)Z"⟩, 10), (⟨"LimbScoreModel", "isLike", "(IIIZ)Z"⟩, 10), (⟨"LimbScoreModel", "keeps", "()V"⟩, 10), (⟨"LimbScoreModel", "reads", "()I"⟩, 10), (⟨"LimbScoreModel", "readsItem", "()Z"⟩, 10), (⟨"LimbScoreModel", "digit", "(II)I"⟩, 10), (⟨"LimbScoreModel", "here", "()I"⟩, 10), (⟨"LimbScoreModel", "passes", "(I)Z"⟩, 10), (⟨"LimbScoreModel", "readsMove", "(I)Z"⟩, 10), (⟨"LimbScoreModel", "length", "()I"⟩, 10), (⟨"LimbScoreModel", "lays", "(IIIII)Z"⟩, 10)]
theorem lw_r3 : ∀ q ∈ lw_privs_3, lw_okq q := List.forall_mem_cons.mpr ⟨lw_p32, List.forall_mem_cons.mpr ⟨lw_p33, List.forall_mem_cons.mpr ⟨lw_p34, List.forall_mem_cons.mpr ⟨lw_p35, List.forall_mem_cons.mpr ⟨lw_p36, List.forall_mem_cons.mpr ⟨lw_p37, List.forall_mem_cons.mpr ⟨lw_p38, List.forall_mem_cons.mpr ⟨lw_p39, List.forall_mem_cons.mpr ⟨lw_p40, List.forall_mem_cons.mpr ⟨lw_p41, List.forall_mem_cons.mpr ⟨lw_p42, List.forall_mem_cons.mpr ⟨lw_p43, List.forall_mem_cons.mpr ⟨lw_p44, List.forall_mem_cons.mpr ⟨lw_p45, List.forall_mem_cons.mpr ⟨lw_p46, List.forall_mem_cons.mpr ⟨lw_p47, fun _ h => absurd h List.not_mem_nil⟩⟩⟩⟩⟩⟩⟩⟩⟩⟩⟩⟩⟩⟩⟩⟩
theorem lw_p48 : lw_okq (⟨"LimbScoreModel", "readsTurn", "(I)Z"⟩, 10) := ⟨⟨by decide +kernel, by decide +kernel⟩, List.mem_of_getElem? (i := 624) (by decide +kernel), List.mem_of_getElem? (i := 905) (by decide +kernel), List.mem_of_getElem? (i := 906) (by decide +kernel)⟩
theorem lw_p49 : lw_okq (⟨"LimbScoreModel", "swaps", "()V"⟩, 10) := ⟨⟨by decide +kernel, by decide +kernel⟩, List.mem_of_getElem? (i := 624) (by decide +kernel), List.mem_of_getElem? (i := 909) (by decide +kernel), List.mem_of_getElem? (i := 910) (by decide +kernel)⟩
def lw_privs_4 : List (MethodName × Nat) := [(⟨"LimbScoreModel", "readsTurn", "(I)Z"⟩, 10), (⟨"LimbScoreModel", "swaps", "()V"⟩, 10)]
theorem lw_r4 : ∀ q ∈ lw_privs_4, lw_okq q := List.forall_mem_cons.mpr ⟨lw_p48, List.forall_mem_cons.mpr ⟨lw_p49, fun _ h => absurd h List.not_mem_nil⟩⟩
def lw_privs : List (MethodName × Nat) := lw_privs_1 ++ (lw_privs_2 ++ (lw_privs_3 ++ (lw_privs_4)))
def lw_tbl : List Cond := k2_sels lw_privs ++ tables_1
theorem lw_privs_ok : ∀ q ∈ lw_privs, lw_okq q := by
  show ∀ q ∈ lw_privs_1 ++ (lw_privs_2 ++ (lw_privs_3 ++ (lw_privs_4))), lw_okq q
  exact List.forall_mem_append.mpr ⟨lw_r1, List.forall_mem_append.mpr ⟨lw_r2, List.forall_mem_append.mpr ⟨lw_r3, lw_r4⟩⟩⟩
def RX0 : String := "LimbScore$Comparison"
def TX0 : u_T := fun k => match k with
  | 0 => ("LimbScore$Comparison", "row", "[I", true)
  | 1 => ("LimbScore$Comparison", "otherRow", "[I", true)
  | _ => ("LimbScore$Comparison", "differences", "[I", true)
def tyX0 : Nat → FieldType := fun k => match k with
  | 0 => .array .int
  | 1 => .array .int
  | _ => .array .int
abbrev wsX00 : List Cond := u_ws RX0 TX0 3
theorem nmX0 : ∀ a, a < 3 → ∀ b, b < 3 → a ≠ b → (TX0 a).2.1 ≠ (TX0 b).2.1 := by decide +kernel
theorem tyX0_ok : ∀ k, k < 3 → parseFieldDescriptor (TX0 k).2.2.1 = some (tyX0 k) := by decide +kernel
abbrev cX0_init : ByteArray := prog_2_method_1_code
def yX0_init : MethodName := ⟨RX0, "<init>", "()V"⟩
abbrev cX0_begin : ByteArray := prog_2_method_2_code
def yX0_begin : MethodName := ⟨RX0, "begin", "()V"⟩
abbrev cX0_compare : ByteArray := prog_2_method_3_code
def yX0_compare : MethodName := ⟨RX0, "compare", "(LLimbScore$Score;IIIZ)V"⟩
abbrev cX0_alikeBeats : ByteArray := prog_2_method_4_code
def yX0_alikeBeats : MethodName := ⟨RX0, "alikeBeats", "(I)I"⟩
def RX1 : String := "LimbScore$History"
def TX1 : u_T := fun k => match k with
  | 0 => ("LimbScore$History", "size", "I", false)
  | _ => ("LimbScore$History", "states", "[I", true)
def tyX1 : Nat → FieldType := fun k => match k with
  | 0 => .int
  | _ => .array .int
abbrev wsX10 : List Cond := u_ws RX1 TX1 2
theorem nmX1 : ∀ a, a < 2 → ∀ b, b < 2 → a ≠ b → (TX1 a).2.1 ≠ (TX1 b).2.1 := by decide +kernel
theorem tyX1_ok : ∀ k, k < 2 → parseFieldDescriptor (TX1 k).2.2.1 = some (tyX1 k) := by decide +kernel
abbrev cX1_init : ByteArray := prog_3_method_1_code
def yX1_init : MethodName := ⟨RX1, "<init>", "()V"⟩
abbrev cX1_keep : ByteArray := prog_3_method_2_code
def yX1_keep : MethodName := ⟨RX1, "keep", "(LLimbScore$Score;)V"⟩
abbrev cX1_restore : ByteArray := prog_3_method_3_code
def yX1_restore : MethodName := ⟨RX1, "restore", "(LLimbScore$Score;)V"⟩
def RX2 : String := "LimbScore$Score"
def TX2 : u_T := fun k => match k with
  | 0 => ("LimbScore$Score", "length", "I", false)
  | 1 => ("LimbScore$Score", "leap", "I", false)
  | 2 => ("LimbScore$Score", "size", "I", false)
  | _ => ("LimbScore$Score", "signs", "[I", true)
def tyX2 : Nat → FieldType := fun k => match k with
  | 0 => .int
  | 1 => .int
  | 2 => .int
  | _ => .array .int
abbrev wsX20 : List Cond := u_ws RX2 TX2 4
theorem nmX2 : ∀ a, a < 4 → ∀ b, b < 4 → a ≠ b → (TX2 a).2.1 ≠ (TX2 b).2.1 := by decide +kernel
theorem tyX2_ok : ∀ k, k < 4 → parseFieldDescriptor (TX2 k).2.2.1 = some (tyX2 k) := by decide +kernel
abbrev cX2_init : ByteArray := prog_4_method_1_code
def yX2_init : MethodName := ⟨RX2, "<init>", "()V"⟩
abbrev cX2_empty : ByteArray := prog_4_method_2_code
def yX2_empty : MethodName := ⟨RX2, "empty", "(I)V"⟩
abbrev cX2_emptyAs : ByteArray := prog_4_method_3_code
def yX2_emptyAs : MethodName := ⟨RX2, "emptyAs", "(LLimbScore$Score;)V"⟩
abbrev cX2_become : ByteArray := prog_4_method_4_code
def yX2_become : MethodName := ⟨RX2, "become", "(LLimbScore$Score;)V"⟩
abbrev cX2_at : ByteArray := prog_4_method_5_code
def yX2_at : MethodName := ⟨RX2, "at", "(I)I"⟩
abbrev cX2_hasRoomFor : ByteArray := prog_4_method_6_code
def yX2_hasRoomFor : MethodName := ⟨RX2, "hasRoomFor", "(I)Z"⟩
abbrev cX2_put : ByteArray := prog_4_method_7_code
def yX2_put : MethodName := ⟨RX2, "put", "(I)I"⟩
abbrev cX2_takeOut : ByteArray := prog_4_method_8_code
def yX2_takeOut : MethodName := ⟨RX2, "takeOut", "(I)V"⟩
abbrev cX2_endOf : ByteArray := prog_4_method_9_code
def yX2_endOf : MethodName := ⟨RX2, "endOf", "(I)I"⟩
abbrev cX2_numberCovering : ByteArray := prog_4_method_10_code
def yX2_numberCovering : MethodName := ⟨RX2, "numberCovering", "(II)I"⟩
abbrev cX2_fillRow : ByteArray := prog_4_method_11_code
def yX2_fillRow : MethodName := ⟨RX2, "fillRow", "(I[I)V"⟩
def RX3 : String := "LimbScore$Script"
def TX3 : u_T := fun k => match k with
  | 0 => ("LimbScore$Script", "size", "I", false)
  | 1 => ("LimbScore$Script", "position", "I", false)
  | 2 => ("LimbScore$Script", "characters", "[I", true)
  | _ => ("LimbScore$Script", "nextBegins", "[I", true)
def tyX3 : Nat → FieldType := fun k => match k with
  | 0 => .int
  | 1 => .int
  | 2 => .array .int
  | _ => .array .int
abbrev wsX30 : List Cond := u_ws RX3 TX3 4
theorem nmX3 : ∀ a, a < 4 → ∀ b, b < 4 → a ≠ b → (TX3 a).2.1 ≠ (TX3 b).2.1 := by decide +kernel
theorem tyX3_ok : ∀ k, k < 4 → parseFieldDescriptor (TX3 k).2.2.1 = some (tyX3 k) := by decide +kernel
abbrev cX3_init : ByteArray := prog_5_method_1_code
def yX3_init : MethodName := ⟨RX3, "<init>", "()V"⟩
abbrev cX3_append : ByteArray := prog_5_method_2_code
def yX3_append : MethodName := ⟨RX3, "append", "(I)V"⟩
abbrev cX3_readFor : ByteArray := prog_5_method_3_code
def yX3_readFor : MethodName := ⟨RX3, "readFor", "(LLimbScore$Score;LLimbScore$Score;)I"⟩
abbrev cX3_readItem : ByteArray := prog_5_method_4_code
def yX3_readItem : MethodName := ⟨RX3, "readItem", "(LLimbScore$Score;)Z"⟩
abbrev cX3_spanOf : ByteArray := prog_5_method_5_code
def yX3_spanOf : MethodName := ⟨RX3, "spanOf", "(I)I"⟩
abbrev cX3_isTaken : ByteArray := prog_5_method_6_code
def yX3_isTaken : MethodName := ⟨RX3, "isTaken", "(LLimbScore$Score;I)Z"⟩
abbrev cX3_readSign : ByteArray := prog_5_method_7_code
def yX3_readSign : MethodName := ⟨RX3, "readSign", "(III)I"⟩
abbrev cX3_readMove : ByteArray := prog_5_method_8_code
def yX3_readMove : MethodName := ⟨RX3, "readMove", "(II)I"⟩
abbrev cX3_readTurn : ByteArray := prog_5_method_9_code
def yX3_readTurn : MethodName := ⟨RX3, "readTurn", "(II)I"⟩
abbrev cX3_levelNamed : ByteArray := prog_5_method_10_code
def yX3_levelNamed : MethodName := ⟨RX3, "levelNamed", "(I)I"⟩
abbrev cX3_readLength : ByteArray := prog_5_method_11_code
def yX3_readLength : MethodName := ⟨RX3, "readLength", "()I"⟩
abbrev cX3_readDigit : ByteArray := prog_5_method_12_code
def yX3_readDigit : MethodName := ⟨RX3, "readDigit", "()I"⟩
abbrev cX3_readCharacter : ByteArray := prog_5_method_13_code
def yX3_readCharacter : MethodName := ⟨RX3, "readCharacter", "()I"⟩
abbrev cX3_digitAt : ByteArray := prog_5_method_14_code
def yX3_digitAt : MethodName := ⟨RX3, "digitAt", "(I)I"⟩
def RX4 : String := "LimbScore$Sign"
def TX4 : u_T := fun k => match k with
  | _ => ("", "", "", false)
def tyX4 : Nat → FieldType := fun k => match k with
  | _ => .int
abbrev wsX40 : List Cond := u_ws RX4 TX4 0
theorem nmX4 : ∀ a, a < 0 → ∀ b, b < 0 → a ≠ b → (TX4 a).2.1 ≠ (TX4 b).2.1 := by decide +kernel
theorem tyX4_ok : ∀ k, k < 0 → parseFieldDescriptor (TX4 k).2.2.1 = some (tyX4 k) := by decide +kernel
abbrev cX4_move : ByteArray := prog_6_method_2_code
def yX4_move : MethodName := ⟨RX4, "move", "(IIIII)I"⟩
abbrev cX4_hold : ByteArray := prog_6_method_3_code
def yX4_hold : MethodName := ⟨RX4, "hold", "(II)I"⟩
abbrev cX4_turn : ByteArray := prog_6_method_4_code
def yX4_turn : MethodName := ⟨RX4, "turn", "(IIII)I"⟩
abbrev cX4_release : ByteArray := prog_6_method_5_code
def yX4_release : MethodName := ⟨RX4, "release", "(III)I"⟩
abbrev cX4_packed : ByteArray := prog_6_method_6_code
def yX4_packed : MethodName := ⟨RX4, "packed", "(IIIIIII)I"⟩
abbrev cX4_beginOf : ByteArray := prog_6_method_7_code
def yX4_beginOf : MethodName := ⟨RX4, "beginOf", "(I)I"⟩
abbrev cX4_columnOf : ByteArray := prog_6_method_8_code
def yX4_columnOf : MethodName := ⟨RX4, "columnOf", "(I)I"⟩
abbrev cX4_spanOf : ByteArray := prog_6_method_9_code
def yX4_spanOf : MethodName := ⟨RX4, "spanOf", "(I)I"⟩
abbrev cX4_kindOf : ByteArray := prog_6_method_10_code
def yX4_kindOf : MethodName := ⟨RX4, "kindOf", "(I)I"⟩
abbrev cX4_directionOf : ByteArray := prog_6_method_11_code
def yX4_directionOf : MethodName := ⟨RX4, "directionOf", "(I)I"⟩
abbrev cX4_levelOf : ByteArray := prog_6_method_12_code
def yX4_levelOf : MethodName := ⟨RX4, "levelOf", "(I)I"⟩
abbrev cX4_amountOf : ByteArray := prog_6_method_13_code
def yX4_amountOf : MethodName := ⟨RX4, "amountOf", "(I)I"⟩
abbrev cX4_shortEndOf : ByteArray := prog_6_method_14_code
def yX4_shortEndOf : MethodName := ⟨RX4, "shortEndOf", "(I)I"⟩
abbrev cX4_lookOf : ByteArray := prog_6_method_15_code
def yX4_lookOf : MethodName := ⟨RX4, "lookOf", "(I)I"⟩
abbrev cX4_movedTo : ByteArray := prog_6_method_16_code
def yX4_movedTo : MethodName := ⟨RX4, "movedTo", "(II)I"⟩
abbrev cX4_turnedBack : ByteArray := prog_6_method_17_code
def yX4_turnedBack : MethodName := ⟨RX4, "turnedBack", "(I)I"⟩
abbrev cX4_mirrored : ByteArray := prog_6_method_18_code
def yX4_mirrored : MethodName := ⟨RX4, "mirrored", "(I)I"⟩
abbrev cX4_mirroredColumn : ByteArray := prog_6_method_19_code
def yX4_mirroredColumn : MethodName := ⟨RX4, "mirroredColumn", "(I)I"⟩
abbrev cX4_mirroredDirection : ByteArray := prog_6_method_20_code
def yX4_mirroredDirection : MethodName := ⟨RX4, "mirroredDirection", "(I)I"⟩
def RX5 : String := "LimbScore$Walk"
def TX5 : u_T := fun k => match k with
  | 0 => ("LimbScore$Walk", "x", "[I", true)
  | 1 => ("LimbScore$Walk", "y", "[I", true)
  | 2 => ("LimbScore$Walk", "facing", "[I", true)
  | 3 => ("LimbScore$Walk", "turns", "[I", true)
  | 4 => ("LimbScore$Walk", "leftSteps", "[I", true)
  | _ => ("LimbScore$Walk", "rightSteps", "[I", true)
def tyX5 : Nat → FieldType := fun k => match k with
  | 0 => .array .int
  | 1 => .array .int
  | 2 => .array .int
  | 3 => .array .int
  | 4 => .array .int
  | _ => .array .int
abbrev wsX50 : List Cond := u_ws RX5 TX5 6
theorem nmX5 : ∀ a, a < 6 → ∀ b, b < 6 → a ≠ b → (TX5 a).2.1 ≠ (TX5 b).2.1 := by decide +kernel
theorem tyX5_ok : ∀ k, k < 6 → parseFieldDescriptor (TX5 k).2.2.1 = some (tyX5 k) := by decide +kernel
abbrev cX5_init : ByteArray := prog_7_method_1_code
def yX5_init : MethodName := ⟨RX5, "<init>", "()V"⟩
abbrev cX5_follow : ByteArray := prog_7_method_2_code
def yX5_follow : MethodName := ⟨RX5, "follow", "(LLimbScore$Score;)V"⟩
abbrev cX5_noteEnd : ByteArray := prog_7_method_3_code
def yX5_noteEnd : MethodName := ⟨RX5, "noteEnd", "(I)V"⟩
abbrev cX5_noteStep : ByteArray := prog_7_method_4_code
def yX5_noteStep : MethodName := ⟨RX5, "noteStep", "(II)V"⟩
abbrev cX5_step : ByteArray := prog_7_method_5_code
def yX5_step : MethodName := ⟨RX5, "step", "(III)V"⟩
abbrev cX5_distanceAt : ByteArray := prog_7_method_6_code
def yX5_distanceAt : MethodName := ⟨RX5, "distanceAt", "(I)I"⟩
def RX6 : String := "LimbScore$Weight"
def TX6 : u_T := fun k => match k with
  | 0 => ("LimbScore$Weight", "length", "I", false)
  | 1 => ("LimbScore$Weight", "leap", "I", false)
  | 2 => ("LimbScore$Weight", "footRow", "[I", true)
  | 3 => ("LimbScore$Weight", "legRow", "[I", true)
  | 4 => ("LimbScore$Weight", "feet", "[I", true)
  | 5 => ("LimbScore$Weight", "legs", "[I", true)
  | _ => ("LimbScore$Weight", "flights", "[I", true)
def tyX6 : Nat → FieldType := fun k => match k with
  | 0 => .int
  | 1 => .int
  | 2 => .array .int
  | 3 => .array .int
  | 4 => .array .int
  | 5 => .array .int
  | _ => .array .int
abbrev wsX60 : List Cond := u_ws RX6 TX6 7
theorem nmX6 : ∀ a, a < 7 → ∀ b, b < 7 → a ≠ b → (TX6 a).2.1 ≠ (TX6 b).2.1 := by decide +kernel
theorem tyX6_ok : ∀ k, k < 7 → parseFieldDescriptor (TX6 k).2.2.1 = some (tyX6 k) := by decide +kernel
abbrev cX6_init : ByteArray := prog_8_method_1_code
def yX6_init : MethodName := ⟨RX6, "<init>", "()V"⟩
abbrev cX6_weigh : ByteArray := prog_8_method_2_code
def yX6_weigh : MethodName := ⟨RX6, "weigh", "(LLimbScore$Score;)V"⟩
abbrev cX6_weighSide : ByteArray := prog_8_method_3_code
def yX6_weighSide : MethodName := ⟨RX6, "weighSide", "(LLimbScore$Score;I)V"⟩
abbrev cX6_canBear : ByteArray := prog_8_method_4_code
def yX6_canBear : MethodName := ⟨RX6, "canBear", "(I)Z"⟩
abbrev cX6_measureFlights : ByteArray := prog_8_method_5_code
def yX6_measureFlights : MethodName := ⟨RX6, "measureFlights", "()V"⟩
abbrev cX6_isWrong : ByteArray := prog_8_method_6_code
def yX6_isWrong : MethodName := ⟨RX6, "isWrong", "(I)Z"⟩
abbrev cX6_wrongBeats : ByteArray := prog_8_method_7_code
def yX6_wrongBeats : MethodName := ⟨RX6, "wrongBeats", "()I"⟩
abbrev cX6_beatsOn : ByteArray := prog_8_method_8_code
def yX6_beatsOn : MethodName := ⟨RX6, "beatsOn", "(I)I"⟩
abbrev cX6_longestFlight : ByteArray := prog_8_method_9_code
def yX6_longestFlight : MethodName := ⟨RX6, "longestFlight", "()I"⟩
abbrev cX6_flightCount : ByteArray := prog_8_method_10_code
def yX6_flightCount : MethodName := ⟨RX6, "flightCount", "()I"⟩
abbrev cX6_isAnyLegTold : ByteArray := prog_8_method_11_code
def yX6_isAnyLegTold : MethodName := ⟨RX6, "isAnyLegTold", "()Z"⟩
def RX7 : String := "LimbScore"
def TX7 : u_T := fun k => match k with
  | 0 => ("LimbScore", "score", "LLimbScore$Score;", true)
  | 1 => ("LimbScore", "phrase", "LLimbScore$Score;", true)
  | 2 => ("LimbScore", "trial", "LLimbScore$Score;", true)
  | 3 => ("LimbScore", "history", "LLimbScore$History;", true)
  | 4 => ("LimbScore", "weight", "LLimbScore$Weight;", true)
  | 5 => ("LimbScore", "walk", "LLimbScore$Walk;", true)
  | 6 => ("LimbScore", "comparison", "LLimbScore$Comparison;", true)
  | 7 => ("LimbScore", "script", "LLimbScore$Script;", true)
  | _ => ("LimbScore", "coverRow", "[I", true)
def tyX7 : Nat → FieldType := fun k => match k with
  | 0 => .object "LimbScore$Score"
  | 1 => .object "LimbScore$Score"
  | 2 => .object "LimbScore$Score"
  | 3 => .object "LimbScore$History"
  | 4 => .object "LimbScore$Weight"
  | 5 => .object "LimbScore$Walk"
  | 6 => .object "LimbScore$Comparison"
  | 7 => .object "LimbScore$Script"
  | _ => .array .int
abbrev wsX70 : List Cond := u_ws RX7 TX7 9
theorem nmX7 : ∀ a, a < 9 → ∀ b, b < 9 → a ≠ b → (TX7 a).2.1 ≠ (TX7 b).2.1 := by decide +kernel
theorem tyX7_ok : ∀ k, k < 9 → parseFieldDescriptor (TX7 k).2.2.1 = some (tyX7 k) := by decide +kernel
abbrev cX7_init : ByteArray := prog_1_method_1_code
def yX7_init : MethodName := ⟨RX7, "<init>", "()V"⟩
abbrev cX7_reset : ByteArray := prog_1_method_2_code
def yX7_reset : MethodName := ⟨RX7, "reset", "(I)I"⟩
abbrev cX7_addMove : ByteArray := prog_1_method_3_code
def yX7_addMove : MethodName := ⟨RX7, "addMove", "(IIIII)I"⟩
abbrev cX7_addHold : ByteArray := prog_1_method_4_code
def yX7_addHold : MethodName := ⟨RX7, "addHold", "(II)I"⟩
abbrev cX7_addTurn : ByteArray := prog_1_method_5_code
def yX7_addTurn : MethodName := ⟨RX7, "addTurn", "(III)I"⟩
abbrev cX7_addRelease : ByteArray := prog_1_method_6_code
def yX7_addRelease : MethodName := ⟨RX7, "addRelease", "(III)I"⟩
abbrev cX7_removeSign : ByteArray := prog_1_method_7_code
def yX7_removeSign : MethodName := ⟨RX7, "removeSign", "(I)I"⟩
abbrev cX7_copyPhrase : ByteArray := prog_1_method_8_code
def yX7_copyPhrase : MethodName := ⟨RX7, "copyPhrase", "(IIIII)I"⟩
abbrev cX7_setLeap : ByteArray := prog_1_method_9_code
def yX7_setLeap : MethodName := ⟨RX7, "setLeap", "(I)I"⟩
abbrev cX7_lay : ByteArray := prog_1_method_10_code
def yX7_lay : MethodName := ⟨RX7, "lay", "()I"⟩
abbrev cX7_undo : ByteArray := prog_1_method_11_code
def yX7_undo : MethodName := ⟨RX7, "undo", "()I"⟩
abbrev cX7_count : ByteArray := prog_1_method_12_code
def yX7_count : MethodName := ⟨RX7, "count", "(I)I"⟩
abbrev cX7_sign : ByteArray := prog_1_method_13_code
def yX7_sign : MethodName := ⟨RX7, "sign", "(II)I"⟩
abbrev cX7_signAt : ByteArray := prog_1_method_14_code
def yX7_signAt : MethodName := ⟨RX7, "signAt", "(II)I"⟩
abbrev cX7_bears : ByteArray := prog_1_method_15_code
def yX7_bears : MethodName := ⟨RX7, "bears", "(I)I"⟩
abbrev cX7_toldTwice : ByteArray := prog_1_method_16_code
def yX7_toldTwice : MethodName := ⟨RX7, "toldTwice", "(I)I"⟩
abbrev cX7_isFaulty : ByteArray := prog_1_method_17_code
def yX7_isFaulty : MethodName := ⟨RX7, "isFaulty", "(I)I"⟩
abbrev cX7_nextFault : ByteArray := prog_1_method_18_code
def yX7_nextFault : MethodName := ⟨RX7, "nextFault", "(I)I"⟩
abbrev cX7_beats : ByteArray := prog_1_method_19_code
def yX7_beats : MethodName := ⟨RX7, "beats", "(I)I"⟩
abbrev cX7_leastLeap : ByteArray := prog_1_method_20_code
def yX7_leastLeap : MethodName := ⟨RX7, "leastLeap", "()I"⟩
abbrev cX7_covered : ByteArray := prog_1_method_21_code
def yX7_covered : MethodName := ⟨RX7, "covered", "(II)I"⟩
abbrev cX7_floor : ByteArray := prog_1_method_22_code
def yX7_floor : MethodName := ⟨RX7, "floor", "(II)I"⟩
abbrev cX7_home : ByteArray := prog_1_method_23_code
def yX7_home : MethodName := ⟨RX7, "home", "()I"⟩
abbrev cX7_farthest : ByteArray := prog_1_method_24_code
def yX7_farthest : MethodName := ⟨RX7, "farthest", "()I"⟩
abbrev cX7_alike : ByteArray := prog_1_method_25_code
def yX7_alike : MethodName := ⟨RX7, "alike", "(IIII)I"⟩
abbrev cX7_type : ByteArray := prog_1_method_26_code
def yX7_type : MethodName := ⟨RX7, "type", "(I)I"⟩
abbrev cX7_clearText : ByteArray := prog_1_method_27_code
def yX7_clearText : MethodName := ⟨RX7, "clearText", "()I"⟩
abbrev cX7_fault : ByteArray := prog_1_method_28_code
def yX7_fault : MethodName := ⟨RX7, "fault", "()I"⟩
abbrev cX7_isWithin : ByteArray := prog_1_method_29_code
def yX7_isWithin : MethodName := ⟨RX7, "isWithin", "(III)Z"⟩
abbrev cX7_isFlag : ByteArray := prog_1_method_30_code
def yX7_isFlag : MethodName := ⟨RX7, "isFlag", "(I)Z"⟩
abbrev cX7_isColumn : ByteArray := prog_1_method_31_code
def yX7_isColumn : MethodName := ⟨RX7, "isColumn", "(I)Z"⟩
abbrev cX7_isBeat : ByteArray := prog_1_method_32_code
def yX7_isBeat : MethodName := ⟨RX7, "isBeat", "(I)Z"⟩
abbrev cX7_isSpan : ByteArray := prog_1_method_33_code
def yX7_isSpan : MethodName := ⟨RX7, "isSpan", "(II)Z"⟩
abbrev cX7_isPhrase : ByteArray := prog_1_method_34_code
def yX7_isPhrase : MethodName := ⟨RX7, "isPhrase", "(II)Z"⟩
abbrev cX7_addSign : ByteArray := prog_1_method_35_code
def yX7_addSign : MethodName := ⟨RX7, "addSign", "(I)I"⟩
abbrev cX7_isInPhrase : ByteArray := prog_1_method_36_code
def yX7_isInPhrase : MethodName := ⟨RX7, "isInPhrase", "(III)Z"⟩
abbrev cX7_copyOf : ByteArray := prog_1_method_37_code
def yX7_copyOf : MethodName := ⟨RX7, "copyOf", "(III)I"⟩
abbrev cX7_canTryPhrase : ByteArray := prog_1_method_38_code
def yX7_canTryPhrase : MethodName := ⟨RX7, "canTryPhrase", "()Z"⟩
def RX8 : String := "LimbScoreModel"
def TX8 : u_T := fun k => match k with
  | 0 => ("LimbScoreModel", "d", "[I", true)
  | 1 => ("LimbScoreModel", "was", "[I", true)
  | 2 => ("LimbScoreModel", "states", "I", false)
  | 3 => ("LimbScoreModel", "aside", "[I", true)
  | 4 => ("LimbScoreModel", "text", "[C", true)
  | 5 => ("LimbScoreModel", "typed", "I", false)
  | 6 => ("LimbScoreModel", "at", "I", false)
  | 7 => ("LimbScoreModel", "next", "[I", true)
  | 8 => ("LimbScoreModel", "copy", "[I", true)
  | _ => ("LimbScoreModel", "cover", "[I", true)
def tyX8 : Nat → FieldType := fun k => match k with
  | 0 => .array .int
  | 1 => .array .int
  | 2 => .int
  | 3 => .array .int
  | 4 => .array .char
  | 5 => .int
  | 6 => .int
  | 7 => .array .int
  | 8 => .array .int
  | _ => .array .int
abbrev wsX80 : List Cond := u_ws RX8 TX8 10
theorem nmX8 : ∀ a, a < 10 → ∀ b, b < 10 → a ≠ b → (TX8 a).2.1 ≠ (TX8 b).2.1 := by decide +kernel
theorem tyX8_ok : ∀ k, k < 10 → parseFieldDescriptor (TX8 k).2.2.1 = some (tyX8 k) := by decide +kernel
abbrev cX8_init : ByteArray := prog_10_method_1_code
def yX8_init : MethodName := ⟨RX8, "<init>", "()V"⟩
abbrev cX8_in : ByteArray := prog_10_method_2_code
def yX8_in : MethodName := ⟨RX8, "in", "(III)Z"⟩
abbrev cX8_isBeat : ByteArray := prog_10_method_3_code
def yX8_isBeat : MethodName := ⟨RX8, "isBeat", "(I)Z"⟩
abbrev cX8_isColumn : ByteArray := prog_10_method_4_code
def yX8_isColumn : MethodName := ⟨RX8, "isColumn", "(I)Z"⟩
abbrev cX8_isSign : ByteArray := prog_10_method_5_code
def yX8_isSign : MethodName := ⟨RX8, "isSign", "(I)Z"⟩
abbrev cX8_records : ByteArray := prog_10_method_6_code
def yX8_records : MethodName := ⟨RX8, "records", "()V"⟩
abbrev cX8_endOf : ByteArray := prog_10_method_7_code
def yX8_endOf : MethodName := ⟨RX8, "endOf", "(I)I"⟩
abbrev cX8_fills : ByteArray := prog_10_method_8_code
def yX8_fills : MethodName := ⟨RX8, "fills", "()V"⟩
abbrev cX8_covering : ByteArray := prog_10_method_9_code
def yX8_covering : MethodName := ⟨RX8, "covering", "(II)I"⟩
abbrev cX8_isFree : ByteArray := prog_10_method_10_code
def yX8_isFree : MethodName := ⟨RX8, "isFree", "(III)Z"⟩
abbrev cX8_puts : ByteArray := prog_10_method_11_code
def yX8_puts : MethodName := ⟨RX8, "puts", "(IIIIII)I"⟩
abbrev cX8_adds : ByteArray := prog_10_method_12_code
def yX8_adds : MethodName := ⟨RX8, "adds", "(IIIIII)I"⟩
abbrev cX8_isSpan : ByteArray := prog_10_method_13_code
def yX8_isSpan : MethodName := ⟨RX8, "isSpan", "(II)Z"⟩
abbrev cX8_reset : ByteArray := prog_10_method_14_code
def yX8_reset : MethodName := ⟨RX8, "reset", "(I)I"⟩
abbrev cX8_addMove : ByteArray := prog_10_method_15_code
def yX8_addMove : MethodName := ⟨RX8, "addMove", "(IIIII)I"⟩
abbrev cX8_addHold : ByteArray := prog_10_method_16_code
def yX8_addHold : MethodName := ⟨RX8, "addHold", "(II)I"⟩
abbrev cX8_addTurn : ByteArray := prog_10_method_17_code
def yX8_addTurn : MethodName := ⟨RX8, "addTurn", "(III)I"⟩
abbrev cX8_addRelease : ByteArray := prog_10_method_18_code
def yX8_addRelease : MethodName := ⟨RX8, "addRelease", "(III)I"⟩
abbrev cX8_removeSign : ByteArray := prog_10_method_19_code
def yX8_removeSign : MethodName := ⟨RX8, "removeSign", "(I)I"⟩
abbrev cX8_turnedColumn : ByteArray := prog_10_method_20_code
def yX8_turnedColumn : MethodName := ⟨RX8, "turnedColumn", "(I)I"⟩
abbrev cX8_turnedWay : ByteArray := prog_10_method_21_code
def yX8_turnedWay : MethodName := ⟨RX8, "turnedWay", "(II)I"⟩
abbrev cX8_collects : ByteArray := prog_10_method_22_code
def yX8_collects : MethodName := ⟨RX8, "collects", "(IIIZZ)I"⟩
abbrev cX8_copyPhrase : ByteArray := prog_10_method_23_code
def yX8_copyPhrase : MethodName := ⟨RX8, "copyPhrase", "(IIIII)I"⟩
abbrev cX8_setLeap : ByteArray := prog_10_method_24_code
def yX8_setLeap : MethodName := ⟨RX8, "setLeap", "(I)I"⟩
abbrev cX8_undo : ByteArray := prog_10_method_25_code
def yX8_undo : MethodName := ⟨RX8, "undo", "()I"⟩
abbrev cX8_count : ByteArray := prog_10_method_26_code
def yX8_count : MethodName := ⟨RX8, "count", "(I)I"⟩
abbrev cX8_sign : ByteArray := prog_10_method_27_code
def yX8_sign : MethodName := ⟨RX8, "sign", "(II)I"⟩
abbrev cX8_signAt : ByteArray := prog_10_method_28_code
def yX8_signAt : MethodName := ⟨RX8, "signAt", "(II)I"⟩
abbrev cX8_isBearing : ByteArray := prog_10_method_29_code
def yX8_isBearing : MethodName := ⟨RX8, "isBearing", "(II)Z"⟩
abbrev cX8_feet : ByteArray := prog_10_method_30_code
def yX8_feet : MethodName := ⟨RX8, "feet", "(I)I"⟩
abbrev cX8_isTwice : ByteArray := prog_10_method_31_code
def yX8_isTwice : MethodName := ⟨RX8, "isTwice", "(II)Z"⟩
abbrev cX8_twice : ByteArray := prog_10_method_32_code
def yX8_twice : MethodName := ⟨RX8, "twice", "(I)I"⟩
abbrev cX8_flight : ByteArray := prog_10_method_33_code
def yX8_flight : MethodName := ⟨RX8, "flight", "(I)I"⟩
abbrev cX8_isWrong : ByteArray := prog_10_method_34_code
def yX8_isWrong : MethodName := ⟨RX8, "isWrong", "(I)Z"⟩
abbrev cX8_bears : ByteArray := prog_10_method_35_code
def yX8_bears : MethodName := ⟨RX8, "bears", "(I)I"⟩
abbrev cX8_toldTwice : ByteArray := prog_10_method_36_code
def yX8_toldTwice : MethodName := ⟨RX8, "toldTwice", "(I)I"⟩
abbrev cX8_isFaulty : ByteArray := prog_10_method_37_code
def yX8_isFaulty : MethodName := ⟨RX8, "isFaulty", "(I)I"⟩
abbrev cX8_nextFault : ByteArray := prog_10_method_38_code
def yX8_nextFault : MethodName := ⟨RX8, "nextFault", "(I)I"⟩
abbrev cX8_beats : ByteArray := prog_10_method_39_code
def yX8_beats : MethodName := ⟨RX8, "beats", "(I)I"⟩
abbrev cX8_leastLeap : ByteArray := prog_10_method_40_code
def yX8_leastLeap : MethodName := ⟨RX8, "leastLeap", "()I"⟩
abbrev cX8_covered : ByteArray := prog_10_method_41_code
def yX8_covered : MethodName := ⟨RX8, "covered", "(II)I"⟩
abbrev cX8_facing : ByteArray := prog_10_method_42_code
def yX8_facing : MethodName := ⟨RX8, "facing", "(I)I"⟩
abbrev cX8_unit : ByteArray := prog_10_method_43_code
def yX8_unit : MethodName := ⟨RX8, "unit", "(IZ)I"⟩
abbrev cX8_isTogether : ByteArray := prog_10_method_44_code
def yX8_isTogether : MethodName := ⟨RX8, "isTogether", "(I)Z"⟩
abbrev cX8_place : ByteArray := prog_10_method_45_code
def yX8_place : MethodName := ⟨RX8, "place", "(IZ)I"⟩
abbrev cX8_floor : ByteArray := prog_10_method_46_code
def yX8_floor : MethodName := ⟨RX8, "floor", "(II)I"⟩
abbrev cX8_home : ByteArray := prog_10_method_47_code
def yX8_home : MethodName := ⟨RX8, "home", "()I"⟩
abbrev cX8_size : ByteArray := prog_10_method_48_code
def yX8_size : MethodName := ⟨RX8, "size", "(I)I"⟩
abbrev cX8_farthest : ByteArray := prog_10_method_49_code
def yX8_farthest : MethodName := ⟨RX8, "farthest", "()I"⟩
abbrev cX8_isLike : ByteArray := prog_10_method_50_code
def yX8_isLike : MethodName := ⟨RX8, "isLike", "(IIIZ)Z"⟩
abbrev cX8_alike : ByteArray := prog_10_method_51_code
def yX8_alike : MethodName := ⟨RX8, "alike", "(IIII)I"⟩
abbrev cX8_type : ByteArray := prog_10_method_52_code
def yX8_type : MethodName := ⟨RX8, "type", "(I)I"⟩
abbrev cX8_clearText : ByteArray := prog_10_method_53_code
def yX8_clearText : MethodName := ⟨RX8, "clearText", "()I"⟩
abbrev cX8_here : ByteArray := prog_10_method_54_code
def yX8_here : MethodName := ⟨RX8, "here", "()I"⟩
abbrev cX8_passes : ByteArray := prog_10_method_55_code
def yX8_passes : MethodName := ⟨RX8, "passes", "(I)Z"⟩
abbrev cX8_digit : ByteArray := prog_10_method_56_code
def yX8_digit : MethodName := ⟨RX8, "digit", "(II)I"⟩
abbrev cX8_length : ByteArray := prog_10_method_57_code
def yX8_length : MethodName := ⟨RX8, "length", "()I"⟩
abbrev cX8_lays : ByteArray := prog_10_method_58_code
def yX8_lays : MethodName := ⟨RX8, "lays", "(IIIII)Z"⟩
abbrev cX8_readsMove : ByteArray := prog_10_method_59_code
def yX8_readsMove : MethodName := ⟨RX8, "readsMove", "(I)Z"⟩
abbrev cX8_readsTurn : ByteArray := prog_10_method_60_code
def yX8_readsTurn : MethodName := ⟨RX8, "readsTurn", "(I)Z"⟩
abbrev cX8_readsItem : ByteArray := prog_10_method_61_code
def yX8_readsItem : MethodName := ⟨RX8, "readsItem", "()Z"⟩
abbrev cX8_reads : ByteArray := prog_10_method_62_code
def yX8_reads : MethodName := ⟨RX8, "reads", "()I"⟩
abbrev cX8_keeps : ByteArray := prog_10_method_63_code
def yX8_keeps : MethodName := ⟨RX8, "keeps", "()V"⟩
abbrev cX8_swaps : ByteArray := prog_10_method_64_code
def yX8_swaps : MethodName := ⟨RX8, "swaps", "()V"⟩
abbrev cX8_fault : ByteArray := prog_10_method_65_code
def yX8_fault : MethodName := ⟨RX8, "fault", "()I"⟩
abbrev cX8_lay : ByteArray := prog_10_method_66_code
def yX8_lay : MethodName := ⟨RX8, "lay", "()I"⟩
def RJ9 : String := "java/lang/Math"
def TJ9 : u_T := fun k => match k with
  | _ => ("", "", "", false)
def tyJ9 : Nat → FieldType := fun k => match k with
  | _ => .int
theorem nmJ9 : ∀ a, a < 0 → ∀ b, b < 0 → a ≠ b → (TJ9 a).2.1 ≠ (TJ9 b).2.1 := by decide +kernel
theorem tyJ9_ok : ∀ k, k < 0 → parseFieldDescriptor (TJ9 k).2.2.1 = some (tyJ9 k) := by decide +kernel
abbrev cJ9_floorMod_7cf53 : ByteArray := prog_11_method_50_code
def yJ9_floorMod_7cf53 : MethodName := ⟨RJ9, "floorMod", "(II)I"⟩
abbrev cJ9_abs_0f7a4 : ByteArray := prog_11_method_59_code
def yJ9_abs_0f7a4 : MethodName := ⟨RJ9, "abs", "(I)I"⟩
abbrev cJ9_max_7cf53 : ByteArray := prog_11_method_65_code
def yJ9_max_7cf53 : MethodName := ⟨RJ9, "max", "(II)I"⟩
abbrev cJ9_min_7cf53 : ByteArray := prog_11_method_69_code
def yJ9_min_7cf53 : MethodName := ⟨RJ9, "min", "(II)I"⟩
def RJ10 : String := "java/lang/System"
def TJ10 : u_T := fun k => match k with
  | _ => ("", "", "", false)
def tyJ10 : Nat → FieldType := fun k => match k with
  | _ => .int
theorem nmJ10 : ∀ a, a < 0 → ∀ b, b < 0 → a ≠ b → (TJ10 a).2.1 ≠ (TJ10 b).2.1 := by decide +kernel
theorem tyJ10_ok : ∀ k, k < 0 → parseFieldDescriptor (TJ10 k).2.2.1 = some (tyJ10 k) := by decide +kernel
def RJ7 : String := "java/util/Arrays"
def TJ7 : u_T := fun k => match k with
  | _ => ("", "", "", false)
def tyJ7 : Nat → FieldType := fun k => match k with
  | _ => .int
theorem nmJ7 : ∀ a, a < 0 → ∀ b, b < 0 → a ≠ b → (TJ7 a).2.1 ≠ (TJ7 b).2.1 := by decide +kernel
theorem tyJ7_ok : ∀ k, k < 0 → parseFieldDescriptor (TJ7 k).2.2.1 = some (tyJ7 k) := by decide +kernel
abbrev cJ7_fill_53178 : ByteArray := prog_13_method_103_code
def yJ7_fill_53178 : MethodName := ⟨RJ7, "fill", "([II)V"⟩
def RL : String := "LimbScoreLaw"
abbrev cL_law : ByteArray := code
def yL_law : MethodName := ⟨RL, "law", "([I)Z"⟩
theorem dX0_init_0 : decode cX0_init 0 = .ok (.aload_n 0, 1) := by decide +kernel
theorem dX0_init_1 : decode cX0_init 1 = .ok (.invokespecial 3, 3) := by decide +kernel
theorem dX0_init_4 : decode cX0_init 4 = .ok (.aload_n 0, 1) := by decide +kernel
theorem dX0_init_5 : decode cX0_init 5 = .ok (.bipush 48, 2) := by decide +kernel
theorem dX0_init_7 : decode cX0_init 7 = .ok (.newarray .int, 2) := by decide +kernel
theorem dX0_init_9 : decode cX0_init 9 = .ok (.putfield 9, 3) := by decide +kernel
theorem dX0_init_12 : decode cX0_init 12 = .ok (.aload_n 0, 1) := by decide +kernel
theorem dX0_init_13 : decode cX0_init 13 = .ok (.bipush 48, 2) := by decide +kernel
theorem dX0_init_15 : decode cX0_init 15 = .ok (.newarray .int, 2) := by decide +kernel
theorem dX0_init_17 : decode cX0_init 17 = .ok (.putfield 15, 3) := by decide +kernel
theorem dX0_init_20 : decode cX0_init 20 = .ok (.aload_n 0, 1) := by decide +kernel
theorem dX0_init_21 : decode cX0_init 21 = .ok (.bipush 48, 2) := by decide +kernel
theorem dX0_init_23 : decode cX0_init 23 = .ok (.newarray .int, 2) := by decide +kernel
theorem dX0_init_25 : decode cX0_init 25 = .ok (.putfield 18, 3) := by decide +kernel
theorem dX0_init_28 : decode cX0_init 28 = .ok (.return_, 1) := by decide +kernel
theorem dX0_begin_0 : decode cX0_begin 0 = .ok (.aload_n 0, 1) := by decide +kernel
theorem dX0_begin_1 : decode cX0_begin 1 = .ok (.getfield 18, 3) := by decide +kernel
theorem dX0_begin_4 : decode cX0_begin 4 = .ok (.iconst 0, 1) := by decide +kernel
theorem dX0_begin_5 : decode cX0_begin 5 = .ok (.invokestatic 21, 3) := by decide +kernel
theorem dX0_begin_8 : decode cX0_begin 8 = .ok (.return_, 1) := by decide +kernel
theorem dX0_compare_0 : decode cX0_compare 0 = .ok (.aload_n 1, 1) := by decide +kernel
theorem dX0_compare_1 : decode cX0_compare 1 = .ok (.iload_n 2, 1) := by decide +kernel
theorem dX0_compare_2 : decode cX0_compare 2 = .ok (.aload_n 0, 1) := by decide +kernel
theorem dX0_compare_3 : decode cX0_compare 3 = .ok (.getfield 9, 3) := by decide +kernel
theorem dX0_compare_6 : decode cX0_compare 6 = .ok (.invokevirtual 27, 3) := by decide +kernel
theorem dX0_compare_9 : decode cX0_compare 9 = .ok (.aload_n 1, 1) := by decide +kernel
theorem dX0_compare_10 : decode cX0_compare 10 = .ok (.iload 5, 2) := by decide +kernel
theorem dX0_compare_12 : decode cX0_compare 12 = .ok (.ifCond .eq 10, 3) := by decide +kernel
theorem dX0_compare_15 : decode cX0_compare 15 = .ok (.iload_n 2, 1) := by decide +kernel
theorem dX0_compare_16 : decode cX0_compare 16 = .ok (.invokestatic 33, 3) := by decide +kernel
theorem dX0_compare_19 : decode cX0_compare 19 = .ok (.goto 4, 3) := by decide +kernel
theorem dX0_compare_22 : decode cX0_compare 22 = .ok (.iload_n 2, 1) := by decide +kernel
theorem dX0_compare_23 : decode cX0_compare 23 = .ok (.aload_n 0, 1) := by decide +kernel
theorem dX0_compare_24 : decode cX0_compare 24 = .ok (.getfield 15, 3) := by decide +kernel
theorem dX0_compare_27 : decode cX0_compare 27 = .ok (.invokevirtual 27, 3) := by decide +kernel
theorem dX0_compare_30 : decode cX0_compare 30 = .ok (.aload_n 1, 1) := by decide +kernel
theorem dX0_compare_31 : decode cX0_compare 31 = .ok (.getfield 39, 3) := by decide +kernel
theorem dX0_compare_34 : decode cX0_compare 34 = .ok (.iload_n 3, 1) := by decide +kernel
theorem dX0_compare_35 : decode cX0_compare 35 = .ok (.iload 4, 2) := by decide +kernel
theorem dX0_compare_37 : decode cX0_compare 37 = .ok (.invokestatic 43, 3) := by decide +kernel
theorem dX0_compare_40 : decode cX0_compare 40 = .ok (.isub, 1) := by decide +kernel
theorem dX0_compare_41 : decode cX0_compare 41 = .ok (.istore 6, 2) := by decide +kernel
theorem dX0_compare_43 : decode cX0_compare 43 = .ok (.iconst 0, 1) := by decide +kernel
theorem dX0_compare_44 : decode cX0_compare 44 = .ok (.istore 7, 2) := by decide +kernel
theorem dX0_compare_46 : decode cX0_compare 46 = .ok (.iload 7, 2) := by decide +kernel
theorem dX0_compare_48 : decode cX0_compare 48 = .ok (.iload 6, 2) := by decide +kernel
theorem dX0_compare_50 : decode cX0_compare 50 = .ok (.if_icmp .ge 73, 3) := by decide +kernel
theorem dX0_compare_53 : decode cX0_compare 53 = .ok (.iload 5, 2) := by decide +kernel
theorem dX0_compare_55 : decode cX0_compare 55 = .ok (.ifCond .eq 19, 3) := by decide +kernel
theorem dX0_compare_58 : decode cX0_compare 58 = .ok (.aload_n 0, 1) := by decide +kernel
theorem dX0_compare_59 : decode cX0_compare 59 = .ok (.getfield 15, 3) := by decide +kernel
theorem dX0_compare_62 : decode cX0_compare 62 = .ok (.iload 4, 2) := by decide +kernel
theorem dX0_compare_64 : decode cX0_compare 64 = .ok (.iload 7, 2) := by decide +kernel
theorem dX0_compare_66 : decode cX0_compare 66 = .ok (.iadd, 1) := by decide +kernel
theorem dX0_compare_67 : decode cX0_compare 67 = .ok (.iaload, 1) := by decide +kernel
theorem dX0_compare_68 : decode cX0_compare 68 = .ok (.invokestatic 49, 3) := by decide +kernel
theorem dX0_compare_71 : decode cX0_compare 71 = .ok (.goto 13, 3) := by decide +kernel
theorem dX0_compare_74 : decode cX0_compare 74 = .ok (.aload_n 0, 1) := by decide +kernel
theorem dX0_compare_75 : decode cX0_compare 75 = .ok (.getfield 15, 3) := by decide +kernel
theorem dX0_compare_78 : decode cX0_compare 78 = .ok (.iload 4, 2) := by decide +kernel
theorem dX0_compare_80 : decode cX0_compare 80 = .ok (.iload 7, 2) := by decide +kernel
theorem dX0_compare_82 : decode cX0_compare 82 = .ok (.iadd, 1) := by decide +kernel
theorem dX0_compare_83 : decode cX0_compare 83 = .ok (.iaload, 1) := by decide +kernel
theorem dX0_compare_84 : decode cX0_compare 84 = .ok (.istore 8, 2) := by decide +kernel
theorem dX0_compare_86 : decode cX0_compare 86 = .ok (.aload_n 0, 1) := by decide +kernel
theorem dX0_compare_87 : decode cX0_compare 87 = .ok (.getfield 9, 3) := by decide +kernel
theorem dX0_compare_90 : decode cX0_compare 90 = .ok (.iload_n 3, 1) := by decide +kernel
theorem dX0_compare_91 : decode cX0_compare 91 = .ok (.iload 7, 2) := by decide +kernel
theorem dX0_compare_93 : decode cX0_compare 93 = .ok (.iadd, 1) := by decide +kernel
theorem dX0_compare_94 : decode cX0_compare 94 = .ok (.iaload, 1) := by decide +kernel
theorem dX0_compare_95 : decode cX0_compare 95 = .ok (.invokestatic 52, 3) := by decide +kernel
theorem dX0_compare_98 : decode cX0_compare 98 = .ok (.iload 8, 2) := by decide +kernel
theorem dX0_compare_100 : decode cX0_compare 100 = .ok (.invokestatic 52, 3) := by decide +kernel
theorem dX0_compare_103 : decode cX0_compare 103 = .ok (.if_icmp .eq 14, 3) := by decide +kernel
theorem dX0_compare_106 : decode cX0_compare 106 = .ok (.aload_n 0, 1) := by decide +kernel
theorem dX0_compare_107 : decode cX0_compare 107 = .ok (.getfield 18, 3) := by decide +kernel
theorem dX0_compare_110 : decode cX0_compare 110 = .ok (.iload 7, 2) := by decide +kernel
theorem dX0_compare_112 : decode cX0_compare 112 = .ok (.dup2, 1) := by decide +kernel
theorem dX0_compare_113 : decode cX0_compare 113 = .ok (.iaload, 1) := by decide +kernel
theorem dX0_compare_114 : decode cX0_compare 114 = .ok (.iconst 1, 1) := by decide +kernel
theorem dX0_compare_115 : decode cX0_compare 115 = .ok (.iadd, 1) := by decide +kernel
theorem dX0_compare_116 : decode cX0_compare 116 = .ok (.iastore, 1) := by decide +kernel
theorem dX0_compare_117 : decode cX0_compare 117 = .ok (.iinc 7 1, 3) := by decide +kernel
theorem dX0_compare_120 : decode cX0_compare 120 = .ok (.goto (-74), 3) := by decide +kernel
theorem dX0_compare_123 : decode cX0_compare 123 = .ok (.return_, 1) := by decide +kernel
theorem dX0_alikeBeats_0 : decode cX0_alikeBeats 0 = .ok (.iconst 0, 1) := by decide +kernel
theorem dX0_alikeBeats_1 : decode cX0_alikeBeats 1 = .ok (.istore_n 2, 1) := by decide +kernel
theorem dX0_alikeBeats_2 : decode cX0_alikeBeats 2 = .ok (.iconst 0, 1) := by decide +kernel
theorem dX0_alikeBeats_3 : decode cX0_alikeBeats 3 = .ok (.istore_n 3, 1) := by decide +kernel
theorem dX0_alikeBeats_4 : decode cX0_alikeBeats 4 = .ok (.iload_n 3, 1) := by decide +kernel
theorem dX0_alikeBeats_5 : decode cX0_alikeBeats 5 = .ok (.iload_n 1, 1) := by decide +kernel
theorem dX0_alikeBeats_6 : decode cX0_alikeBeats 6 = .ok (.if_icmp .ge 21, 3) := by decide +kernel
theorem dX0_alikeBeats_9 : decode cX0_alikeBeats 9 = .ok (.aload_n 0, 1) := by decide +kernel
theorem dX0_alikeBeats_10 : decode cX0_alikeBeats 10 = .ok (.getfield 18, 3) := by decide +kernel
theorem dX0_alikeBeats_13 : decode cX0_alikeBeats 13 = .ok (.iload_n 3, 1) := by decide +kernel
theorem dX0_alikeBeats_14 : decode cX0_alikeBeats 14 = .ok (.iaload, 1) := by decide +kernel
theorem dX0_alikeBeats_15 : decode cX0_alikeBeats 15 = .ok (.ifCond .ne 6, 3) := by decide +kernel
theorem dX0_alikeBeats_18 : decode cX0_alikeBeats 18 = .ok (.iinc 2 1, 3) := by decide +kernel
theorem dX0_alikeBeats_21 : decode cX0_alikeBeats 21 = .ok (.iinc 3 1, 3) := by decide +kernel
theorem dX0_alikeBeats_24 : decode cX0_alikeBeats 24 = .ok (.goto (-20), 3) := by decide +kernel
theorem dX0_alikeBeats_27 : decode cX0_alikeBeats 27 = .ok (.iload_n 2, 1) := by decide +kernel
theorem dX0_alikeBeats_28 : decode cX0_alikeBeats 28 = .ok (.ireturn, 1) := by decide +kernel
theorem dX1_init_0 : decode cX1_init 0 = .ok (.aload_n 0, 1) := by decide +kernel
theorem dX1_init_1 : decode cX1_init 1 = .ok (.invokespecial 5, 3) := by decide +kernel
theorem dX1_init_4 : decode cX1_init 4 = .ok (.aload_n 0, 1) := by decide +kernel
theorem dX1_init_5 : decode cX1_init 5 = .ok (.iconst 0, 1) := by decide +kernel
theorem dX1_init_6 : decode cX1_init 6 = .ok (.putfield 11, 3) := by decide +kernel
theorem dX1_init_9 : decode cX1_init 9 = .ok (.aload_n 0, 1) := by decide +kernel
theorem dX1_init_10 : decode cX1_init 10 = .ok (.sipush 378, 3) := by decide +kernel
theorem dX1_init_13 : decode cX1_init 13 = .ok (.newarray .int, 2) := by decide +kernel
theorem dX1_init_15 : decode cX1_init 15 = .ok (.putfield 15, 3) := by decide +kernel
theorem dX1_init_18 : decode cX1_init 18 = .ok (.return_, 1) := by decide +kernel
theorem dX1_keep_0 : decode cX1_keep 0 = .ok (.aload_n 0, 1) := by decide +kernel
theorem dX1_keep_1 : decode cX1_keep 1 = .ok (.getfield 11, 3) := by decide +kernel
theorem dX1_keep_4 : decode cX1_keep 4 = .ok (.bipush 6, 2) := by decide +kernel
theorem dX1_keep_6 : decode cX1_keep 6 = .ok (.if_icmp .ne 30, 3) := by decide +kernel
theorem dX1_keep_9 : decode cX1_keep 9 = .ok (.aload_n 0, 1) := by decide +kernel
theorem dX1_keep_10 : decode cX1_keep 10 = .ok (.getfield 15, 3) := by decide +kernel
theorem dX1_keep_13 : decode cX1_keep 13 = .ok (.bipush 63, 2) := by decide +kernel
theorem dX1_keep_15 : decode cX1_keep 15 = .ok (.aload_n 0, 1) := by decide +kernel
theorem dX1_keep_16 : decode cX1_keep 16 = .ok (.getfield 15, 3) := by decide +kernel
theorem dX1_keep_19 : decode cX1_keep 19 = .ok (.iconst 0, 1) := by decide +kernel
theorem dX1_keep_20 : decode cX1_keep 20 = .ok (.sipush 315, 3) := by decide +kernel
theorem dX1_keep_23 : decode cX1_keep 23 = .ok (.invokestatic 19, 3) := by decide +kernel
theorem dX1_keep_26 : decode cX1_keep 26 = .ok (.aload_n 0, 1) := by decide +kernel
theorem dX1_keep_27 : decode cX1_keep 27 = .ok (.dup, 1) := by decide +kernel
theorem dX1_keep_28 : decode cX1_keep 28 = .ok (.getfield 11, 3) := by decide +kernel
theorem dX1_keep_31 : decode cX1_keep 31 = .ok (.iconst 1, 1) := by decide +kernel
theorem dX1_keep_32 : decode cX1_keep 32 = .ok (.isub, 1) := by decide +kernel
theorem dX1_keep_33 : decode cX1_keep 33 = .ok (.putfield 11, 3) := by decide +kernel
theorem dX1_keep_36 : decode cX1_keep 36 = .ok (.aload_n 0, 1) := by decide +kernel
theorem dX1_keep_37 : decode cX1_keep 37 = .ok (.getfield 11, 3) := by decide +kernel
theorem dX1_keep_40 : decode cX1_keep 40 = .ok (.bipush 63, 2) := by decide +kernel
theorem dX1_keep_42 : decode cX1_keep 42 = .ok (.imul, 1) := by decide +kernel
theorem dX1_keep_43 : decode cX1_keep 43 = .ok (.istore_n 2, 1) := by decide +kernel
theorem dX1_keep_44 : decode cX1_keep 44 = .ok (.aload_n 0, 1) := by decide +kernel
theorem dX1_keep_45 : decode cX1_keep 45 = .ok (.getfield 15, 3) := by decide +kernel
theorem dX1_keep_48 : decode cX1_keep 48 = .ok (.iload_n 2, 1) := by decide +kernel
theorem dX1_keep_49 : decode cX1_keep 49 = .ok (.iconst 0, 1) := by decide +kernel
theorem dX1_keep_50 : decode cX1_keep 50 = .ok (.iadd, 1) := by decide +kernel
theorem dX1_keep_51 : decode cX1_keep 51 = .ok (.aload_n 1, 1) := by decide +kernel
theorem dX1_keep_52 : decode cX1_keep 52 = .ok (.getfield 25, 3) := by decide +kernel
theorem dX1_keep_55 : decode cX1_keep 55 = .ok (.iastore, 1) := by decide +kernel
theorem dX1_keep_56 : decode cX1_keep 56 = .ok (.aload_n 0, 1) := by decide +kernel
theorem dX1_keep_57 : decode cX1_keep 57 = .ok (.getfield 15, 3) := by decide +kernel
theorem dX1_keep_60 : decode cX1_keep 60 = .ok (.iload_n 2, 1) := by decide +kernel
theorem dX1_keep_61 : decode cX1_keep 61 = .ok (.iconst 1, 1) := by decide +kernel
theorem dX1_keep_62 : decode cX1_keep 62 = .ok (.iadd, 1) := by decide +kernel
theorem dX1_keep_63 : decode cX1_keep 63 = .ok (.aload_n 1, 1) := by decide +kernel
theorem dX1_keep_64 : decode cX1_keep 64 = .ok (.getfield 30, 3) := by decide +kernel
theorem dX1_keep_67 : decode cX1_keep 67 = .ok (.iastore, 1) := by decide +kernel
theorem dX1_keep_68 : decode cX1_keep 68 = .ok (.aload_n 0, 1) := by decide +kernel
theorem dX1_keep_69 : decode cX1_keep 69 = .ok (.getfield 15, 3) := by decide +kernel
theorem dX1_keep_72 : decode cX1_keep 72 = .ok (.iload_n 2, 1) := by decide +kernel
theorem dX1_keep_73 : decode cX1_keep 73 = .ok (.iconst 2, 1) := by decide +kernel
theorem dX1_keep_74 : decode cX1_keep 74 = .ok (.iadd, 1) := by decide +kernel
theorem dX1_keep_75 : decode cX1_keep 75 = .ok (.aload_n 1, 1) := by decide +kernel
theorem dX1_keep_76 : decode cX1_keep 76 = .ok (.getfield 33, 3) := by decide +kernel
theorem dX1_keep_79 : decode cX1_keep 79 = .ok (.iastore, 1) := by decide +kernel
theorem dX1_keep_80 : decode cX1_keep 80 = .ok (.iconst 0, 1) := by decide +kernel
theorem dX1_keep_81 : decode cX1_keep 81 = .ok (.istore_n 3, 1) := by decide +kernel
theorem dX1_keep_82 : decode cX1_keep 82 = .ok (.iload_n 3, 1) := by decide +kernel
theorem dX1_keep_83 : decode cX1_keep 83 = .ok (.aload_n 1, 1) := by decide +kernel
theorem dX1_keep_84 : decode cX1_keep 84 = .ok (.getfield 33, 3) := by decide +kernel
theorem dX1_keep_87 : decode cX1_keep 87 = .ok (.if_icmp .ge 31, 3) := by decide +kernel
theorem dX1_keep_90 : decode cX1_keep 90 = .ok (.iload_n 3, 1) := by decide +kernel
theorem dX1_keep_91 : decode cX1_keep 91 = .ok (.bipush 60, 2) := by decide +kernel
theorem dX1_keep_93 : decode cX1_keep 93 = .ok (.if_icmp .ge 25, 3) := by decide +kernel
theorem dX1_keep_96 : decode cX1_keep 96 = .ok (.aload_n 0, 1) := by decide +kernel
theorem dX1_keep_97 : decode cX1_keep 97 = .ok (.getfield 15, 3) := by decide +kernel
theorem dX1_keep_100 : decode cX1_keep 100 = .ok (.iload_n 2, 1) := by decide +kernel
theorem dX1_keep_101 : decode cX1_keep 101 = .ok (.iconst 3, 1) := by decide +kernel
theorem dX1_keep_102 : decode cX1_keep 102 = .ok (.iadd, 1) := by decide +kernel
theorem dX1_keep_103 : decode cX1_keep 103 = .ok (.iload_n 3, 1) := by decide +kernel
theorem dX1_keep_104 : decode cX1_keep 104 = .ok (.iadd, 1) := by decide +kernel
theorem dX1_keep_105 : decode cX1_keep 105 = .ok (.aload_n 1, 1) := by decide +kernel
theorem dX1_keep_106 : decode cX1_keep 106 = .ok (.getfield 34, 3) := by decide +kernel
theorem dX1_keep_109 : decode cX1_keep 109 = .ok (.iload_n 3, 1) := by decide +kernel
theorem dX1_keep_110 : decode cX1_keep 110 = .ok (.iaload, 1) := by decide +kernel
theorem dX1_keep_111 : decode cX1_keep 111 = .ok (.iastore, 1) := by decide +kernel
theorem dX1_keep_112 : decode cX1_keep 112 = .ok (.iinc 3 1, 3) := by decide +kernel
theorem dX1_keep_115 : decode cX1_keep 115 = .ok (.goto (-33), 3) := by decide +kernel
theorem dX1_keep_118 : decode cX1_keep 118 = .ok (.aload_n 0, 1) := by decide +kernel
theorem dX1_keep_119 : decode cX1_keep 119 = .ok (.dup, 1) := by decide +kernel
theorem dX1_keep_120 : decode cX1_keep 120 = .ok (.getfield 11, 3) := by decide +kernel
theorem dX1_keep_123 : decode cX1_keep 123 = .ok (.iconst 1, 1) := by decide +kernel
theorem dX1_keep_124 : decode cX1_keep 124 = .ok (.iadd, 1) := by decide +kernel
theorem dX1_keep_125 : decode cX1_keep 125 = .ok (.putfield 11, 3) := by decide +kernel
theorem dX1_keep_128 : decode cX1_keep 128 = .ok (.return_, 1) := by decide +kernel
theorem dX1_restore_0 : decode cX1_restore 0 = .ok (.aload_n 0, 1) := by decide +kernel
theorem dX1_restore_1 : decode cX1_restore 1 = .ok (.getfield 11, 3) := by decide +kernel
theorem dX1_restore_4 : decode cX1_restore 4 = .ok (.ifCond .ne 4, 3) := by decide +kernel
theorem dX1_restore_7 : decode cX1_restore 7 = .ok (.return_, 1) := by decide +kernel
theorem dX1_restore_8 : decode cX1_restore 8 = .ok (.aload_n 0, 1) := by decide +kernel
theorem dX1_restore_9 : decode cX1_restore 9 = .ok (.dup, 1) := by decide +kernel
theorem dX1_restore_10 : decode cX1_restore 10 = .ok (.getfield 11, 3) := by decide +kernel
theorem dX1_restore_13 : decode cX1_restore 13 = .ok (.iconst 1, 1) := by decide +kernel
theorem dX1_restore_14 : decode cX1_restore 14 = .ok (.isub, 1) := by decide +kernel
theorem dX1_restore_15 : decode cX1_restore 15 = .ok (.putfield 11, 3) := by decide +kernel
theorem dX1_restore_18 : decode cX1_restore 18 = .ok (.aload_n 0, 1) := by decide +kernel
theorem dX1_restore_19 : decode cX1_restore 19 = .ok (.getfield 11, 3) := by decide +kernel
theorem dX1_restore_22 : decode cX1_restore 22 = .ok (.bipush 63, 2) := by decide +kernel
theorem dX1_restore_24 : decode cX1_restore 24 = .ok (.imul, 1) := by decide +kernel
theorem dX1_restore_25 : decode cX1_restore 25 = .ok (.istore_n 2, 1) := by decide +kernel
theorem dX1_restore_26 : decode cX1_restore 26 = .ok (.aload_n 1, 1) := by decide +kernel
theorem dX1_restore_27 : decode cX1_restore 27 = .ok (.aload_n 0, 1) := by decide +kernel
theorem dX1_restore_28 : decode cX1_restore 28 = .ok (.getfield 15, 3) := by decide +kernel
theorem dX1_restore_31 : decode cX1_restore 31 = .ok (.iload_n 2, 1) := by decide +kernel
theorem dX1_restore_32 : decode cX1_restore 32 = .ok (.iconst 0, 1) := by decide +kernel
theorem dX1_restore_33 : decode cX1_restore 33 = .ok (.iadd, 1) := by decide +kernel
theorem dX1_restore_34 : decode cX1_restore 34 = .ok (.iaload, 1) := by decide +kernel
theorem dX1_restore_35 : decode cX1_restore 35 = .ok (.putfield 25, 3) := by decide +kernel
theorem dX1_restore_38 : decode cX1_restore 38 = .ok (.aload_n 1, 1) := by decide +kernel
theorem dX1_restore_39 : decode cX1_restore 39 = .ok (.aload_n 0, 1) := by decide +kernel
theorem dX1_restore_40 : decode cX1_restore 40 = .ok (.getfield 15, 3) := by decide +kernel
theorem dX1_restore_43 : decode cX1_restore 43 = .ok (.iload_n 2, 1) := by decide +kernel
theorem dX1_restore_44 : decode cX1_restore 44 = .ok (.iconst 1, 1) := by decide +kernel
theorem dX1_restore_45 : decode cX1_restore 45 = .ok (.iadd, 1) := by decide +kernel
theorem dX1_restore_46 : decode cX1_restore 46 = .ok (.iaload, 1) := by decide +kernel
theorem dX1_restore_47 : decode cX1_restore 47 = .ok (.putfield 30, 3) := by decide +kernel
theorem dX1_restore_50 : decode cX1_restore 50 = .ok (.aload_n 1, 1) := by decide +kernel
theorem dX1_restore_51 : decode cX1_restore 51 = .ok (.aload_n 0, 1) := by decide +kernel
theorem dX1_restore_52 : decode cX1_restore 52 = .ok (.getfield 15, 3) := by decide +kernel
theorem dX1_restore_55 : decode cX1_restore 55 = .ok (.iload_n 2, 1) := by decide +kernel
theorem dX1_restore_56 : decode cX1_restore 56 = .ok (.iconst 2, 1) := by decide +kernel
theorem dX1_restore_57 : decode cX1_restore 57 = .ok (.iadd, 1) := by decide +kernel
theorem dX1_restore_58 : decode cX1_restore 58 = .ok (.iaload, 1) := by decide +kernel
theorem dX1_restore_59 : decode cX1_restore 59 = .ok (.putfield 33, 3) := by decide +kernel
theorem dX1_restore_62 : decode cX1_restore 62 = .ok (.iconst 0, 1) := by decide +kernel
theorem dX1_restore_63 : decode cX1_restore 63 = .ok (.istore_n 3, 1) := by decide +kernel
theorem dX1_restore_64 : decode cX1_restore 64 = .ok (.iload_n 3, 1) := by decide +kernel
theorem dX1_restore_65 : decode cX1_restore 65 = .ok (.aload_n 1, 1) := by decide +kernel
theorem dX1_restore_66 : decode cX1_restore 66 = .ok (.getfield 33, 3) := by decide +kernel
theorem dX1_restore_69 : decode cX1_restore 69 = .ok (.if_icmp .ge 31, 3) := by decide +kernel
theorem dX1_restore_72 : decode cX1_restore 72 = .ok (.iload_n 3, 1) := by decide +kernel
theorem dX1_restore_73 : decode cX1_restore 73 = .ok (.bipush 60, 2) := by decide +kernel
theorem dX1_restore_75 : decode cX1_restore 75 = .ok (.if_icmp .ge 25, 3) := by decide +kernel
theorem dX1_restore_78 : decode cX1_restore 78 = .ok (.aload_n 1, 1) := by decide +kernel
theorem dX1_restore_79 : decode cX1_restore 79 = .ok (.getfield 34, 3) := by decide +kernel
theorem dX1_restore_82 : decode cX1_restore 82 = .ok (.iload_n 3, 1) := by decide +kernel
theorem dX1_restore_83 : decode cX1_restore 83 = .ok (.aload_n 0, 1) := by decide +kernel
theorem dX1_restore_84 : decode cX1_restore 84 = .ok (.getfield 15, 3) := by decide +kernel
theorem dX1_restore_87 : decode cX1_restore 87 = .ok (.iload_n 2, 1) := by decide +kernel
theorem dX1_restore_88 : decode cX1_restore 88 = .ok (.iconst 3, 1) := by decide +kernel
theorem dX1_restore_89 : decode cX1_restore 89 = .ok (.iadd, 1) := by decide +kernel
theorem dX1_restore_90 : decode cX1_restore 90 = .ok (.iload_n 3, 1) := by decide +kernel
theorem dX1_restore_91 : decode cX1_restore 91 = .ok (.iadd, 1) := by decide +kernel
theorem dX1_restore_92 : decode cX1_restore 92 = .ok (.iaload, 1) := by decide +kernel
theorem dX1_restore_93 : decode cX1_restore 93 = .ok (.iastore, 1) := by decide +kernel
theorem dX1_restore_94 : decode cX1_restore 94 = .ok (.iinc 3 1, 3) := by decide +kernel
theorem dX1_restore_97 : decode cX1_restore 97 = .ok (.goto (-33), 3) := by decide +kernel
theorem dX1_restore_100 : decode cX1_restore 100 = .ok (.return_, 1) := by decide +kernel
theorem dX2_init_0 : decode cX2_init 0 = .ok (.aload_n 0, 1) := by decide +kernel
theorem dX2_init_1 : decode cX2_init 1 = .ok (.invokespecial 3, 3) := by decide +kernel
theorem dX2_init_4 : decode cX2_init 4 = .ok (.aload_n 0, 1) := by decide +kernel
theorem dX2_init_5 : decode cX2_init 5 = .ok (.bipush 16, 2) := by decide +kernel
theorem dX2_init_7 : decode cX2_init 7 = .ok (.putfield 9, 3) := by decide +kernel
theorem dX2_init_10 : decode cX2_init 10 = .ok (.aload_n 0, 1) := by decide +kernel
theorem dX2_init_11 : decode cX2_init 11 = .ok (.iconst 1, 1) := by decide +kernel
theorem dX2_init_12 : decode cX2_init 12 = .ok (.putfield 15, 3) := by decide +kernel
theorem dX2_init_15 : decode cX2_init 15 = .ok (.aload_n 0, 1) := by decide +kernel
theorem dX2_init_16 : decode cX2_init 16 = .ok (.iconst 0, 1) := by decide +kernel
theorem dX2_init_17 : decode cX2_init 17 = .ok (.putfield 18, 3) := by decide +kernel
theorem dX2_init_20 : decode cX2_init 20 = .ok (.aload_n 0, 1) := by decide +kernel
theorem dX2_init_21 : decode cX2_init 21 = .ok (.bipush 120, 2) := by decide +kernel
theorem dX2_init_23 : decode cX2_init 23 = .ok (.newarray .int, 2) := by decide +kernel
theorem dX2_init_25 : decode cX2_init 25 = .ok (.putfield 21, 3) := by decide +kernel
theorem dX2_init_28 : decode cX2_init 28 = .ok (.return_, 1) := by decide +kernel
theorem dX2_empty_0 : decode cX2_empty 0 = .ok (.aload_n 0, 1) := by decide +kernel
theorem dX2_empty_1 : decode cX2_empty 1 = .ok (.iload_n 1, 1) := by decide +kernel
theorem dX2_empty_2 : decode cX2_empty 2 = .ok (.putfield 9, 3) := by decide +kernel
theorem dX2_empty_5 : decode cX2_empty 5 = .ok (.aload_n 0, 1) := by decide +kernel
theorem dX2_empty_6 : decode cX2_empty 6 = .ok (.iconst 0, 1) := by decide +kernel
theorem dX2_empty_7 : decode cX2_empty 7 = .ok (.putfield 18, 3) := by decide +kernel
theorem dX2_empty_10 : decode cX2_empty 10 = .ok (.return_, 1) := by decide +kernel
theorem dX2_emptyAs_0 : decode cX2_emptyAs 0 = .ok (.aload_n 0, 1) := by decide +kernel
theorem dX2_emptyAs_1 : decode cX2_emptyAs 1 = .ok (.aload_n 1, 1) := by decide +kernel
theorem dX2_emptyAs_2 : decode cX2_emptyAs 2 = .ok (.getfield 9, 3) := by decide +kernel
theorem dX2_emptyAs_5 : decode cX2_emptyAs 5 = .ok (.putfield 9, 3) := by decide +kernel
theorem dX2_emptyAs_8 : decode cX2_emptyAs 8 = .ok (.aload_n 0, 1) := by decide +kernel
theorem dX2_emptyAs_9 : decode cX2_emptyAs 9 = .ok (.aload_n 1, 1) := by decide +kernel
theorem dX2_emptyAs_10 : decode cX2_emptyAs 10 = .ok (.getfield 15, 3) := by decide +kernel
theorem dX2_emptyAs_13 : decode cX2_emptyAs 13 = .ok (.putfield 15, 3) := by decide +kernel
theorem dX2_emptyAs_16 : decode cX2_emptyAs 16 = .ok (.aload_n 0, 1) := by decide +kernel
theorem dX2_emptyAs_17 : decode cX2_emptyAs 17 = .ok (.iconst 0, 1) := by decide +kernel
theorem dX2_emptyAs_18 : decode cX2_emptyAs 18 = .ok (.putfield 18, 3) := by decide +kernel
theorem dX2_emptyAs_21 : decode cX2_emptyAs 21 = .ok (.return_, 1) := by decide +kernel
theorem dX2_become_0 : decode cX2_become 0 = .ok (.aload_n 0, 1) := by decide +kernel
theorem dX2_become_1 : decode cX2_become 1 = .ok (.aload_n 1, 1) := by decide +kernel
theorem dX2_become_2 : decode cX2_become 2 = .ok (.getfield 9, 3) := by decide +kernel
theorem dX2_become_5 : decode cX2_become 5 = .ok (.putfield 9, 3) := by decide +kernel
theorem dX2_become_8 : decode cX2_become 8 = .ok (.aload_n 0, 1) := by decide +kernel
theorem dX2_become_9 : decode cX2_become 9 = .ok (.aload_n 1, 1) := by decide +kernel
theorem dX2_become_10 : decode cX2_become 10 = .ok (.getfield 15, 3) := by decide +kernel
theorem dX2_become_13 : decode cX2_become 13 = .ok (.putfield 15, 3) := by decide +kernel
theorem dX2_become_16 : decode cX2_become 16 = .ok (.aload_n 0, 1) := by decide +kernel
theorem dX2_become_17 : decode cX2_become 17 = .ok (.aload_n 1, 1) := by decide +kernel
theorem dX2_become_18 : decode cX2_become 18 = .ok (.getfield 18, 3) := by decide +kernel
theorem dX2_become_21 : decode cX2_become 21 = .ok (.putfield 18, 3) := by decide +kernel
theorem dX2_become_24 : decode cX2_become 24 = .ok (.aload_n 1, 1) := by decide +kernel
theorem dX2_become_25 : decode cX2_become 25 = .ok (.getfield 21, 3) := by decide +kernel
theorem dX2_become_28 : decode cX2_become 28 = .ok (.iconst 0, 1) := by decide +kernel
theorem dX2_become_29 : decode cX2_become 29 = .ok (.aload_n 0, 1) := by decide +kernel
theorem dX2_become_30 : decode cX2_become 30 = .ok (.getfield 21, 3) := by decide +kernel
theorem dX2_become_33 : decode cX2_become 33 = .ok (.iconst 0, 1) := by decide +kernel
theorem dX2_become_34 : decode cX2_become 34 = .ok (.aload_n 1, 1) := by decide +kernel
theorem dX2_become_35 : decode cX2_become 35 = .ok (.getfield 18, 3) := by decide +kernel
theorem dX2_become_38 : decode cX2_become 38 = .ok (.invokestatic 25, 3) := by decide +kernel
theorem dX2_become_41 : decode cX2_become 41 = .ok (.return_, 1) := by decide +kernel
theorem dX2_at_0 : decode cX2_at 0 = .ok (.iload_n 1, 1) := by decide +kernel
theorem dX2_at_1 : decode cX2_at 1 = .ok (.ifCond .lt 20, 3) := by decide +kernel
theorem dX2_at_4 : decode cX2_at 4 = .ok (.iload_n 1, 1) := by decide +kernel
theorem dX2_at_5 : decode cX2_at 5 = .ok (.aload_n 0, 1) := by decide +kernel
theorem dX2_at_6 : decode cX2_at 6 = .ok (.getfield 18, 3) := by decide +kernel
theorem dX2_at_9 : decode cX2_at 9 = .ok (.if_icmp .ge 12, 3) := by decide +kernel
theorem dX2_at_12 : decode cX2_at 12 = .ok (.aload_n 0, 1) := by decide +kernel
theorem dX2_at_13 : decode cX2_at 13 = .ok (.getfield 21, 3) := by decide +kernel
theorem dX2_at_16 : decode cX2_at 16 = .ok (.iload_n 1, 1) := by decide +kernel
theorem dX2_at_17 : decode cX2_at 17 = .ok (.iaload, 1) := by decide +kernel
theorem dX2_at_18 : decode cX2_at 18 = .ok (.goto 4, 3) := by decide +kernel
theorem dX2_at_21 : decode cX2_at 21 = .ok (.iconst (-1), 1) := by decide +kernel
theorem dX2_at_22 : decode cX2_at 22 = .ok (.ireturn, 1) := by decide +kernel
theorem dX2_hasRoomFor_0 : decode cX2_hasRoomFor 0 = .ok (.iload_n 1, 1) := by decide +kernel
theorem dX2_hasRoomFor_1 : decode cX2_hasRoomFor 1 = .ok (.invokestatic 31, 3) := by decide +kernel
theorem dX2_hasRoomFor_4 : decode cX2_hasRoomFor 4 = .ok (.istore_n 2, 1) := by decide +kernel
theorem dX2_hasRoomFor_5 : decode cX2_hasRoomFor 5 = .ok (.iload_n 1, 1) := by decide +kernel
theorem dX2_hasRoomFor_6 : decode cX2_hasRoomFor 6 = .ok (.invokestatic 37, 3) := by decide +kernel
theorem dX2_hasRoomFor_9 : decode cX2_hasRoomFor 9 = .ok (.istore_n 3, 1) := by decide +kernel
theorem dX2_hasRoomFor_10 : decode cX2_hasRoomFor 10 = .ok (.iload_n 3, 1) := by decide +kernel
theorem dX2_hasRoomFor_11 : decode cX2_hasRoomFor 11 = .ok (.aload_n 0, 1) := by decide +kernel
theorem dX2_hasRoomFor_12 : decode cX2_hasRoomFor 12 = .ok (.getfield 9, 3) := by decide +kernel
theorem dX2_hasRoomFor_15 : decode cX2_hasRoomFor 15 = .ok (.if_icmp .le 5, 3) := by decide +kernel
theorem dX2_hasRoomFor_18 : decode cX2_hasRoomFor 18 = .ok (.iconst 0, 1) := by decide +kernel
theorem dX2_hasRoomFor_19 : decode cX2_hasRoomFor 19 = .ok (.ireturn, 1) := by decide +kernel
theorem dX2_hasRoomFor_20 : decode cX2_hasRoomFor 20 = .ok (.iconst 0, 1) := by decide +kernel
theorem dX2_hasRoomFor_21 : decode cX2_hasRoomFor 21 = .ok (.istore 4, 2) := by decide +kernel
theorem dX2_hasRoomFor_23 : decode cX2_hasRoomFor 23 = .ok (.iload 4, 2) := by decide +kernel
theorem dX2_hasRoomFor_25 : decode cX2_hasRoomFor 25 = .ok (.aload_n 0, 1) := by decide +kernel
theorem dX2_hasRoomFor_26 : decode cX2_hasRoomFor 26 = .ok (.getfield 18, 3) := by decide +kernel
theorem dX2_hasRoomFor_29 : decode cX2_hasRoomFor 29 = .ok (.if_icmp .ge 50, 3) := by decide +kernel
theorem dX2_hasRoomFor_32 : decode cX2_hasRoomFor 32 = .ok (.aload_n 0, 1) := by decide +kernel
theorem dX2_hasRoomFor_33 : decode cX2_hasRoomFor 33 = .ok (.getfield 21, 3) := by decide +kernel
theorem dX2_hasRoomFor_36 : decode cX2_hasRoomFor 36 = .ok (.iload 4, 2) := by decide +kernel
theorem dX2_hasRoomFor_38 : decode cX2_hasRoomFor 38 = .ok (.iaload, 1) := by decide +kernel
theorem dX2_hasRoomFor_39 : decode cX2_hasRoomFor 39 = .ok (.istore 5, 2) := by decide +kernel
theorem dX2_hasRoomFor_41 : decode cX2_hasRoomFor 41 = .ok (.iload 5, 2) := by decide +kernel
theorem dX2_hasRoomFor_43 : decode cX2_hasRoomFor 43 = .ok (.invokestatic 40, 3) := by decide +kernel
theorem dX2_hasRoomFor_46 : decode cX2_hasRoomFor 46 = .ok (.iload_n 1, 1) := by decide +kernel
theorem dX2_hasRoomFor_47 : decode cX2_hasRoomFor 47 = .ok (.invokestatic 40, 3) := by decide +kernel
theorem dX2_hasRoomFor_50 : decode cX2_hasRoomFor 50 = .ok (.if_icmp .ne 23, 3) := by decide +kernel
theorem dX2_hasRoomFor_53 : decode cX2_hasRoomFor 53 = .ok (.iload 5, 2) := by decide +kernel
theorem dX2_hasRoomFor_55 : decode cX2_hasRoomFor 55 = .ok (.invokestatic 31, 3) := by decide +kernel
theorem dX2_hasRoomFor_58 : decode cX2_hasRoomFor 58 = .ok (.iload_n 3, 1) := by decide +kernel
theorem dX2_hasRoomFor_59 : decode cX2_hasRoomFor 59 = .ok (.if_icmp .ge 14, 3) := by decide +kernel
theorem dX2_hasRoomFor_62 : decode cX2_hasRoomFor 62 = .ok (.iload_n 2, 1) := by decide +kernel
theorem dX2_hasRoomFor_63 : decode cX2_hasRoomFor 63 = .ok (.iload 5, 2) := by decide +kernel
theorem dX2_hasRoomFor_65 : decode cX2_hasRoomFor 65 = .ok (.invokestatic 37, 3) := by decide +kernel
theorem dX2_hasRoomFor_68 : decode cX2_hasRoomFor 68 = .ok (.if_icmp .ge 5, 3) := by decide +kernel
theorem dX2_hasRoomFor_71 : decode cX2_hasRoomFor 71 = .ok (.iconst 0, 1) := by decide +kernel
theorem dX2_hasRoomFor_72 : decode cX2_hasRoomFor 72 = .ok (.ireturn, 1) := by decide +kernel
theorem dX2_hasRoomFor_73 : decode cX2_hasRoomFor 73 = .ok (.iinc 4 1, 3) := by decide +kernel
theorem dX2_hasRoomFor_76 : decode cX2_hasRoomFor 76 = .ok (.goto (-53), 3) := by decide +kernel
theorem dX2_hasRoomFor_79 : decode cX2_hasRoomFor 79 = .ok (.iconst 1, 1) := by decide +kernel
theorem dX2_hasRoomFor_80 : decode cX2_hasRoomFor 80 = .ok (.ireturn, 1) := by decide +kernel
theorem dX2_put_0 : decode cX2_put 0 = .ok (.aload_n 0, 1) := by decide +kernel
theorem dX2_put_1 : decode cX2_put 1 = .ok (.getfield 18, 3) := by decide +kernel
theorem dX2_put_4 : decode cX2_put 4 = .ok (.aload_n 0, 1) := by decide +kernel
theorem dX2_put_5 : decode cX2_put 5 = .ok (.getfield 21, 3) := by decide +kernel
theorem dX2_put_8 : decode cX2_put 8 = .ok (.arraylength, 1) := by decide +kernel
theorem dX2_put_9 : decode cX2_put 9 = .ok (.if_icmp .lt 5, 3) := by decide +kernel
theorem dX2_put_12 : decode cX2_put 12 = .ok (.iconst (-1), 1) := by decide +kernel
theorem dX2_put_13 : decode cX2_put 13 = .ok (.ireturn, 1) := by decide +kernel
theorem dX2_put_14 : decode cX2_put 14 = .ok (.aload_n 0, 1) := by decide +kernel
theorem dX2_put_15 : decode cX2_put 15 = .ok (.getfield 18, 3) := by decide +kernel
theorem dX2_put_18 : decode cX2_put 18 = .ok (.istore_n 2, 1) := by decide +kernel
theorem dX2_put_19 : decode cX2_put 19 = .ok (.iload_n 2, 1) := by decide +kernel
theorem dX2_put_20 : decode cX2_put 20 = .ok (.ifCond .le 35, 3) := by decide +kernel
theorem dX2_put_23 : decode cX2_put 23 = .ok (.aload_n 0, 1) := by decide +kernel
theorem dX2_put_24 : decode cX2_put 24 = .ok (.getfield 21, 3) := by decide +kernel
theorem dX2_put_27 : decode cX2_put 27 = .ok (.iload_n 2, 1) := by decide +kernel
theorem dX2_put_28 : decode cX2_put 28 = .ok (.iconst 1, 1) := by decide +kernel
theorem dX2_put_29 : decode cX2_put 29 = .ok (.isub, 1) := by decide +kernel
theorem dX2_put_30 : decode cX2_put 30 = .ok (.iaload, 1) := by decide +kernel
theorem dX2_put_31 : decode cX2_put 31 = .ok (.iload_n 1, 1) := by decide +kernel
theorem dX2_put_32 : decode cX2_put 32 = .ok (.if_icmp .le 23, 3) := by decide +kernel
theorem dX2_put_35 : decode cX2_put 35 = .ok (.aload_n 0, 1) := by decide +kernel
theorem dX2_put_36 : decode cX2_put 36 = .ok (.getfield 21, 3) := by decide +kernel
theorem dX2_put_39 : decode cX2_put 39 = .ok (.iload_n 2, 1) := by decide +kernel
theorem dX2_put_40 : decode cX2_put 40 = .ok (.aload_n 0, 1) := by decide +kernel
theorem dX2_put_41 : decode cX2_put 41 = .ok (.getfield 21, 3) := by decide +kernel
theorem dX2_put_44 : decode cX2_put 44 = .ok (.iload_n 2, 1) := by decide +kernel
theorem dX2_put_45 : decode cX2_put 45 = .ok (.iconst 1, 1) := by decide +kernel
theorem dX2_put_46 : decode cX2_put 46 = .ok (.isub, 1) := by decide +kernel
theorem dX2_put_47 : decode cX2_put 47 = .ok (.iaload, 1) := by decide +kernel
theorem dX2_put_48 : decode cX2_put 48 = .ok (.iastore, 1) := by decide +kernel
theorem dX2_put_49 : decode cX2_put 49 = .ok (.iinc 2 (-1), 3) := by decide +kernel
theorem dX2_put_52 : decode cX2_put 52 = .ok (.goto (-33), 3) := by decide +kernel
theorem dX2_put_55 : decode cX2_put 55 = .ok (.aload_n 0, 1) := by decide +kernel
theorem dX2_put_56 : decode cX2_put 56 = .ok (.getfield 21, 3) := by decide +kernel
theorem dX2_put_59 : decode cX2_put 59 = .ok (.iload_n 2, 1) := by decide +kernel
theorem dX2_put_60 : decode cX2_put 60 = .ok (.iload_n 1, 1) := by decide +kernel
theorem dX2_put_61 : decode cX2_put 61 = .ok (.iastore, 1) := by decide +kernel
theorem dX2_put_62 : decode cX2_put 62 = .ok (.aload_n 0, 1) := by decide +kernel
theorem dX2_put_63 : decode cX2_put 63 = .ok (.dup, 1) := by decide +kernel
theorem dX2_put_64 : decode cX2_put 64 = .ok (.getfield 18, 3) := by decide +kernel
theorem dX2_put_67 : decode cX2_put 67 = .ok (.iconst 1, 1) := by decide +kernel
theorem dX2_put_68 : decode cX2_put 68 = .ok (.iadd, 1) := by decide +kernel
theorem dX2_put_69 : decode cX2_put 69 = .ok (.putfield 18, 3) := by decide +kernel
theorem dX2_put_72 : decode cX2_put 72 = .ok (.iload_n 2, 1) := by decide +kernel
theorem dX2_put_73 : decode cX2_put 73 = .ok (.ireturn, 1) := by decide +kernel
theorem dX2_takeOut_0 : decode cX2_takeOut 0 = .ok (.iload_n 1, 1) := by decide +kernel
theorem dX2_takeOut_1 : decode cX2_takeOut 1 = .ok (.ifCond .lt 11, 3) := by decide +kernel
theorem dX2_takeOut_4 : decode cX2_takeOut 4 = .ok (.iload_n 1, 1) := by decide +kernel
theorem dX2_takeOut_5 : decode cX2_takeOut 5 = .ok (.aload_n 0, 1) := by decide +kernel
theorem dX2_takeOut_6 : decode cX2_takeOut 6 = .ok (.getfield 18, 3) := by decide +kernel
theorem dX2_takeOut_9 : decode cX2_takeOut 9 = .ok (.if_icmp .lt 4, 3) := by decide +kernel
theorem dX2_takeOut_12 : decode cX2_takeOut 12 = .ok (.return_, 1) := by decide +kernel
theorem dX2_takeOut_13 : decode cX2_takeOut 13 = .ok (.iload_n 1, 1) := by decide +kernel
theorem dX2_takeOut_14 : decode cX2_takeOut 14 = .ok (.istore_n 2, 1) := by decide +kernel
theorem dX2_takeOut_15 : decode cX2_takeOut 15 = .ok (.iload_n 2, 1) := by decide +kernel
theorem dX2_takeOut_16 : decode cX2_takeOut 16 = .ok (.aload_n 0, 1) := by decide +kernel
theorem dX2_takeOut_17 : decode cX2_takeOut 17 = .ok (.getfield 18, 3) := by decide +kernel
theorem dX2_takeOut_20 : decode cX2_takeOut 20 = .ok (.iconst 1, 1) := by decide +kernel
theorem dX2_takeOut_21 : decode cX2_takeOut 21 = .ok (.isub, 1) := by decide +kernel
theorem dX2_takeOut_22 : decode cX2_takeOut 22 = .ok (.if_icmp .ge 23, 3) := by decide +kernel
theorem dX2_takeOut_25 : decode cX2_takeOut 25 = .ok (.aload_n 0, 1) := by decide +kernel
theorem dX2_takeOut_26 : decode cX2_takeOut 26 = .ok (.getfield 21, 3) := by decide +kernel
theorem dX2_takeOut_29 : decode cX2_takeOut 29 = .ok (.iload_n 2, 1) := by decide +kernel
theorem dX2_takeOut_30 : decode cX2_takeOut 30 = .ok (.aload_n 0, 1) := by decide +kernel
theorem dX2_takeOut_31 : decode cX2_takeOut 31 = .ok (.getfield 21, 3) := by decide +kernel
theorem dX2_takeOut_34 : decode cX2_takeOut 34 = .ok (.iload_n 2, 1) := by decide +kernel
theorem dX2_takeOut_35 : decode cX2_takeOut 35 = .ok (.iconst 1, 1) := by decide +kernel
theorem dX2_takeOut_36 : decode cX2_takeOut 36 = .ok (.iadd, 1) := by decide +kernel
theorem dX2_takeOut_37 : decode cX2_takeOut 37 = .ok (.iaload, 1) := by decide +kernel
theorem dX2_takeOut_38 : decode cX2_takeOut 38 = .ok (.iastore, 1) := by decide +kernel
theorem dX2_takeOut_39 : decode cX2_takeOut 39 = .ok (.iinc 2 1, 3) := by decide +kernel
theorem dX2_takeOut_42 : decode cX2_takeOut 42 = .ok (.goto (-27), 3) := by decide +kernel
theorem dX2_takeOut_45 : decode cX2_takeOut 45 = .ok (.aload_n 0, 1) := by decide +kernel
theorem dX2_takeOut_46 : decode cX2_takeOut 46 = .ok (.dup, 1) := by decide +kernel
theorem dX2_takeOut_47 : decode cX2_takeOut 47 = .ok (.getfield 18, 3) := by decide +kernel
theorem dX2_takeOut_50 : decode cX2_takeOut 50 = .ok (.iconst 1, 1) := by decide +kernel
theorem dX2_takeOut_51 : decode cX2_takeOut 51 = .ok (.isub, 1) := by decide +kernel
theorem dX2_takeOut_52 : decode cX2_takeOut 52 = .ok (.putfield 18, 3) := by decide +kernel
theorem dX2_takeOut_55 : decode cX2_takeOut 55 = .ok (.return_, 1) := by decide +kernel
theorem dX2_endOf_0 : decode cX2_endOf 0 = .ok (.aload_n 0, 1) := by decide +kernel
theorem dX2_endOf_1 : decode cX2_endOf 1 = .ok (.iload_n 1, 1) := by decide +kernel
theorem dX2_endOf_2 : decode cX2_endOf 2 = .ok (.invokevirtual 43, 3) := by decide +kernel
theorem dX2_endOf_5 : decode cX2_endOf 5 = .ok (.istore_n 2, 1) := by decide +kernel
theorem dX2_endOf_6 : decode cX2_endOf 6 = .ok (.iload_n 2, 1) := by decide +kernel
theorem dX2_endOf_7 : decode cX2_endOf 7 = .ok (.invokestatic 46, 3) := by decide +kernel
theorem dX2_endOf_10 : decode cX2_endOf 10 = .ok (.iconst 1, 1) := by decide +kernel
theorem dX2_endOf_11 : decode cX2_endOf 11 = .ok (.if_icmp .eq 8, 3) := by decide +kernel
theorem dX2_endOf_14 : decode cX2_endOf 14 = .ok (.iload_n 2, 1) := by decide +kernel
theorem dX2_endOf_15 : decode cX2_endOf 15 = .ok (.invokestatic 37, 3) := by decide +kernel
theorem dX2_endOf_18 : decode cX2_endOf 18 = .ok (.ireturn, 1) := by decide +kernel
theorem dX2_endOf_19 : decode cX2_endOf 19 = .ok (.iload_n 1, 1) := by decide +kernel
theorem dX2_endOf_20 : decode cX2_endOf 20 = .ok (.iconst 1, 1) := by decide +kernel
theorem dX2_endOf_21 : decode cX2_endOf 21 = .ok (.iadd, 1) := by decide +kernel
theorem dX2_endOf_22 : decode cX2_endOf 22 = .ok (.istore_n 3, 1) := by decide +kernel
theorem dX2_endOf_23 : decode cX2_endOf 23 = .ok (.iload_n 3, 1) := by decide +kernel
theorem dX2_endOf_24 : decode cX2_endOf 24 = .ok (.aload_n 0, 1) := by decide +kernel
theorem dX2_endOf_25 : decode cX2_endOf 25 = .ok (.getfield 18, 3) := by decide +kernel
theorem dX2_endOf_28 : decode cX2_endOf 28 = .ok (.if_icmp .ge 35, 3) := by decide +kernel
theorem dX2_endOf_31 : decode cX2_endOf 31 = .ok (.aload_n 0, 1) := by decide +kernel
theorem dX2_endOf_32 : decode cX2_endOf 32 = .ok (.getfield 21, 3) := by decide +kernel
theorem dX2_endOf_35 : decode cX2_endOf 35 = .ok (.iload_n 3, 1) := by decide +kernel
theorem dX2_endOf_36 : decode cX2_endOf 36 = .ok (.iaload, 1) := by decide +kernel
theorem dX2_endOf_37 : decode cX2_endOf 37 = .ok (.invokestatic 40, 3) := by decide +kernel
theorem dX2_endOf_40 : decode cX2_endOf 40 = .ok (.iload_n 2, 1) := by decide +kernel
theorem dX2_endOf_41 : decode cX2_endOf 41 = .ok (.invokestatic 40, 3) := by decide +kernel
theorem dX2_endOf_44 : decode cX2_endOf 44 = .ok (.if_icmp .ne 13, 3) := by decide +kernel
theorem dX2_endOf_47 : decode cX2_endOf 47 = .ok (.aload_n 0, 1) := by decide +kernel
theorem dX2_endOf_48 : decode cX2_endOf 48 = .ok (.getfield 21, 3) := by decide +kernel
theorem dX2_endOf_51 : decode cX2_endOf 51 = .ok (.iload_n 3, 1) := by decide +kernel
theorem dX2_endOf_52 : decode cX2_endOf 52 = .ok (.iaload, 1) := by decide +kernel
theorem dX2_endOf_53 : decode cX2_endOf 53 = .ok (.invokestatic 31, 3) := by decide +kernel
theorem dX2_endOf_56 : decode cX2_endOf 56 = .ok (.ireturn, 1) := by decide +kernel
theorem dX2_endOf_57 : decode cX2_endOf 57 = .ok (.iinc 3 1, 3) := by decide +kernel
theorem dX2_endOf_60 : decode cX2_endOf 60 = .ok (.goto (-37), 3) := by decide +kernel
theorem dX2_endOf_63 : decode cX2_endOf 63 = .ok (.aload_n 0, 1) := by decide +kernel
theorem dX2_endOf_64 : decode cX2_endOf 64 = .ok (.getfield 9, 3) := by decide +kernel
theorem dX2_endOf_67 : decode cX2_endOf 67 = .ok (.ireturn, 1) := by decide +kernel
theorem dX2_numberCovering_0 : decode cX2_numberCovering 0 = .ok (.iconst (-1), 1) := by decide +kernel
theorem dX2_numberCovering_1 : decode cX2_numberCovering 1 = .ok (.istore_n 3, 1) := by decide +kernel
theorem dX2_numberCovering_2 : decode cX2_numberCovering 2 = .ok (.iconst 0, 1) := by decide +kernel
theorem dX2_numberCovering_3 : decode cX2_numberCovering 3 = .ok (.istore 4, 2) := by decide +kernel
theorem dX2_numberCovering_5 : decode cX2_numberCovering 5 = .ok (.iload 4, 2) := by decide +kernel
theorem dX2_numberCovering_7 : decode cX2_numberCovering 7 = .ok (.aload_n 0, 1) := by decide +kernel
theorem dX2_numberCovering_8 : decode cX2_numberCovering 8 = .ok (.getfield 18, 3) := by decide +kernel
theorem dX2_numberCovering_11 : decode cX2_numberCovering 11 = .ok (.if_icmp .ge 40, 3) := by decide +kernel
theorem dX2_numberCovering_14 : decode cX2_numberCovering 14 = .ok (.aload_n 0, 1) := by decide +kernel
theorem dX2_numberCovering_15 : decode cX2_numberCovering 15 = .ok (.getfield 21, 3) := by decide +kernel
theorem dX2_numberCovering_18 : decode cX2_numberCovering 18 = .ok (.iload 4, 2) := by decide +kernel
theorem dX2_numberCovering_20 : decode cX2_numberCovering 20 = .ok (.iaload, 1) := by decide +kernel
theorem dX2_numberCovering_21 : decode cX2_numberCovering 21 = .ok (.invokestatic 40, 3) := by decide +kernel
theorem dX2_numberCovering_24 : decode cX2_numberCovering 24 = .ok (.iload_n 1, 1) := by decide +kernel
theorem dX2_numberCovering_25 : decode cX2_numberCovering 25 = .ok (.if_icmp .ne 20, 3) := by decide +kernel
theorem dX2_numberCovering_28 : decode cX2_numberCovering 28 = .ok (.aload_n 0, 1) := by decide +kernel
theorem dX2_numberCovering_29 : decode cX2_numberCovering 29 = .ok (.getfield 21, 3) := by decide +kernel
theorem dX2_numberCovering_32 : decode cX2_numberCovering 32 = .ok (.iload 4, 2) := by decide +kernel
theorem dX2_numberCovering_34 : decode cX2_numberCovering 34 = .ok (.iaload, 1) := by decide +kernel
theorem dX2_numberCovering_35 : decode cX2_numberCovering 35 = .ok (.invokestatic 31, 3) := by decide +kernel
theorem dX2_numberCovering_38 : decode cX2_numberCovering 38 = .ok (.iload_n 2, 1) := by decide +kernel
theorem dX2_numberCovering_39 : decode cX2_numberCovering 39 = .ok (.if_icmp .gt 6, 3) := by decide +kernel
theorem dX2_numberCovering_42 : decode cX2_numberCovering 42 = .ok (.iload 4, 2) := by decide +kernel
theorem dX2_numberCovering_44 : decode cX2_numberCovering 44 = .ok (.istore_n 3, 1) := by decide +kernel
theorem dX2_numberCovering_45 : decode cX2_numberCovering 45 = .ok (.iinc 4 1, 3) := by decide +kernel
theorem dX2_numberCovering_48 : decode cX2_numberCovering 48 = .ok (.goto (-43), 3) := by decide +kernel
theorem dX2_numberCovering_51 : decode cX2_numberCovering 51 = .ok (.iload_n 3, 1) := by decide +kernel
theorem dX2_numberCovering_52 : decode cX2_numberCovering 52 = .ok (.iconst (-1), 1) := by decide +kernel
theorem dX2_numberCovering_53 : decode cX2_numberCovering 53 = .ok (.if_icmp .eq 16, 3) := by decide +kernel
theorem dX2_numberCovering_56 : decode cX2_numberCovering 56 = .ok (.iload_n 2, 1) := by decide +kernel
theorem dX2_numberCovering_57 : decode cX2_numberCovering 57 = .ok (.aload_n 0, 1) := by decide +kernel
theorem dX2_numberCovering_58 : decode cX2_numberCovering 58 = .ok (.iload_n 3, 1) := by decide +kernel
theorem dX2_numberCovering_59 : decode cX2_numberCovering 59 = .ok (.invokevirtual 49, 3) := by decide +kernel
theorem dX2_numberCovering_62 : decode cX2_numberCovering 62 = .ok (.if_icmp .ge 7, 3) := by decide +kernel
theorem dX2_numberCovering_65 : decode cX2_numberCovering 65 = .ok (.iload_n 3, 1) := by decide +kernel
theorem dX2_numberCovering_66 : decode cX2_numberCovering 66 = .ok (.goto 4, 3) := by decide +kernel
theorem dX2_numberCovering_69 : decode cX2_numberCovering 69 = .ok (.iconst (-1), 1) := by decide +kernel
theorem dX2_numberCovering_70 : decode cX2_numberCovering 70 = .ok (.ireturn, 1) := by decide +kernel
theorem dX2_fillRow_0 : decode cX2_fillRow 0 = .ok (.aload_n 2, 1) := by decide +kernel
theorem dX2_fillRow_1 : decode cX2_fillRow 1 = .ok (.iconst (-1), 1) := by decide +kernel
theorem dX2_fillRow_2 : decode cX2_fillRow 2 = .ok (.invokestatic 52, 3) := by decide +kernel
theorem dX2_fillRow_5 : decode cX2_fillRow 5 = .ok (.iconst 0, 1) := by decide +kernel
theorem dX2_fillRow_6 : decode cX2_fillRow 6 = .ok (.istore_n 3, 1) := by decide +kernel
theorem dX2_fillRow_7 : decode cX2_fillRow 7 = .ok (.iload_n 3, 1) := by decide +kernel
theorem dX2_fillRow_8 : decode cX2_fillRow 8 = .ok (.aload_n 0, 1) := by decide +kernel
theorem dX2_fillRow_9 : decode cX2_fillRow 9 = .ok (.getfield 18, 3) := by decide +kernel
theorem dX2_fillRow_12 : decode cX2_fillRow 12 = .ok (.if_icmp .ge 68, 3) := by decide +kernel
theorem dX2_fillRow_15 : decode cX2_fillRow 15 = .ok (.aload_n 0, 1) := by decide +kernel
theorem dX2_fillRow_16 : decode cX2_fillRow 16 = .ok (.getfield 21, 3) := by decide +kernel
theorem dX2_fillRow_19 : decode cX2_fillRow 19 = .ok (.iload_n 3, 1) := by decide +kernel
theorem dX2_fillRow_20 : decode cX2_fillRow 20 = .ok (.iaload, 1) := by decide +kernel
theorem dX2_fillRow_21 : decode cX2_fillRow 21 = .ok (.invokestatic 40, 3) := by decide +kernel
theorem dX2_fillRow_24 : decode cX2_fillRow 24 = .ok (.iload_n 1, 1) := by decide +kernel
theorem dX2_fillRow_25 : decode cX2_fillRow 25 = .ok (.if_icmp .ne 49, 3) := by decide +kernel
theorem dX2_fillRow_28 : decode cX2_fillRow 28 = .ok (.aload_n 0, 1) := by decide +kernel
theorem dX2_fillRow_29 : decode cX2_fillRow 29 = .ok (.iload_n 3, 1) := by decide +kernel
theorem dX2_fillRow_30 : decode cX2_fillRow 30 = .ok (.invokevirtual 49, 3) := by decide +kernel
theorem dX2_fillRow_33 : decode cX2_fillRow 33 = .ok (.aload_n 2, 1) := by decide +kernel
theorem dX2_fillRow_34 : decode cX2_fillRow 34 = .ok (.arraylength, 1) := by decide +kernel
theorem dX2_fillRow_35 : decode cX2_fillRow 35 = .ok (.invokestatic 58, 3) := by decide +kernel
theorem dX2_fillRow_38 : decode cX2_fillRow 38 = .ok (.istore 4, 2) := by decide +kernel
theorem dX2_fillRow_40 : decode cX2_fillRow 40 = .ok (.aload_n 0, 1) := by decide +kernel
theorem dX2_fillRow_41 : decode cX2_fillRow 41 = .ok (.getfield 21, 3) := by decide +kernel
theorem dX2_fillRow_44 : decode cX2_fillRow 44 = .ok (.iload_n 3, 1) := by decide +kernel
theorem dX2_fillRow_45 : decode cX2_fillRow 45 = .ok (.iaload, 1) := by decide +kernel
theorem dX2_fillRow_46 : decode cX2_fillRow 46 = .ok (.invokestatic 31, 3) := by decide +kernel
theorem dX2_fillRow_49 : decode cX2_fillRow 49 = .ok (.istore 5, 2) := by decide +kernel
theorem dX2_fillRow_51 : decode cX2_fillRow 51 = .ok (.iload 5, 2) := by decide +kernel
theorem dX2_fillRow_53 : decode cX2_fillRow 53 = .ok (.iload 4, 2) := by decide +kernel
theorem dX2_fillRow_55 : decode cX2_fillRow 55 = .ok (.if_icmp .ge 19, 3) := by decide +kernel
theorem dX2_fillRow_58 : decode cX2_fillRow 58 = .ok (.aload_n 2, 1) := by decide +kernel
theorem dX2_fillRow_59 : decode cX2_fillRow 59 = .ok (.iload 5, 2) := by decide +kernel
theorem dX2_fillRow_61 : decode cX2_fillRow 61 = .ok (.aload_n 0, 1) := by decide +kernel
theorem dX2_fillRow_62 : decode cX2_fillRow 62 = .ok (.getfield 21, 3) := by decide +kernel
theorem dX2_fillRow_65 : decode cX2_fillRow 65 = .ok (.iload_n 3, 1) := by decide +kernel
theorem dX2_fillRow_66 : decode cX2_fillRow 66 = .ok (.iaload, 1) := by decide +kernel
theorem dX2_fillRow_67 : decode cX2_fillRow 67 = .ok (.iastore, 1) := by decide +kernel
theorem dX2_fillRow_68 : decode cX2_fillRow 68 = .ok (.iinc 5 1, 3) := by decide +kernel
theorem dX2_fillRow_71 : decode cX2_fillRow 71 = .ok (.goto (-20), 3) := by decide +kernel
theorem dX2_fillRow_74 : decode cX2_fillRow 74 = .ok (.iinc 3 1, 3) := by decide +kernel
theorem dX2_fillRow_77 : decode cX2_fillRow 77 = .ok (.goto (-70), 3) := by decide +kernel
theorem dX2_fillRow_80 : decode cX2_fillRow 80 = .ok (.return_, 1) := by decide +kernel
theorem dX3_init_0 : decode cX3_init 0 = .ok (.aload_n 0, 1) := by decide +kernel
theorem dX3_init_1 : decode cX3_init 1 = .ok (.invokespecial 3, 3) := by decide +kernel
theorem dX3_init_4 : decode cX3_init 4 = .ok (.aload_n 0, 1) := by decide +kernel
theorem dX3_init_5 : decode cX3_init 5 = .ok (.iconst 0, 1) := by decide +kernel
theorem dX3_init_6 : decode cX3_init 6 = .ok (.putfield 9, 3) := by decide +kernel
theorem dX3_init_9 : decode cX3_init 9 = .ok (.aload_n 0, 1) := by decide +kernel
theorem dX3_init_10 : decode cX3_init 10 = .ok (.iconst 0, 1) := by decide +kernel
theorem dX3_init_11 : decode cX3_init 11 = .ok (.putfield 15, 3) := by decide +kernel
theorem dX3_init_14 : decode cX3_init 14 = .ok (.aload_n 0, 1) := by decide +kernel
theorem dX3_init_15 : decode cX3_init 15 = .ok (.bipush 120, 2) := by decide +kernel
theorem dX3_init_17 : decode cX3_init 17 = .ok (.newarray .int, 2) := by decide +kernel
theorem dX3_init_19 : decode cX3_init 19 = .ok (.putfield 18, 3) := by decide +kernel
theorem dX3_init_22 : decode cX3_init 22 = .ok (.aload_n 0, 1) := by decide +kernel
theorem dX3_init_23 : decode cX3_init 23 = .ok (.bipush 7, 2) := by decide +kernel
theorem dX3_init_25 : decode cX3_init 25 = .ok (.newarray .int, 2) := by decide +kernel
theorem dX3_init_27 : decode cX3_init 27 = .ok (.putfield 22, 3) := by decide +kernel
theorem dX3_init_30 : decode cX3_init 30 = .ok (.return_, 1) := by decide +kernel
theorem dX3_append_0 : decode cX3_append 0 = .ok (.aload_n 0, 1) := by decide +kernel
theorem dX3_append_1 : decode cX3_append 1 = .ok (.getfield 9, 3) := by decide +kernel
theorem dX3_append_4 : decode cX3_append 4 = .ok (.bipush 120, 2) := by decide +kernel
theorem dX3_append_6 : decode cX3_append 6 = .ok (.if_icmp .ge 23, 3) := by decide +kernel
theorem dX3_append_9 : decode cX3_append 9 = .ok (.aload_n 0, 1) := by decide +kernel
theorem dX3_append_10 : decode cX3_append 10 = .ok (.getfield 18, 3) := by decide +kernel
theorem dX3_append_13 : decode cX3_append 13 = .ok (.aload_n 0, 1) := by decide +kernel
theorem dX3_append_14 : decode cX3_append 14 = .ok (.getfield 9, 3) := by decide +kernel
theorem dX3_append_17 : decode cX3_append 17 = .ok (.iload_n 1, 1) := by decide +kernel
theorem dX3_append_18 : decode cX3_append 18 = .ok (.iastore, 1) := by decide +kernel
theorem dX3_append_19 : decode cX3_append 19 = .ok (.aload_n 0, 1) := by decide +kernel
theorem dX3_append_20 : decode cX3_append 20 = .ok (.dup, 1) := by decide +kernel
theorem dX3_append_21 : decode cX3_append 21 = .ok (.getfield 9, 3) := by decide +kernel
theorem dX3_append_24 : decode cX3_append 24 = .ok (.iconst 1, 1) := by decide +kernel
theorem dX3_append_25 : decode cX3_append 25 = .ok (.iadd, 1) := by decide +kernel
theorem dX3_append_26 : decode cX3_append 26 = .ok (.putfield 9, 3) := by decide +kernel
theorem dX3_append_29 : decode cX3_append 29 = .ok (.return_, 1) := by decide +kernel
theorem dX3_readFor_0 : decode cX3_readFor 0 = .ok (.aload_n 2, 1) := by decide +kernel
theorem dX3_readFor_1 : decode cX3_readFor 1 = .ok (.aload_n 1, 1) := by decide +kernel
theorem dX3_readFor_2 : decode cX3_readFor 2 = .ok (.invokevirtual 25, 3) := by decide +kernel
theorem dX3_readFor_5 : decode cX3_readFor 5 = .ok (.aload_n 0, 1) := by decide +kernel
theorem dX3_readFor_6 : decode cX3_readFor 6 = .ok (.getfield 22, 3) := by decide +kernel
theorem dX3_readFor_9 : decode cX3_readFor 9 = .ok (.iconst 0, 1) := by decide +kernel
theorem dX3_readFor_10 : decode cX3_readFor 10 = .ok (.invokestatic 31, 3) := by decide +kernel
theorem dX3_readFor_13 : decode cX3_readFor 13 = .ok (.aload_n 0, 1) := by decide +kernel
theorem dX3_readFor_14 : decode cX3_readFor 14 = .ok (.iconst 0, 1) := by decide +kernel
theorem dX3_readFor_15 : decode cX3_readFor 15 = .ok (.putfield 15, 3) := by decide +kernel
theorem dX3_readFor_18 : decode cX3_readFor 18 = .ok (.iconst 0, 1) := by decide +kernel
theorem dX3_readFor_19 : decode cX3_readFor 19 = .ok (.istore_n 3, 1) := by decide +kernel
theorem dX3_readFor_20 : decode cX3_readFor 20 = .ok (.iload_n 3, 1) := by decide +kernel
theorem dX3_readFor_21 : decode cX3_readFor 21 = .ok (.bipush 120, 2) := by decide +kernel
theorem dX3_readFor_23 : decode cX3_readFor 23 = .ok (.if_icmp .ge 37, 3) := by decide +kernel
theorem dX3_readFor_26 : decode cX3_readFor 26 = .ok (.aload_n 0, 1) := by decide +kernel
theorem dX3_readFor_27 : decode cX3_readFor 27 = .ok (.getfield 15, 3) := by decide +kernel
theorem dX3_readFor_30 : decode cX3_readFor 30 = .ok (.aload_n 0, 1) := by decide +kernel
theorem dX3_readFor_31 : decode cX3_readFor 31 = .ok (.getfield 9, 3) := by decide +kernel
theorem dX3_readFor_34 : decode cX3_readFor 34 = .ok (.if_icmp .ge 26, 3) := by decide +kernel
theorem dX3_readFor_37 : decode cX3_readFor 37 = .ok (.aload_n 0, 1) := by decide +kernel
theorem dX3_readFor_38 : decode cX3_readFor 38 = .ok (.getfield 15, 3) := by decide +kernel
theorem dX3_readFor_41 : decode cX3_readFor 41 = .ok (.istore 4, 2) := by decide +kernel
theorem dX3_readFor_43 : decode cX3_readFor 43 = .ok (.aload_n 0, 1) := by decide +kernel
theorem dX3_readFor_44 : decode cX3_readFor 44 = .ok (.aload_n 2, 1) := by decide +kernel
theorem dX3_readFor_45 : decode cX3_readFor 45 = .ok (.invokevirtual 37, 3) := by decide +kernel
theorem dX3_readFor_48 : decode cX3_readFor 48 = .ok (.ifCond .ne 6, 3) := by decide +kernel
theorem dX3_readFor_51 : decode cX3_readFor 51 = .ok (.iload 4, 2) := by decide +kernel
theorem dX3_readFor_53 : decode cX3_readFor 53 = .ok (.ireturn, 1) := by decide +kernel
theorem dX3_readFor_54 : decode cX3_readFor 54 = .ok (.iinc 3 1, 3) := by decide +kernel
theorem dX3_readFor_57 : decode cX3_readFor 57 = .ok (.goto (-37), 3) := by decide +kernel
theorem dX3_readFor_60 : decode cX3_readFor 60 = .ok (.iconst (-1), 1) := by decide +kernel
theorem dX3_readFor_61 : decode cX3_readFor 61 = .ok (.ireturn, 1) := by decide +kernel
theorem dX3_readItem_0 : decode cX3_readItem 0 = .ok (.aload_n 0, 1) := by decide +kernel
theorem dX3_readItem_1 : decode cX3_readItem 1 = .ok (.invokevirtual 41, 3) := by decide +kernel
theorem dX3_readItem_4 : decode cX3_readItem 4 = .ok (.istore_n 2, 1) := by decide +kernel
theorem dX3_readItem_5 : decode cX3_readItem 5 = .ok (.iload_n 2, 1) := by decide +kernel
theorem dX3_readItem_6 : decode cX3_readItem 6 = .ok (.invokestatic 45, 3) := by decide +kernel
theorem dX3_readItem_9 : decode cX3_readItem 9 = .ok (.ifCond .ne 5, 3) := by decide +kernel
theorem dX3_readItem_12 : decode cX3_readItem 12 = .ok (.iconst 0, 1) := by decide +kernel
theorem dX3_readItem_13 : decode cX3_readItem 13 = .ok (.ireturn, 1) := by decide +kernel
theorem dX3_readItem_14 : decode cX3_readItem 14 = .ok (.aload_n 0, 1) := by decide +kernel
theorem dX3_readItem_15 : decode cX3_readItem 15 = .ok (.getfield 22, 3) := by decide +kernel
theorem dX3_readItem_18 : decode cX3_readItem 18 = .ok (.iload_n 2, 1) := by decide +kernel
theorem dX3_readItem_19 : decode cX3_readItem 19 = .ok (.iaload, 1) := by decide +kernel
theorem dX3_readItem_20 : decode cX3_readItem 20 = .ok (.istore_n 3, 1) := by decide +kernel
theorem dX3_readItem_21 : decode cX3_readItem 21 = .ok (.aload_n 0, 1) := by decide +kernel
theorem dX3_readItem_22 : decode cX3_readItem 22 = .ok (.invokevirtual 49, 3) := by decide +kernel
theorem dX3_readItem_25 : decode cX3_readItem 25 = .ok (.istore 4, 2) := by decide +kernel
theorem dX3_readItem_27 : decode cX3_readItem 27 = .ok (.iload 4, 2) := by decide +kernel
theorem dX3_readItem_29 : decode cX3_readItem 29 = .ok (.bipush 101, 2) := by decide +kernel
theorem dX3_readItem_31 : decode cX3_readItem 31 = .ok (.if_icmp .ne 7, 3) := by decide +kernel
theorem dX3_readItem_34 : decode cX3_readItem 34 = .ok (.iconst 1, 1) := by decide +kernel
theorem dX3_readItem_35 : decode cX3_readItem 35 = .ok (.goto 4, 3) := by decide +kernel
theorem dX3_readItem_38 : decode cX3_readItem 38 = .ok (.iconst 0, 1) := by decide +kernel
theorem dX3_readItem_39 : decode cX3_readItem 39 = .ok (.istore 5, 2) := by decide +kernel
theorem dX3_readItem_41 : decode cX3_readItem 41 = .ok (.iload 5, 2) := by decide +kernel
theorem dX3_readItem_43 : decode cX3_readItem 43 = .ok (.ifCond .eq 7, 3) := by decide +kernel
theorem dX3_readItem_46 : decode cX3_readItem 46 = .ok (.iconst (-1), 1) := by decide +kernel
theorem dX3_readItem_47 : decode cX3_readItem 47 = .ok (.goto 11, 3) := by decide +kernel
theorem dX3_readItem_50 : decode cX3_readItem 50 = .ok (.aload_n 0, 1) := by decide +kernel
theorem dX3_readItem_51 : decode cX3_readItem 51 = .ok (.iload 4, 2) := by decide +kernel
theorem dX3_readItem_53 : decode cX3_readItem 53 = .ok (.iload_n 2, 1) := by decide +kernel
theorem dX3_readItem_54 : decode cX3_readItem 54 = .ok (.iload_n 3, 1) := by decide +kernel
theorem dX3_readItem_55 : decode cX3_readItem 55 = .ok (.invokevirtual 52, 3) := by decide +kernel
theorem dX3_readItem_58 : decode cX3_readItem 58 = .ok (.istore 6, 2) := by decide +kernel
theorem dX3_readItem_60 : decode cX3_readItem 60 = .ok (.iload 5, 2) := by decide +kernel
theorem dX3_readItem_62 : decode cX3_readItem 62 = .ok (.ifCond .eq 10, 3) := by decide +kernel
theorem dX3_readItem_65 : decode cX3_readItem 65 = .ok (.aload_n 0, 1) := by decide +kernel
theorem dX3_readItem_66 : decode cX3_readItem 66 = .ok (.invokevirtual 56, 3) := by decide +kernel
theorem dX3_readItem_69 : decode cX3_readItem 69 = .ok (.goto 8, 3) := by decide +kernel
theorem dX3_readItem_72 : decode cX3_readItem 72 = .ok (.iload 6, 2) := by decide +kernel
theorem dX3_readItem_74 : decode cX3_readItem 74 = .ok (.invokestatic 59, 3) := by decide +kernel
theorem dX3_readItem_77 : decode cX3_readItem 77 = .ok (.istore 7, 2) := by decide +kernel
theorem dX3_readItem_79 : decode cX3_readItem 79 = .ok (.iload 7, 2) := by decide +kernel
theorem dX3_readItem_81 : decode cX3_readItem 81 = .ok (.iconst 1, 1) := by decide +kernel
theorem dX3_readItem_82 : decode cX3_readItem 82 = .ok (.if_icmp .lt 23, 3) := by decide +kernel
theorem dX3_readItem_85 : decode cX3_readItem 85 = .ok (.iload 7, 2) := by decide +kernel
theorem dX3_readItem_87 : decode cX3_readItem 87 = .ok (.aload_n 1, 1) := by decide +kernel
theorem dX3_readItem_88 : decode cX3_readItem 88 = .ok (.getfield 63, 3) := by decide +kernel
theorem dX3_readItem_91 : decode cX3_readItem 91 = .ok (.iload_n 3, 1) := by decide +kernel
theorem dX3_readItem_92 : decode cX3_readItem 92 = .ok (.isub, 1) := by decide +kernel
theorem dX3_readItem_93 : decode cX3_readItem 93 = .ok (.if_icmp .gt 12, 3) := by decide +kernel
theorem dX3_readItem_96 : decode cX3_readItem 96 = .ok (.aload_n 0, 1) := by decide +kernel
theorem dX3_readItem_97 : decode cX3_readItem 97 = .ok (.invokevirtual 49, 3) := by decide +kernel
theorem dX3_readItem_100 : decode cX3_readItem 100 = .ok (.bipush 59, 2) := by decide +kernel
theorem dX3_readItem_102 : decode cX3_readItem 102 = .ok (.if_icmp .eq 5, 3) := by decide +kernel
theorem dX3_readItem_105 : decode cX3_readItem 105 = .ok (.iconst 0, 1) := by decide +kernel
theorem dX3_readItem_106 : decode cX3_readItem 106 = .ok (.ireturn, 1) := by decide +kernel
theorem dX3_readItem_107 : decode cX3_readItem 107 = .ok (.aload_n 0, 1) := by decide +kernel
theorem dX3_readItem_108 : decode cX3_readItem 108 = .ok (.getfield 22, 3) := by decide +kernel
theorem dX3_readItem_111 : decode cX3_readItem 111 = .ok (.iload_n 2, 1) := by decide +kernel
theorem dX3_readItem_112 : decode cX3_readItem 112 = .ok (.iload_n 3, 1) := by decide +kernel
theorem dX3_readItem_113 : decode cX3_readItem 113 = .ok (.iload 7, 2) := by decide +kernel
theorem dX3_readItem_115 : decode cX3_readItem 115 = .ok (.iadd, 1) := by decide +kernel
theorem dX3_readItem_116 : decode cX3_readItem 116 = .ok (.iastore, 1) := by decide +kernel
theorem dX3_readItem_117 : decode cX3_readItem 117 = .ok (.iload 5, 2) := by decide +kernel
theorem dX3_readItem_119 : decode cX3_readItem 119 = .ok (.ifCond .ne 12, 3) := by decide +kernel
theorem dX3_readItem_122 : decode cX3_readItem 122 = .ok (.aload_n 1, 1) := by decide +kernel
theorem dX3_readItem_123 : decode cX3_readItem 123 = .ok (.iload 6, 2) := by decide +kernel
theorem dX3_readItem_125 : decode cX3_readItem 125 = .ok (.invokestatic 66, 3) := by decide +kernel
theorem dX3_readItem_128 : decode cX3_readItem 128 = .ok (.ifCond .eq 7, 3) := by decide +kernel
theorem dX3_readItem_131 : decode cX3_readItem 131 = .ok (.iconst 1, 1) := by decide +kernel
theorem dX3_readItem_132 : decode cX3_readItem 132 = .ok (.goto 4, 3) := by decide +kernel
theorem dX3_readItem_135 : decode cX3_readItem 135 = .ok (.iconst 0, 1) := by decide +kernel
theorem dX3_readItem_136 : decode cX3_readItem 136 = .ok (.ireturn, 1) := by decide +kernel
theorem dX3_spanOf_0 : decode cX3_spanOf 0 = .ok (.iload_n 0, 1) := by decide +kernel
theorem dX3_spanOf_1 : decode cX3_spanOf 1 = .ok (.iconst (-1), 1) := by decide +kernel
theorem dX3_spanOf_2 : decode cX3_spanOf 2 = .ok (.if_icmp .ne 7, 3) := by decide +kernel
theorem dX3_spanOf_5 : decode cX3_spanOf 5 = .ok (.iconst 0, 1) := by decide +kernel
theorem dX3_spanOf_6 : decode cX3_spanOf 6 = .ok (.goto 7, 3) := by decide +kernel
theorem dX3_spanOf_9 : decode cX3_spanOf 9 = .ok (.iload_n 0, 1) := by decide +kernel
theorem dX3_spanOf_10 : decode cX3_spanOf 10 = .ok (.invokestatic 70, 3) := by decide +kernel
theorem dX3_spanOf_13 : decode cX3_spanOf 13 = .ok (.ireturn, 1) := by decide +kernel
theorem dX3_isTaken_0 : decode cX3_isTaken 0 = .ok (.aload_n 0, 1) := by decide +kernel
theorem dX3_isTaken_1 : decode cX3_isTaken 1 = .ok (.getfield 73, 3) := by decide +kernel
theorem dX3_isTaken_4 : decode cX3_isTaken 4 = .ok (.bipush 60, 2) := by decide +kernel
theorem dX3_isTaken_6 : decode cX3_isTaken 6 = .ok (.if_icmp .ge 16, 3) := by decide +kernel
theorem dX3_isTaken_9 : decode cX3_isTaken 9 = .ok (.aload_n 0, 1) := by decide +kernel
theorem dX3_isTaken_10 : decode cX3_isTaken 10 = .ok (.iload_n 1, 1) := by decide +kernel
theorem dX3_isTaken_11 : decode cX3_isTaken 11 = .ok (.invokevirtual 74, 3) := by decide +kernel
theorem dX3_isTaken_14 : decode cX3_isTaken 14 = .ok (.iconst (-1), 1) := by decide +kernel
theorem dX3_isTaken_15 : decode cX3_isTaken 15 = .ok (.if_icmp .eq 7, 3) := by decide +kernel
theorem dX3_isTaken_18 : decode cX3_isTaken 18 = .ok (.iconst 1, 1) := by decide +kernel
theorem dX3_isTaken_19 : decode cX3_isTaken 19 = .ok (.goto 4, 3) := by decide +kernel
theorem dX3_isTaken_22 : decode cX3_isTaken 22 = .ok (.iconst 0, 1) := by decide +kernel
theorem dX3_isTaken_23 : decode cX3_isTaken 23 = .ok (.ireturn, 1) := by decide +kernel
theorem dX3_readSign_0 : decode cX3_readSign 0 = .ok (.iload_n 1, 1) := by decide +kernel
theorem dX3_readSign_1 : decode cX3_readSign 1 = .ok (.tableswitch 85 107 116 #[62, 85, 55, 85, 85, 85, 85, 75, 85, 68], 55) := by decide +kernel
theorem dX3_readSign_56 : decode cX3_readSign 56 = .ok (.aload_n 0, 1) := by decide +kernel
theorem dX3_readSign_57 : decode cX3_readSign 57 = .ok (.iload_n 2, 1) := by decide +kernel
theorem dX3_readSign_58 : decode cX3_readSign 58 = .ok (.iload_n 3, 1) := by decide +kernel
theorem dX3_readSign_59 : decode cX3_readSign 59 = .ok (.invokevirtual 77, 3) := by decide +kernel
theorem dX3_readSign_62 : decode cX3_readSign 62 = .ok (.ireturn, 1) := by decide +kernel
theorem dX3_readSign_63 : decode cX3_readSign 63 = .ok (.iload_n 2, 1) := by decide +kernel
theorem dX3_readSign_64 : decode cX3_readSign 64 = .ok (.iload_n 3, 1) := by decide +kernel
theorem dX3_readSign_65 : decode cX3_readSign 65 = .ok (.invokestatic 81, 3) := by decide +kernel
theorem dX3_readSign_68 : decode cX3_readSign 68 = .ok (.ireturn, 1) := by decide +kernel
theorem dX3_readSign_69 : decode cX3_readSign 69 = .ok (.aload_n 0, 1) := by decide +kernel
theorem dX3_readSign_70 : decode cX3_readSign 70 = .ok (.iload_n 2, 1) := by decide +kernel
theorem dX3_readSign_71 : decode cX3_readSign 71 = .ok (.iload_n 3, 1) := by decide +kernel
theorem dX3_readSign_72 : decode cX3_readSign 72 = .ok (.invokevirtual 84, 3) := by decide +kernel
theorem dX3_readSign_75 : decode cX3_readSign 75 = .ok (.ireturn, 1) := by decide +kernel
theorem dX3_readSign_76 : decode cX3_readSign 76 = .ok (.iload_n 2, 1) := by decide +kernel
theorem dX3_readSign_77 : decode cX3_readSign 77 = .ok (.iload_n 3, 1) := by decide +kernel
theorem dX3_readSign_78 : decode cX3_readSign 78 = .ok (.aload_n 0, 1) := by decide +kernel
theorem dX3_readSign_79 : decode cX3_readSign 79 = .ok (.invokevirtual 56, 3) := by decide +kernel
theorem dX3_readSign_82 : decode cX3_readSign 82 = .ok (.invokestatic 87, 3) := by decide +kernel
theorem dX3_readSign_85 : decode cX3_readSign 85 = .ok (.ireturn, 1) := by decide +kernel
theorem dX3_readSign_86 : decode cX3_readSign 86 = .ok (.iconst (-1), 1) := by decide +kernel
theorem dX3_readSign_87 : decode cX3_readSign 87 = .ok (.ireturn, 1) := by decide +kernel
theorem dX3_readMove_0 : decode cX3_readMove 0 = .ok (.aload_n 0, 1) := by decide +kernel
theorem dX3_readMove_1 : decode cX3_readMove 1 = .ok (.invokevirtual 41, 3) := by decide +kernel
theorem dX3_readMove_4 : decode cX3_readMove 4 = .ok (.istore_n 3, 1) := by decide +kernel
theorem dX3_readMove_5 : decode cX3_readMove 5 = .ok (.aload_n 0, 1) := by decide +kernel
theorem dX3_readMove_6 : decode cX3_readMove 6 = .ok (.invokevirtual 49, 3) := by decide +kernel
theorem dX3_readMove_9 : decode cX3_readMove 9 = .ok (.invokestatic 90, 3) := by decide +kernel
theorem dX3_readMove_12 : decode cX3_readMove 12 = .ok (.istore 4, 2) := by decide +kernel
theorem dX3_readMove_14 : decode cX3_readMove 14 = .ok (.aload_n 0, 1) := by decide +kernel
theorem dX3_readMove_15 : decode cX3_readMove 15 = .ok (.invokevirtual 56, 3) := by decide +kernel
theorem dX3_readMove_18 : decode cX3_readMove 18 = .ok (.istore 5, 2) := by decide +kernel
theorem dX3_readMove_20 : decode cX3_readMove 20 = .ok (.iload_n 1, 1) := by decide +kernel
theorem dX3_readMove_21 : decode cX3_readMove 21 = .ok (.bipush 6, 2) := by decide +kernel
theorem dX3_readMove_23 : decode cX3_readMove 23 = .ok (.if_icmp .eq 19, 3) := by decide +kernel
theorem dX3_readMove_26 : decode cX3_readMove 26 = .ok (.iload_n 3, 1) := by decide +kernel
theorem dX3_readMove_27 : decode cX3_readMove 27 = .ok (.iconst 0, 1) := by decide +kernel
theorem dX3_readMove_28 : decode cX3_readMove 28 = .ok (.bipush 8, 2) := by decide +kernel
theorem dX3_readMove_30 : decode cX3_readMove 30 = .ok (.invokestatic 93, 3) := by decide +kernel
theorem dX3_readMove_33 : decode cX3_readMove 33 = .ok (.ifCond .eq 9, 3) := by decide +kernel
theorem dX3_readMove_36 : decode cX3_readMove 36 = .ok (.iload 4, 2) := by decide +kernel
theorem dX3_readMove_38 : decode cX3_readMove 38 = .ok (.iconst (-1), 1) := by decide +kernel
theorem dX3_readMove_39 : decode cX3_readMove 39 = .ok (.if_icmp .ne 5, 3) := by decide +kernel
theorem dX3_readMove_42 : decode cX3_readMove 42 = .ok (.iconst (-1), 1) := by decide +kernel
theorem dX3_readMove_43 : decode cX3_readMove 43 = .ok (.ireturn, 1) := by decide +kernel
theorem dX3_readMove_44 : decode cX3_readMove 44 = .ok (.iload_n 1, 1) := by decide +kernel
theorem dX3_readMove_45 : decode cX3_readMove 45 = .ok (.iload_n 2, 1) := by decide +kernel
theorem dX3_readMove_46 : decode cX3_readMove 46 = .ok (.iload 5, 2) := by decide +kernel
theorem dX3_readMove_48 : decode cX3_readMove 48 = .ok (.iload_n 3, 1) := by decide +kernel
theorem dX3_readMove_49 : decode cX3_readMove 49 = .ok (.iload 4, 2) := by decide +kernel
theorem dX3_readMove_51 : decode cX3_readMove 51 = .ok (.invokestatic 97, 3) := by decide +kernel
theorem dX3_readMove_54 : decode cX3_readMove 54 = .ok (.ireturn, 1) := by decide +kernel
theorem dX3_readTurn_0 : decode cX3_readTurn 0 = .ok (.aload_n 0, 1) := by decide +kernel
theorem dX3_readTurn_1 : decode cX3_readTurn 1 = .ok (.invokevirtual 49, 3) := by decide +kernel
theorem dX3_readTurn_4 : decode cX3_readTurn 4 = .ok (.istore_n 3, 1) := by decide +kernel
theorem dX3_readTurn_5 : decode cX3_readTurn 5 = .ok (.aload_n 0, 1) := by decide +kernel
theorem dX3_readTurn_6 : decode cX3_readTurn 6 = .ok (.invokevirtual 41, 3) := by decide +kernel
theorem dX3_readTurn_9 : decode cX3_readTurn 9 = .ok (.istore 4, 2) := by decide +kernel
theorem dX3_readTurn_11 : decode cX3_readTurn 11 = .ok (.aload_n 0, 1) := by decide +kernel
theorem dX3_readTurn_12 : decode cX3_readTurn 12 = .ok (.invokevirtual 49, 3) := by decide +kernel
theorem dX3_readTurn_15 : decode cX3_readTurn 15 = .ok (.istore 5, 2) := by decide +kernel
theorem dX3_readTurn_17 : decode cX3_readTurn 17 = .ok (.aload_n 0, 1) := by decide +kernel
theorem dX3_readTurn_18 : decode cX3_readTurn 18 = .ok (.invokevirtual 56, 3) := by decide +kernel
theorem dX3_readTurn_21 : decode cX3_readTurn 21 = .ok (.istore 6, 2) := by decide +kernel
theorem dX3_readTurn_23 : decode cX3_readTurn 23 = .ok (.iload_n 1, 1) := by decide +kernel
theorem dX3_readTurn_24 : decode cX3_readTurn 24 = .ok (.bipush 6, 2) := by decide +kernel
theorem dX3_readTurn_26 : decode cX3_readTurn 26 = .ok (.if_icmp .ne 33, 3) := by decide +kernel
theorem dX3_readTurn_29 : decode cX3_readTurn 29 = .ok (.iload_n 3, 1) := by decide +kernel
theorem dX3_readTurn_30 : decode cX3_readTurn 30 = .ok (.bipush 43, 2) := by decide +kernel
theorem dX3_readTurn_32 : decode cX3_readTurn 32 = .ok (.if_icmp .eq 9, 3) := by decide +kernel
theorem dX3_readTurn_35 : decode cX3_readTurn 35 = .ok (.iload_n 3, 1) := by decide +kernel
theorem dX3_readTurn_36 : decode cX3_readTurn 36 = .ok (.bipush 45, 2) := by decide +kernel
theorem dX3_readTurn_38 : decode cX3_readTurn 38 = .ok (.if_icmp .ne 21, 3) := by decide +kernel
theorem dX3_readTurn_41 : decode cX3_readTurn 41 = .ok (.iload 4, 2) := by decide +kernel
theorem dX3_readTurn_43 : decode cX3_readTurn 43 = .ok (.iconst 1, 1) := by decide +kernel
theorem dX3_readTurn_44 : decode cX3_readTurn 44 = .ok (.bipush 8, 2) := by decide +kernel
theorem dX3_readTurn_46 : decode cX3_readTurn 46 = .ok (.invokestatic 93, 3) := by decide +kernel
theorem dX3_readTurn_49 : decode cX3_readTurn 49 = .ok (.ifCond .eq 10, 3) := by decide +kernel
theorem dX3_readTurn_52 : decode cX3_readTurn 52 = .ok (.iload 5, 2) := by decide +kernel
theorem dX3_readTurn_54 : decode cX3_readTurn 54 = .ok (.bipush 47, 2) := by decide +kernel
theorem dX3_readTurn_56 : decode cX3_readTurn 56 = .ok (.if_icmp .eq 5, 3) := by decide +kernel
theorem dX3_readTurn_59 : decode cX3_readTurn 59 = .ok (.iconst (-1), 1) := by decide +kernel
theorem dX3_readTurn_60 : decode cX3_readTurn 60 = .ok (.ireturn, 1) := by decide +kernel
theorem dX3_readTurn_61 : decode cX3_readTurn 61 = .ok (.iload_n 1, 1) := by decide +kernel
theorem dX3_readTurn_62 : decode cX3_readTurn 62 = .ok (.iload_n 2, 1) := by decide +kernel
theorem dX3_readTurn_63 : decode cX3_readTurn 63 = .ok (.iload 6, 2) := by decide +kernel
theorem dX3_readTurn_65 : decode cX3_readTurn 65 = .ok (.iload_n 3, 1) := by decide +kernel
theorem dX3_readTurn_66 : decode cX3_readTurn 66 = .ok (.bipush 43, 2) := by decide +kernel
theorem dX3_readTurn_68 : decode cX3_readTurn 68 = .ok (.if_icmp .ne 8, 3) := by decide +kernel
theorem dX3_readTurn_71 : decode cX3_readTurn 71 = .ok (.iload 4, 2) := by decide +kernel
theorem dX3_readTurn_73 : decode cX3_readTurn 73 = .ok (.goto 6, 3) := by decide +kernel
theorem dX3_readTurn_76 : decode cX3_readTurn 76 = .ok (.iload 4, 2) := by decide +kernel
theorem dX3_readTurn_78 : decode cX3_readTurn 78 = .ok (.ineg, 1) := by decide +kernel
theorem dX3_readTurn_79 : decode cX3_readTurn 79 = .ok (.invokestatic 101, 3) := by decide +kernel
theorem dX3_readTurn_82 : decode cX3_readTurn 82 = .ok (.ireturn, 1) := by decide +kernel
theorem dX3_levelNamed_0 : decode cX3_levelNamed 0 = .ok (.iload_n 0, 1) := by decide +kernel
theorem dX3_levelNamed_1 : decode cX3_levelNamed 1 = .ok (.lookupswitch 41 #[(104, 39), (108, 35), (110, 37)], 35) := by decide +kernel
theorem dX3_levelNamed_36 : decode cX3_levelNamed 36 = .ok (.iconst 0, 1) := by decide +kernel
theorem dX3_levelNamed_37 : decode cX3_levelNamed 37 = .ok (.ireturn, 1) := by decide +kernel
theorem dX3_levelNamed_38 : decode cX3_levelNamed 38 = .ok (.iconst 1, 1) := by decide +kernel
theorem dX3_levelNamed_39 : decode cX3_levelNamed 39 = .ok (.ireturn, 1) := by decide +kernel
theorem dX3_levelNamed_40 : decode cX3_levelNamed 40 = .ok (.iconst 2, 1) := by decide +kernel
theorem dX3_levelNamed_41 : decode cX3_levelNamed 41 = .ok (.ireturn, 1) := by decide +kernel
theorem dX3_levelNamed_42 : decode cX3_levelNamed 42 = .ok (.iconst (-1), 1) := by decide +kernel
theorem dX3_levelNamed_43 : decode cX3_levelNamed 43 = .ok (.ireturn, 1) := by decide +kernel
theorem dX3_readLength_0 : decode cX3_readLength 0 = .ok (.aload_n 0, 1) := by decide +kernel
theorem dX3_readLength_1 : decode cX3_readLength 1 = .ok (.aload_n 0, 1) := by decide +kernel
theorem dX3_readLength_2 : decode cX3_readLength 2 = .ok (.getfield 15, 3) := by decide +kernel
theorem dX3_readLength_5 : decode cX3_readLength 5 = .ok (.invokevirtual 105, 3) := by decide +kernel
theorem dX3_readLength_8 : decode cX3_readLength 8 = .ok (.istore_n 1, 1) := by decide +kernel
theorem dX3_readLength_9 : decode cX3_readLength 9 = .ok (.iload_n 1, 1) := by decide +kernel
theorem dX3_readLength_10 : decode cX3_readLength 10 = .ok (.iconst (-1), 1) := by decide +kernel
theorem dX3_readLength_11 : decode cX3_readLength 11 = .ok (.if_icmp .ne 5, 3) := by decide +kernel
theorem dX3_readLength_14 : decode cX3_readLength 14 = .ok (.iconst 0, 1) := by decide +kernel
theorem dX3_readLength_15 : decode cX3_readLength 15 = .ok (.ireturn, 1) := by decide +kernel
theorem dX3_readLength_16 : decode cX3_readLength 16 = .ok (.aload_n 0, 1) := by decide +kernel
theorem dX3_readLength_17 : decode cX3_readLength 17 = .ok (.dup, 1) := by decide +kernel
theorem dX3_readLength_18 : decode cX3_readLength 18 = .ok (.getfield 15, 3) := by decide +kernel
theorem dX3_readLength_21 : decode cX3_readLength 21 = .ok (.iconst 1, 1) := by decide +kernel
theorem dX3_readLength_22 : decode cX3_readLength 22 = .ok (.iadd, 1) := by decide +kernel
theorem dX3_readLength_23 : decode cX3_readLength 23 = .ok (.putfield 15, 3) := by decide +kernel
theorem dX3_readLength_26 : decode cX3_readLength 26 = .ok (.aload_n 0, 1) := by decide +kernel
theorem dX3_readLength_27 : decode cX3_readLength 27 = .ok (.aload_n 0, 1) := by decide +kernel
theorem dX3_readLength_28 : decode cX3_readLength 28 = .ok (.getfield 15, 3) := by decide +kernel
theorem dX3_readLength_31 : decode cX3_readLength 31 = .ok (.invokevirtual 105, 3) := by decide +kernel
theorem dX3_readLength_34 : decode cX3_readLength 34 = .ok (.istore_n 2, 1) := by decide +kernel
theorem dX3_readLength_35 : decode cX3_readLength 35 = .ok (.iload_n 2, 1) := by decide +kernel
theorem dX3_readLength_36 : decode cX3_readLength 36 = .ok (.iconst (-1), 1) := by decide +kernel
theorem dX3_readLength_37 : decode cX3_readLength 37 = .ok (.if_icmp .ne 5, 3) := by decide +kernel
theorem dX3_readLength_40 : decode cX3_readLength 40 = .ok (.iload_n 1, 1) := by decide +kernel
theorem dX3_readLength_41 : decode cX3_readLength 41 = .ok (.ireturn, 1) := by decide +kernel
theorem dX3_readLength_42 : decode cX3_readLength 42 = .ok (.aload_n 0, 1) := by decide +kernel
theorem dX3_readLength_43 : decode cX3_readLength 43 = .ok (.dup, 1) := by decide +kernel
theorem dX3_readLength_44 : decode cX3_readLength 44 = .ok (.getfield 15, 3) := by decide +kernel
theorem dX3_readLength_47 : decode cX3_readLength 47 = .ok (.iconst 1, 1) := by decide +kernel
theorem dX3_readLength_48 : decode cX3_readLength 48 = .ok (.iadd, 1) := by decide +kernel
theorem dX3_readLength_49 : decode cX3_readLength 49 = .ok (.putfield 15, 3) := by decide +kernel
theorem dX3_readLength_52 : decode cX3_readLength 52 = .ok (.iload_n 1, 1) := by decide +kernel
theorem dX3_readLength_53 : decode cX3_readLength 53 = .ok (.bipush 10, 2) := by decide +kernel
theorem dX3_readLength_55 : decode cX3_readLength 55 = .ok (.imul, 1) := by decide +kernel
theorem dX3_readLength_56 : decode cX3_readLength 56 = .ok (.iload_n 2, 1) := by decide +kernel
theorem dX3_readLength_57 : decode cX3_readLength 57 = .ok (.iadd, 1) := by decide +kernel
theorem dX3_readLength_58 : decode cX3_readLength 58 = .ok (.ireturn, 1) := by decide +kernel
theorem dX3_readDigit_0 : decode cX3_readDigit 0 = .ok (.aload_n 0, 1) := by decide +kernel
theorem dX3_readDigit_1 : decode cX3_readDigit 1 = .ok (.aload_n 0, 1) := by decide +kernel
theorem dX3_readDigit_2 : decode cX3_readDigit 2 = .ok (.getfield 15, 3) := by decide +kernel
theorem dX3_readDigit_5 : decode cX3_readDigit 5 = .ok (.invokevirtual 105, 3) := by decide +kernel
theorem dX3_readDigit_8 : decode cX3_readDigit 8 = .ok (.istore_n 1, 1) := by decide +kernel
theorem dX3_readDigit_9 : decode cX3_readDigit 9 = .ok (.aload_n 0, 1) := by decide +kernel
theorem dX3_readDigit_10 : decode cX3_readDigit 10 = .ok (.dup, 1) := by decide +kernel
theorem dX3_readDigit_11 : decode cX3_readDigit 11 = .ok (.getfield 15, 3) := by decide +kernel
theorem dX3_readDigit_14 : decode cX3_readDigit 14 = .ok (.iconst 1, 1) := by decide +kernel
theorem dX3_readDigit_15 : decode cX3_readDigit 15 = .ok (.iadd, 1) := by decide +kernel
theorem dX3_readDigit_16 : decode cX3_readDigit 16 = .ok (.putfield 15, 3) := by decide +kernel
theorem dX3_readDigit_19 : decode cX3_readDigit 19 = .ok (.iload_n 1, 1) := by decide +kernel
theorem dX3_readDigit_20 : decode cX3_readDigit 20 = .ok (.ireturn, 1) := by decide +kernel
theorem dX3_readCharacter_0 : decode cX3_readCharacter 0 = .ok (.aload_n 0, 1) := by decide +kernel
theorem dX3_readCharacter_1 : decode cX3_readCharacter 1 = .ok (.getfield 15, 3) := by decide +kernel
theorem dX3_readCharacter_4 : decode cX3_readCharacter 4 = .ok (.aload_n 0, 1) := by decide +kernel
theorem dX3_readCharacter_5 : decode cX3_readCharacter 5 = .ok (.getfield 9, 3) := by decide +kernel
theorem dX3_readCharacter_8 : decode cX3_readCharacter 8 = .ok (.if_icmp .ge 15, 3) := by decide +kernel
theorem dX3_readCharacter_11 : decode cX3_readCharacter 11 = .ok (.aload_n 0, 1) := by decide +kernel
theorem dX3_readCharacter_12 : decode cX3_readCharacter 12 = .ok (.getfield 18, 3) := by decide +kernel
theorem dX3_readCharacter_15 : decode cX3_readCharacter 15 = .ok (.aload_n 0, 1) := by decide +kernel
theorem dX3_readCharacter_16 : decode cX3_readCharacter 16 = .ok (.getfield 15, 3) := by decide +kernel
theorem dX3_readCharacter_19 : decode cX3_readCharacter 19 = .ok (.iaload, 1) := by decide +kernel
theorem dX3_readCharacter_20 : decode cX3_readCharacter 20 = .ok (.goto 4, 3) := by decide +kernel
theorem dX3_readCharacter_23 : decode cX3_readCharacter 23 = .ok (.iconst (-1), 1) := by decide +kernel
theorem dX3_readCharacter_24 : decode cX3_readCharacter 24 = .ok (.istore_n 1, 1) := by decide +kernel
theorem dX3_readCharacter_25 : decode cX3_readCharacter 25 = .ok (.aload_n 0, 1) := by decide +kernel
theorem dX3_readCharacter_26 : decode cX3_readCharacter 26 = .ok (.dup, 1) := by decide +kernel
theorem dX3_readCharacter_27 : decode cX3_readCharacter 27 = .ok (.getfield 15, 3) := by decide +kernel
theorem dX3_readCharacter_30 : decode cX3_readCharacter 30 = .ok (.iconst 1, 1) := by decide +kernel
theorem dX3_readCharacter_31 : decode cX3_readCharacter 31 = .ok (.iadd, 1) := by decide +kernel
theorem dX3_readCharacter_32 : decode cX3_readCharacter 32 = .ok (.putfield 15, 3) := by decide +kernel
theorem dX3_readCharacter_35 : decode cX3_readCharacter 35 = .ok (.iload_n 1, 1) := by decide +kernel
theorem dX3_readCharacter_36 : decode cX3_readCharacter 36 = .ok (.ireturn, 1) := by decide +kernel
theorem dX3_digitAt_0 : decode cX3_digitAt 0 = .ok (.iload_n 1, 1) := by decide +kernel
theorem dX3_digitAt_1 : decode cX3_digitAt 1 = .ok (.aload_n 0, 1) := by decide +kernel
theorem dX3_digitAt_2 : decode cX3_digitAt 2 = .ok (.getfield 9, 3) := by decide +kernel
theorem dX3_digitAt_5 : decode cX3_digitAt 5 = .ok (.if_icmp .ge 12, 3) := by decide +kernel
theorem dX3_digitAt_8 : decode cX3_digitAt 8 = .ok (.aload_n 0, 1) := by decide +kernel
theorem dX3_digitAt_9 : decode cX3_digitAt 9 = .ok (.getfield 18, 3) := by decide +kernel
theorem dX3_digitAt_12 : decode cX3_digitAt 12 = .ok (.iload_n 1, 1) := by decide +kernel
theorem dX3_digitAt_13 : decode cX3_digitAt 13 = .ok (.iaload, 1) := by decide +kernel
theorem dX3_digitAt_14 : decode cX3_digitAt 14 = .ok (.goto 4, 3) := by decide +kernel
theorem dX3_digitAt_17 : decode cX3_digitAt 17 = .ok (.iconst (-1), 1) := by decide +kernel
theorem dX3_digitAt_18 : decode cX3_digitAt 18 = .ok (.istore_n 2, 1) := by decide +kernel
theorem dX3_digitAt_19 : decode cX3_digitAt 19 = .ok (.iload_n 2, 1) := by decide +kernel
theorem dX3_digitAt_20 : decode cX3_digitAt 20 = .ok (.bipush 48, 2) := by decide +kernel
theorem dX3_digitAt_22 : decode cX3_digitAt 22 = .ok (.if_icmp .lt 16, 3) := by decide +kernel
theorem dX3_digitAt_25 : decode cX3_digitAt 25 = .ok (.iload_n 2, 1) := by decide +kernel
theorem dX3_digitAt_26 : decode cX3_digitAt 26 = .ok (.bipush 57, 2) := by decide +kernel
theorem dX3_digitAt_28 : decode cX3_digitAt 28 = .ok (.if_icmp .gt 10, 3) := by decide +kernel
theorem dX3_digitAt_31 : decode cX3_digitAt 31 = .ok (.iload_n 2, 1) := by decide +kernel
theorem dX3_digitAt_32 : decode cX3_digitAt 32 = .ok (.bipush 48, 2) := by decide +kernel
theorem dX3_digitAt_34 : decode cX3_digitAt 34 = .ok (.isub, 1) := by decide +kernel
theorem dX3_digitAt_35 : decode cX3_digitAt 35 = .ok (.goto 4, 3) := by decide +kernel
theorem dX3_digitAt_38 : decode cX3_digitAt 38 = .ok (.iconst (-1), 1) := by decide +kernel
theorem dX3_digitAt_39 : decode cX3_digitAt 39 = .ok (.ireturn, 1) := by decide +kernel
theorem dX4_move_0 : decode cX4_move 0 = .ok (.iload_n 0, 1) := by decide +kernel
theorem dX4_move_1 : decode cX4_move 1 = .ok (.iload_n 1, 1) := by decide +kernel
theorem dX4_move_2 : decode cX4_move 2 = .ok (.iload_n 2, 1) := by decide +kernel
theorem dX4_move_3 : decode cX4_move 3 = .ok (.iconst 0, 1) := by decide +kernel
theorem dX4_move_4 : decode cX4_move 4 = .ok (.iload_n 3, 1) := by decide +kernel
theorem dX4_move_5 : decode cX4_move 5 = .ok (.iload 4, 2) := by decide +kernel
theorem dX4_move_7 : decode cX4_move 7 = .ok (.iconst 0, 1) := by decide +kernel
theorem dX4_move_8 : decode cX4_move 8 = .ok (.invokestatic 11, 3) := by decide +kernel
theorem dX4_move_11 : decode cX4_move 11 = .ok (.ireturn, 1) := by decide +kernel
theorem dX4_hold_0 : decode cX4_hold 0 = .ok (.iload_n 0, 1) := by decide +kernel
theorem dX4_hold_1 : decode cX4_hold 1 = .ok (.iload_n 1, 1) := by decide +kernel
theorem dX4_hold_2 : decode cX4_hold 2 = .ok (.iconst 1, 1) := by decide +kernel
theorem dX4_hold_3 : decode cX4_hold 3 = .ok (.iconst 1, 1) := by decide +kernel
theorem dX4_hold_4 : decode cX4_hold 4 = .ok (.iconst 0, 1) := by decide +kernel
theorem dX4_hold_5 : decode cX4_hold 5 = .ok (.iconst 0, 1) := by decide +kernel
theorem dX4_hold_6 : decode cX4_hold 6 = .ok (.iconst 0, 1) := by decide +kernel
theorem dX4_hold_7 : decode cX4_hold 7 = .ok (.invokestatic 11, 3) := by decide +kernel
theorem dX4_hold_10 : decode cX4_hold 10 = .ok (.ireturn, 1) := by decide +kernel
theorem dX4_turn_0 : decode cX4_turn 0 = .ok (.iload_n 0, 1) := by decide +kernel
theorem dX4_turn_1 : decode cX4_turn 1 = .ok (.iload_n 1, 1) := by decide +kernel
theorem dX4_turn_2 : decode cX4_turn 2 = .ok (.iload_n 2, 1) := by decide +kernel
theorem dX4_turn_3 : decode cX4_turn 3 = .ok (.iconst 2, 1) := by decide +kernel
theorem dX4_turn_4 : decode cX4_turn 4 = .ok (.iconst 0, 1) := by decide +kernel
theorem dX4_turn_5 : decode cX4_turn 5 = .ok (.iconst 0, 1) := by decide +kernel
theorem dX4_turn_6 : decode cX4_turn 6 = .ok (.iload_n 3, 1) := by decide +kernel
theorem dX4_turn_7 : decode cX4_turn 7 = .ok (.invokestatic 11, 3) := by decide +kernel
theorem dX4_turn_10 : decode cX4_turn 10 = .ok (.ireturn, 1) := by decide +kernel
theorem dX4_release_0 : decode cX4_release 0 = .ok (.iload_n 0, 1) := by decide +kernel
theorem dX4_release_1 : decode cX4_release 1 = .ok (.iload_n 1, 1) := by decide +kernel
theorem dX4_release_2 : decode cX4_release 2 = .ok (.iload_n 2, 1) := by decide +kernel
theorem dX4_release_3 : decode cX4_release 3 = .ok (.iconst 3, 1) := by decide +kernel
theorem dX4_release_4 : decode cX4_release 4 = .ok (.iconst 0, 1) := by decide +kernel
theorem dX4_release_5 : decode cX4_release 5 = .ok (.iconst 0, 1) := by decide +kernel
theorem dX4_release_6 : decode cX4_release 6 = .ok (.iconst 0, 1) := by decide +kernel
theorem dX4_release_7 : decode cX4_release 7 = .ok (.invokestatic 11, 3) := by decide +kernel
theorem dX4_release_10 : decode cX4_release 10 = .ok (.ireturn, 1) := by decide +kernel
theorem dX4_packed_0 : decode cX4_packed 0 = .ok (.iload_n 1, 1) := by decide +kernel
theorem dX4_packed_1 : decode cX4_packed 1 = .ok (.bipush 23, 2) := by decide +kernel
theorem dX4_packed_3 : decode cX4_packed 3 = .ok (.ishl, 1) := by decide +kernel
theorem dX4_packed_4 : decode cX4_packed 4 = .ok (.iload_n 0, 1) := by decide +kernel
theorem dX4_packed_5 : decode cX4_packed 5 = .ok (.bipush 20, 2) := by decide +kernel
theorem dX4_packed_7 : decode cX4_packed 7 = .ok (.ishl, 1) := by decide +kernel
theorem dX4_packed_8 : decode cX4_packed 8 = .ok (.ior, 1) := by decide +kernel
theorem dX4_packed_9 : decode cX4_packed 9 = .ok (.iload_n 2, 1) := by decide +kernel
theorem dX4_packed_10 : decode cX4_packed 10 = .ok (.bipush 13, 2) := by decide +kernel
theorem dX4_packed_12 : decode cX4_packed 12 = .ok (.ishl, 1) := by decide +kernel
theorem dX4_packed_13 : decode cX4_packed 13 = .ok (.ior, 1) := by decide +kernel
theorem dX4_packed_14 : decode cX4_packed 14 = .ok (.iload_n 3, 1) := by decide +kernel
theorem dX4_packed_15 : decode cX4_packed 15 = .ok (.bipush 11, 2) := by decide +kernel
theorem dX4_packed_17 : decode cX4_packed 17 = .ok (.ishl, 1) := by decide +kernel
theorem dX4_packed_18 : decode cX4_packed 18 = .ok (.ior, 1) := by decide +kernel
theorem dX4_packed_19 : decode cX4_packed 19 = .ok (.iload 4, 2) := by decide +kernel
theorem dX4_packed_21 : decode cX4_packed 21 = .ok (.bipush 7, 2) := by decide +kernel
theorem dX4_packed_23 : decode cX4_packed 23 = .ok (.ishl, 1) := by decide +kernel
theorem dX4_packed_24 : decode cX4_packed 24 = .ok (.ior, 1) := by decide +kernel
theorem dX4_packed_25 : decode cX4_packed 25 = .ok (.iload 5, 2) := by decide +kernel
theorem dX4_packed_27 : decode cX4_packed 27 = .ok (.iconst 5, 1) := by decide +kernel
theorem dX4_packed_28 : decode cX4_packed 28 = .ok (.ishl, 1) := by decide +kernel
theorem dX4_packed_29 : decode cX4_packed 29 = .ok (.ior, 1) := by decide +kernel
theorem dX4_packed_30 : decode cX4_packed 30 = .ok (.iload 6, 2) := by decide +kernel
theorem dX4_packed_32 : decode cX4_packed 32 = .ok (.bipush 8, 2) := by decide +kernel
theorem dX4_packed_34 : decode cX4_packed 34 = .ok (.iadd, 1) := by decide +kernel
theorem dX4_packed_35 : decode cX4_packed 35 = .ok (.ior, 1) := by decide +kernel
theorem dX4_packed_36 : decode cX4_packed 36 = .ok (.ireturn, 1) := by decide +kernel
theorem dX4_beginOf_0 : decode cX4_beginOf 0 = .ok (.iload_n 0, 1) := by decide +kernel
theorem dX4_beginOf_1 : decode cX4_beginOf 1 = .ok (.bipush 23, 2) := by decide +kernel
theorem dX4_beginOf_3 : decode cX4_beginOf 3 = .ok (.ishr, 1) := by decide +kernel
theorem dX4_beginOf_4 : decode cX4_beginOf 4 = .ok (.bipush 127, 2) := by decide +kernel
theorem dX4_beginOf_6 : decode cX4_beginOf 6 = .ok (.iand, 1) := by decide +kernel
theorem dX4_beginOf_7 : decode cX4_beginOf 7 = .ok (.ireturn, 1) := by decide +kernel
theorem dX4_columnOf_0 : decode cX4_columnOf 0 = .ok (.iload_n 0, 1) := by decide +kernel
theorem dX4_columnOf_1 : decode cX4_columnOf 1 = .ok (.bipush 20, 2) := by decide +kernel
theorem dX4_columnOf_3 : decode cX4_columnOf 3 = .ok (.ishr, 1) := by decide +kernel
theorem dX4_columnOf_4 : decode cX4_columnOf 4 = .ok (.bipush 7, 2) := by decide +kernel
theorem dX4_columnOf_6 : decode cX4_columnOf 6 = .ok (.iand, 1) := by decide +kernel
theorem dX4_columnOf_7 : decode cX4_columnOf 7 = .ok (.ireturn, 1) := by decide +kernel
theorem dX4_spanOf_0 : decode cX4_spanOf 0 = .ok (.iload_n 0, 1) := by decide +kernel
theorem dX4_spanOf_1 : decode cX4_spanOf 1 = .ok (.bipush 13, 2) := by decide +kernel
theorem dX4_spanOf_3 : decode cX4_spanOf 3 = .ok (.ishr, 1) := by decide +kernel
theorem dX4_spanOf_4 : decode cX4_spanOf 4 = .ok (.bipush 127, 2) := by decide +kernel
theorem dX4_spanOf_6 : decode cX4_spanOf 6 = .ok (.iand, 1) := by decide +kernel
theorem dX4_spanOf_7 : decode cX4_spanOf 7 = .ok (.ireturn, 1) := by decide +kernel
theorem dX4_kindOf_0 : decode cX4_kindOf 0 = .ok (.iload_n 0, 1) := by decide +kernel
theorem dX4_kindOf_1 : decode cX4_kindOf 1 = .ok (.bipush 11, 2) := by decide +kernel
theorem dX4_kindOf_3 : decode cX4_kindOf 3 = .ok (.ishr, 1) := by decide +kernel
theorem dX4_kindOf_4 : decode cX4_kindOf 4 = .ok (.iconst 3, 1) := by decide +kernel
theorem dX4_kindOf_5 : decode cX4_kindOf 5 = .ok (.iand, 1) := by decide +kernel
theorem dX4_kindOf_6 : decode cX4_kindOf 6 = .ok (.ireturn, 1) := by decide +kernel
theorem dX4_directionOf_0 : decode cX4_directionOf 0 = .ok (.iload_n 0, 1) := by decide +kernel
theorem dX4_directionOf_1 : decode cX4_directionOf 1 = .ok (.bipush 7, 2) := by decide +kernel
theorem dX4_directionOf_3 : decode cX4_directionOf 3 = .ok (.ishr, 1) := by decide +kernel
theorem dX4_directionOf_4 : decode cX4_directionOf 4 = .ok (.bipush 15, 2) := by decide +kernel
theorem dX4_directionOf_6 : decode cX4_directionOf 6 = .ok (.iand, 1) := by decide +kernel
theorem dX4_directionOf_7 : decode cX4_directionOf 7 = .ok (.ireturn, 1) := by decide +kernel
theorem dX4_levelOf_0 : decode cX4_levelOf 0 = .ok (.iload_n 0, 1) := by decide +kernel
theorem dX4_levelOf_1 : decode cX4_levelOf 1 = .ok (.iconst 5, 1) := by decide +kernel
theorem dX4_levelOf_2 : decode cX4_levelOf 2 = .ok (.ishr, 1) := by decide +kernel
theorem dX4_levelOf_3 : decode cX4_levelOf 3 = .ok (.iconst 3, 1) := by decide +kernel
theorem dX4_levelOf_4 : decode cX4_levelOf 4 = .ok (.iand, 1) := by decide +kernel
theorem dX4_levelOf_5 : decode cX4_levelOf 5 = .ok (.ireturn, 1) := by decide +kernel
theorem dX4_amountOf_0 : decode cX4_amountOf 0 = .ok (.iload_n 0, 1) := by decide +kernel
theorem dX4_amountOf_1 : decode cX4_amountOf 1 = .ok (.bipush 31, 2) := by decide +kernel
theorem dX4_amountOf_3 : decode cX4_amountOf 3 = .ok (.iand, 1) := by decide +kernel
theorem dX4_amountOf_4 : decode cX4_amountOf 4 = .ok (.bipush 8, 2) := by decide +kernel
theorem dX4_amountOf_6 : decode cX4_amountOf 6 = .ok (.isub, 1) := by decide +kernel
theorem dX4_amountOf_7 : decode cX4_amountOf 7 = .ok (.ireturn, 1) := by decide +kernel
theorem dX4_shortEndOf_0 : decode cX4_shortEndOf 0 = .ok (.iload_n 0, 1) := by decide +kernel
theorem dX4_shortEndOf_1 : decode cX4_shortEndOf 1 = .ok (.invokestatic 15, 3) := by decide +kernel
theorem dX4_shortEndOf_4 : decode cX4_shortEndOf 4 = .ok (.iload_n 0, 1) := by decide +kernel
theorem dX4_shortEndOf_5 : decode cX4_shortEndOf 5 = .ok (.invokestatic 19, 3) := by decide +kernel
theorem dX4_shortEndOf_8 : decode cX4_shortEndOf 8 = .ok (.iadd, 1) := by decide +kernel
theorem dX4_shortEndOf_9 : decode cX4_shortEndOf 9 = .ok (.ireturn, 1) := by decide +kernel
theorem dX4_lookOf_0 : decode cX4_lookOf 0 = .ok (.iload_n 0, 1) := by decide +kernel
theorem dX4_lookOf_1 : decode cX4_lookOf 1 = .ok (.iconst (-1), 1) := by decide +kernel
theorem dX4_lookOf_2 : decode cX4_lookOf 2 = .ok (.if_icmp .ne 7, 3) := by decide +kernel
theorem dX4_lookOf_5 : decode cX4_lookOf 5 = .ok (.iconst (-1), 1) := by decide +kernel
theorem dX4_lookOf_6 : decode cX4_lookOf 6 = .ok (.goto 8, 3) := by decide +kernel
theorem dX4_lookOf_9 : decode cX4_lookOf 9 = .ok (.iload_n 0, 1) := by decide +kernel
theorem dX4_lookOf_10 : decode cX4_lookOf 10 = .ok (.sipush 8191, 3) := by decide +kernel
theorem dX4_lookOf_13 : decode cX4_lookOf 13 = .ok (.iand, 1) := by decide +kernel
theorem dX4_lookOf_14 : decode cX4_lookOf 14 = .ok (.ireturn, 1) := by decide +kernel
theorem dX4_movedTo_0 : decode cX4_movedTo 0 = .ok (.iload_n 0, 1) := by decide +kernel
theorem dX4_movedTo_1 : decode cX4_movedTo 1 = .ok (.invokestatic 22, 3) := by decide +kernel
theorem dX4_movedTo_4 : decode cX4_movedTo 4 = .ok (.iload_n 1, 1) := by decide +kernel
theorem dX4_movedTo_5 : decode cX4_movedTo 5 = .ok (.iload_n 0, 1) := by decide +kernel
theorem dX4_movedTo_6 : decode cX4_movedTo 6 = .ok (.invokestatic 19, 3) := by decide +kernel
theorem dX4_movedTo_9 : decode cX4_movedTo 9 = .ok (.iload_n 0, 1) := by decide +kernel
theorem dX4_movedTo_10 : decode cX4_movedTo 10 = .ok (.invokestatic 25, 3) := by decide +kernel
theorem dX4_movedTo_13 : decode cX4_movedTo 13 = .ok (.iload_n 0, 1) := by decide +kernel
theorem dX4_movedTo_14 : decode cX4_movedTo 14 = .ok (.invokestatic 28, 3) := by decide +kernel
theorem dX4_movedTo_17 : decode cX4_movedTo 17 = .ok (.iload_n 0, 1) := by decide +kernel
theorem dX4_movedTo_18 : decode cX4_movedTo 18 = .ok (.invokestatic 31, 3) := by decide +kernel
theorem dX4_movedTo_21 : decode cX4_movedTo 21 = .ok (.iload_n 0, 1) := by decide +kernel
theorem dX4_movedTo_22 : decode cX4_movedTo 22 = .ok (.invokestatic 34, 3) := by decide +kernel
theorem dX4_movedTo_25 : decode cX4_movedTo 25 = .ok (.invokestatic 11, 3) := by decide +kernel
theorem dX4_movedTo_28 : decode cX4_movedTo 28 = .ok (.ireturn, 1) := by decide +kernel
theorem dX4_turnedBack_0 : decode cX4_turnedBack 0 = .ok (.iload_n 0, 1) := by decide +kernel
theorem dX4_turnedBack_1 : decode cX4_turnedBack 1 = .ok (.invokestatic 22, 3) := by decide +kernel
theorem dX4_turnedBack_4 : decode cX4_turnedBack 4 = .ok (.iload_n 0, 1) := by decide +kernel
theorem dX4_turnedBack_5 : decode cX4_turnedBack 5 = .ok (.invokestatic 15, 3) := by decide +kernel
theorem dX4_turnedBack_8 : decode cX4_turnedBack 8 = .ok (.iload_n 0, 1) := by decide +kernel
theorem dX4_turnedBack_9 : decode cX4_turnedBack 9 = .ok (.invokestatic 19, 3) := by decide +kernel
theorem dX4_turnedBack_12 : decode cX4_turnedBack 12 = .ok (.iload_n 0, 1) := by decide +kernel
theorem dX4_turnedBack_13 : decode cX4_turnedBack 13 = .ok (.invokestatic 25, 3) := by decide +kernel
theorem dX4_turnedBack_16 : decode cX4_turnedBack 16 = .ok (.iload_n 0, 1) := by decide +kernel
theorem dX4_turnedBack_17 : decode cX4_turnedBack 17 = .ok (.invokestatic 28, 3) := by decide +kernel
theorem dX4_turnedBack_20 : decode cX4_turnedBack 20 = .ok (.iload_n 0, 1) := by decide +kernel
theorem dX4_turnedBack_21 : decode cX4_turnedBack 21 = .ok (.invokestatic 31, 3) := by decide +kernel
theorem dX4_turnedBack_24 : decode cX4_turnedBack 24 = .ok (.iload_n 0, 1) := by decide +kernel
theorem dX4_turnedBack_25 : decode cX4_turnedBack 25 = .ok (.invokestatic 34, 3) := by decide +kernel
theorem dX4_turnedBack_28 : decode cX4_turnedBack 28 = .ok (.ineg, 1) := by decide +kernel
theorem dX4_turnedBack_29 : decode cX4_turnedBack 29 = .ok (.invokestatic 11, 3) := by decide +kernel
theorem dX4_turnedBack_32 : decode cX4_turnedBack 32 = .ok (.ireturn, 1) := by decide +kernel
theorem dX4_mirrored_0 : decode cX4_mirrored 0 = .ok (.iload_n 0, 1) := by decide +kernel
theorem dX4_mirrored_1 : decode cX4_mirrored 1 = .ok (.iconst (-1), 1) := by decide +kernel
theorem dX4_mirrored_2 : decode cX4_mirrored 2 = .ok (.if_icmp .ne 5, 3) := by decide +kernel
theorem dX4_mirrored_5 : decode cX4_mirrored 5 = .ok (.iconst (-1), 1) := by decide +kernel
theorem dX4_mirrored_6 : decode cX4_mirrored 6 = .ok (.ireturn, 1) := by decide +kernel
theorem dX4_mirrored_7 : decode cX4_mirrored 7 = .ok (.iload_n 0, 1) := by decide +kernel
theorem dX4_mirrored_8 : decode cX4_mirrored 8 = .ok (.invokestatic 22, 3) := by decide +kernel
theorem dX4_mirrored_11 : decode cX4_mirrored 11 = .ok (.invokestatic 37, 3) := by decide +kernel
theorem dX4_mirrored_14 : decode cX4_mirrored 14 = .ok (.iload_n 0, 1) := by decide +kernel
theorem dX4_mirrored_15 : decode cX4_mirrored 15 = .ok (.invokestatic 15, 3) := by decide +kernel
theorem dX4_mirrored_18 : decode cX4_mirrored 18 = .ok (.iload_n 0, 1) := by decide +kernel
theorem dX4_mirrored_19 : decode cX4_mirrored 19 = .ok (.invokestatic 19, 3) := by decide +kernel
theorem dX4_mirrored_22 : decode cX4_mirrored 22 = .ok (.iload_n 0, 1) := by decide +kernel
theorem dX4_mirrored_23 : decode cX4_mirrored 23 = .ok (.invokestatic 25, 3) := by decide +kernel
theorem dX4_mirrored_26 : decode cX4_mirrored 26 = .ok (.iload_n 0, 1) := by decide +kernel
theorem dX4_mirrored_27 : decode cX4_mirrored 27 = .ok (.invokestatic 28, 3) := by decide +kernel
theorem dX4_mirrored_30 : decode cX4_mirrored 30 = .ok (.invokestatic 40, 3) := by decide +kernel
theorem dX4_mirrored_33 : decode cX4_mirrored 33 = .ok (.iload_n 0, 1) := by decide +kernel
theorem dX4_mirrored_34 : decode cX4_mirrored 34 = .ok (.invokestatic 31, 3) := by decide +kernel
theorem dX4_mirrored_37 : decode cX4_mirrored 37 = .ok (.iload_n 0, 1) := by decide +kernel
theorem dX4_mirrored_38 : decode cX4_mirrored 38 = .ok (.invokestatic 34, 3) := by decide +kernel
theorem dX4_mirrored_41 : decode cX4_mirrored 41 = .ok (.ineg, 1) := by decide +kernel
theorem dX4_mirrored_42 : decode cX4_mirrored 42 = .ok (.invokestatic 11, 3) := by decide +kernel
theorem dX4_mirrored_45 : decode cX4_mirrored 45 = .ok (.ireturn, 1) := by decide +kernel
theorem dX4_mirroredColumn_0 : decode cX4_mirroredColumn 0 = .ok (.iload_n 0, 1) := by decide +kernel
theorem dX4_mirroredColumn_1 : decode cX4_mirroredColumn 1 = .ok (.bipush 6, 2) := by decide +kernel
theorem dX4_mirroredColumn_3 : decode cX4_mirroredColumn 3 = .ok (.if_icmp .ne 6, 3) := by decide +kernel
theorem dX4_mirroredColumn_6 : decode cX4_mirroredColumn 6 = .ok (.bipush 6, 2) := by decide +kernel
theorem dX4_mirroredColumn_8 : decode cX4_mirroredColumn 8 = .ok (.ireturn, 1) := by decide +kernel
theorem dX4_mirroredColumn_9 : decode cX4_mirroredColumn 9 = .ok (.iload_n 0, 1) := by decide +kernel
theorem dX4_mirroredColumn_10 : decode cX4_mirroredColumn 10 = .ok (.iconst 2, 1) := by decide +kernel
theorem dX4_mirroredColumn_11 : decode cX4_mirroredColumn 11 = .ok (.irem, 1) := by decide +kernel
theorem dX4_mirroredColumn_12 : decode cX4_mirroredColumn 12 = .ok (.ifCond .ne 9, 3) := by decide +kernel
theorem dX4_mirroredColumn_15 : decode cX4_mirroredColumn 15 = .ok (.iload_n 0, 1) := by decide +kernel
theorem dX4_mirroredColumn_16 : decode cX4_mirroredColumn 16 = .ok (.iconst 1, 1) := by decide +kernel
theorem dX4_mirroredColumn_17 : decode cX4_mirroredColumn 17 = .ok (.iadd, 1) := by decide +kernel
theorem dX4_mirroredColumn_18 : decode cX4_mirroredColumn 18 = .ok (.goto 6, 3) := by decide +kernel
theorem dX4_mirroredColumn_21 : decode cX4_mirroredColumn 21 = .ok (.iload_n 0, 1) := by decide +kernel
theorem dX4_mirroredColumn_22 : decode cX4_mirroredColumn 22 = .ok (.iconst 1, 1) := by decide +kernel
theorem dX4_mirroredColumn_23 : decode cX4_mirroredColumn 23 = .ok (.isub, 1) := by decide +kernel
theorem dX4_mirroredColumn_24 : decode cX4_mirroredColumn 24 = .ok (.ireturn, 1) := by decide +kernel
theorem dX4_mirroredDirection_0 : decode cX4_mirroredDirection 0 = .ok (.iload_n 0, 1) := by decide +kernel
theorem dX4_mirroredDirection_1 : decode cX4_mirroredDirection 1 = .ok (.iconst 2, 1) := by decide +kernel
theorem dX4_mirroredDirection_2 : decode cX4_mirroredDirection 2 = .ok (.if_icmp .ge 7, 3) := by decide +kernel
theorem dX4_mirroredDirection_5 : decode cX4_mirroredDirection 5 = .ok (.iload_n 0, 1) := by decide +kernel
theorem dX4_mirroredDirection_6 : decode cX4_mirroredDirection 6 = .ok (.goto 7, 3) := by decide +kernel
theorem dX4_mirroredDirection_9 : decode cX4_mirroredDirection 9 = .ok (.bipush 10, 2) := by decide +kernel
theorem dX4_mirroredDirection_11 : decode cX4_mirroredDirection 11 = .ok (.iload_n 0, 1) := by decide +kernel
theorem dX4_mirroredDirection_12 : decode cX4_mirroredDirection 12 = .ok (.isub, 1) := by decide +kernel
theorem dX4_mirroredDirection_13 : decode cX4_mirroredDirection 13 = .ok (.ireturn, 1) := by decide +kernel
theorem dX5_init_0 : decode cX5_init 0 = .ok (.aload_n 0, 1) := by decide +kernel
theorem dX5_init_1 : decode cX5_init 1 = .ok (.invokespecial 3, 3) := by decide +kernel
theorem dX5_init_4 : decode cX5_init 4 = .ok (.aload_n 0, 1) := by decide +kernel
theorem dX5_init_5 : decode cX5_init 5 = .ok (.bipush 49, 2) := by decide +kernel
theorem dX5_init_7 : decode cX5_init 7 = .ok (.newarray .int, 2) := by decide +kernel
theorem dX5_init_9 : decode cX5_init 9 = .ok (.putfield 9, 3) := by decide +kernel
theorem dX5_init_12 : decode cX5_init 12 = .ok (.aload_n 0, 1) := by decide +kernel
theorem dX5_init_13 : decode cX5_init 13 = .ok (.bipush 49, 2) := by decide +kernel
theorem dX5_init_15 : decode cX5_init 15 = .ok (.newarray .int, 2) := by decide +kernel
theorem dX5_init_17 : decode cX5_init 17 = .ok (.putfield 15, 3) := by decide +kernel
theorem dX5_init_20 : decode cX5_init 20 = .ok (.aload_n 0, 1) := by decide +kernel
theorem dX5_init_21 : decode cX5_init 21 = .ok (.bipush 49, 2) := by decide +kernel
theorem dX5_init_23 : decode cX5_init 23 = .ok (.newarray .int, 2) := by decide +kernel
theorem dX5_init_25 : decode cX5_init 25 = .ok (.putfield 18, 3) := by decide +kernel
theorem dX5_init_28 : decode cX5_init 28 = .ok (.aload_n 0, 1) := by decide +kernel
theorem dX5_init_29 : decode cX5_init 29 = .ok (.bipush 49, 2) := by decide +kernel
theorem dX5_init_31 : decode cX5_init 31 = .ok (.newarray .int, 2) := by decide +kernel
theorem dX5_init_33 : decode cX5_init 33 = .ok (.putfield 21, 3) := by decide +kernel
theorem dX5_init_36 : decode cX5_init 36 = .ok (.aload_n 0, 1) := by decide +kernel
theorem dX5_init_37 : decode cX5_init 37 = .ok (.bipush 49, 2) := by decide +kernel
theorem dX5_init_39 : decode cX5_init 39 = .ok (.newarray .int, 2) := by decide +kernel
theorem dX5_init_41 : decode cX5_init 41 = .ok (.putfield 24, 3) := by decide +kernel
theorem dX5_init_44 : decode cX5_init 44 = .ok (.aload_n 0, 1) := by decide +kernel
theorem dX5_init_45 : decode cX5_init 45 = .ok (.bipush 49, 2) := by decide +kernel
theorem dX5_init_47 : decode cX5_init 47 = .ok (.newarray .int, 2) := by decide +kernel
theorem dX5_init_49 : decode cX5_init 49 = .ok (.putfield 27, 3) := by decide +kernel
theorem dX5_init_52 : decode cX5_init 52 = .ok (.return_, 1) := by decide +kernel
theorem dX5_follow_0 : decode cX5_follow 0 = .ok (.aload_n 0, 1) := by decide +kernel
theorem dX5_follow_1 : decode cX5_follow 1 = .ok (.getfield 21, 3) := by decide +kernel
theorem dX5_follow_4 : decode cX5_follow 4 = .ok (.iconst 0, 1) := by decide +kernel
theorem dX5_follow_5 : decode cX5_follow 5 = .ok (.invokestatic 30, 3) := by decide +kernel
theorem dX5_follow_8 : decode cX5_follow 8 = .ok (.aload_n 0, 1) := by decide +kernel
theorem dX5_follow_9 : decode cX5_follow 9 = .ok (.getfield 24, 3) := by decide +kernel
theorem dX5_follow_12 : decode cX5_follow 12 = .ok (.iconst (-1), 1) := by decide +kernel
theorem dX5_follow_13 : decode cX5_follow 13 = .ok (.invokestatic 30, 3) := by decide +kernel
theorem dX5_follow_16 : decode cX5_follow 16 = .ok (.aload_n 0, 1) := by decide +kernel
theorem dX5_follow_17 : decode cX5_follow 17 = .ok (.getfield 27, 3) := by decide +kernel
theorem dX5_follow_20 : decode cX5_follow 20 = .ok (.iconst (-1), 1) := by decide +kernel
theorem dX5_follow_21 : decode cX5_follow 21 = .ok (.invokestatic 30, 3) := by decide +kernel
theorem dX5_follow_24 : decode cX5_follow 24 = .ok (.iconst 0, 1) := by decide +kernel
theorem dX5_follow_25 : decode cX5_follow 25 = .ok (.istore_n 2, 1) := by decide +kernel
theorem dX5_follow_26 : decode cX5_follow 26 = .ok (.iload_n 2, 1) := by decide +kernel
theorem dX5_follow_27 : decode cX5_follow 27 = .ok (.aload_n 1, 1) := by decide +kernel
theorem dX5_follow_28 : decode cX5_follow 28 = .ok (.getfield 36, 3) := by decide +kernel
theorem dX5_follow_31 : decode cX5_follow 31 = .ok (.if_icmp .ge 18, 3) := by decide +kernel
theorem dX5_follow_34 : decode cX5_follow 34 = .ok (.aload_n 0, 1) := by decide +kernel
theorem dX5_follow_35 : decode cX5_follow 35 = .ok (.aload_n 1, 1) := by decide +kernel
theorem dX5_follow_36 : decode cX5_follow 36 = .ok (.iload_n 2, 1) := by decide +kernel
theorem dX5_follow_37 : decode cX5_follow 37 = .ok (.invokevirtual 42, 3) := by decide +kernel
theorem dX5_follow_40 : decode cX5_follow 40 = .ok (.invokevirtual 46, 3) := by decide +kernel
theorem dX5_follow_43 : decode cX5_follow 43 = .ok (.iinc 2 1, 3) := by decide +kernel
theorem dX5_follow_46 : decode cX5_follow 46 = .ok (.goto (-20), 3) := by decide +kernel
theorem dX5_follow_49 : decode cX5_follow 49 = .ok (.iconst 1, 1) := by decide +kernel
theorem dX5_follow_50 : decode cX5_follow 50 = .ok (.istore_n 2, 1) := by decide +kernel
theorem dX5_follow_51 : decode cX5_follow 51 = .ok (.iload_n 2, 1) := by decide +kernel
theorem dX5_follow_52 : decode cX5_follow 52 = .ok (.aload_n 1, 1) := by decide +kernel
theorem dX5_follow_53 : decode cX5_follow 53 = .ok (.getfield 50, 3) := by decide +kernel
theorem dX5_follow_56 : decode cX5_follow 56 = .ok (.if_icmp .gt 97, 3) := by decide +kernel
theorem dX5_follow_59 : decode cX5_follow 59 = .ok (.aload_n 0, 1) := by decide +kernel
theorem dX5_follow_60 : decode cX5_follow 60 = .ok (.getfield 18, 3) := by decide +kernel
theorem dX5_follow_63 : decode cX5_follow 63 = .ok (.iload_n 2, 1) := by decide +kernel
theorem dX5_follow_64 : decode cX5_follow 64 = .ok (.aload_n 0, 1) := by decide +kernel
theorem dX5_follow_65 : decode cX5_follow 65 = .ok (.getfield 18, 3) := by decide +kernel
theorem dX5_follow_68 : decode cX5_follow 68 = .ok (.iload_n 2, 1) := by decide +kernel
theorem dX5_follow_69 : decode cX5_follow 69 = .ok (.iconst 1, 1) := by decide +kernel
theorem dX5_follow_70 : decode cX5_follow 70 = .ok (.isub, 1) := by decide +kernel
theorem dX5_follow_71 : decode cX5_follow 71 = .ok (.iaload, 1) := by decide +kernel
theorem dX5_follow_72 : decode cX5_follow 72 = .ok (.aload_n 0, 1) := by decide +kernel
theorem dX5_follow_73 : decode cX5_follow 73 = .ok (.getfield 21, 3) := by decide +kernel
theorem dX5_follow_76 : decode cX5_follow 76 = .ok (.iload_n 2, 1) := by decide +kernel
theorem dX5_follow_77 : decode cX5_follow 77 = .ok (.iaload, 1) := by decide +kernel
theorem dX5_follow_78 : decode cX5_follow 78 = .ok (.iadd, 1) := by decide +kernel
theorem dX5_follow_79 : decode cX5_follow 79 = .ok (.bipush 8, 2) := by decide +kernel
theorem dX5_follow_81 : decode cX5_follow 81 = .ok (.invokestatic 53, 3) := by decide +kernel
theorem dX5_follow_84 : decode cX5_follow 84 = .ok (.iastore, 1) := by decide +kernel
theorem dX5_follow_85 : decode cX5_follow 85 = .ok (.aload_n 0, 1) := by decide +kernel
theorem dX5_follow_86 : decode cX5_follow 86 = .ok (.getfield 9, 3) := by decide +kernel
theorem dX5_follow_89 : decode cX5_follow 89 = .ok (.iload_n 2, 1) := by decide +kernel
theorem dX5_follow_90 : decode cX5_follow 90 = .ok (.aload_n 0, 1) := by decide +kernel
theorem dX5_follow_91 : decode cX5_follow 91 = .ok (.getfield 9, 3) := by decide +kernel
theorem dX5_follow_94 : decode cX5_follow 94 = .ok (.iload_n 2, 1) := by decide +kernel
theorem dX5_follow_95 : decode cX5_follow 95 = .ok (.iconst 1, 1) := by decide +kernel
theorem dX5_follow_96 : decode cX5_follow 96 = .ok (.isub, 1) := by decide +kernel
theorem dX5_follow_97 : decode cX5_follow 97 = .ok (.iaload, 1) := by decide +kernel
theorem dX5_follow_98 : decode cX5_follow 98 = .ok (.iastore, 1) := by decide +kernel
theorem dX5_follow_99 : decode cX5_follow 99 = .ok (.aload_n 0, 1) := by decide +kernel
theorem dX5_follow_100 : decode cX5_follow 100 = .ok (.getfield 15, 3) := by decide +kernel
theorem dX5_follow_103 : decode cX5_follow 103 = .ok (.iload_n 2, 1) := by decide +kernel
theorem dX5_follow_104 : decode cX5_follow 104 = .ok (.aload_n 0, 1) := by decide +kernel
theorem dX5_follow_105 : decode cX5_follow 105 = .ok (.getfield 15, 3) := by decide +kernel
theorem dX5_follow_108 : decode cX5_follow 108 = .ok (.iload_n 2, 1) := by decide +kernel
theorem dX5_follow_109 : decode cX5_follow 109 = .ok (.iconst 1, 1) := by decide +kernel
theorem dX5_follow_110 : decode cX5_follow 110 = .ok (.isub, 1) := by decide +kernel
theorem dX5_follow_111 : decode cX5_follow 111 = .ok (.iaload, 1) := by decide +kernel
theorem dX5_follow_112 : decode cX5_follow 112 = .ok (.iastore, 1) := by decide +kernel
theorem dX5_follow_113 : decode cX5_follow 113 = .ok (.aload_n 0, 1) := by decide +kernel
theorem dX5_follow_114 : decode cX5_follow 114 = .ok (.iload_n 2, 1) := by decide +kernel
theorem dX5_follow_115 : decode cX5_follow 115 = .ok (.aload_n 0, 1) := by decide +kernel
theorem dX5_follow_116 : decode cX5_follow 116 = .ok (.getfield 24, 3) := by decide +kernel
theorem dX5_follow_119 : decode cX5_follow 119 = .ok (.iload_n 2, 1) := by decide +kernel
theorem dX5_follow_120 : decode cX5_follow 120 = .ok (.iaload, 1) := by decide +kernel
theorem dX5_follow_121 : decode cX5_follow 121 = .ok (.aload_n 0, 1) := by decide +kernel
theorem dX5_follow_122 : decode cX5_follow 122 = .ok (.getfield 27, 3) := by decide +kernel
theorem dX5_follow_125 : decode cX5_follow 125 = .ok (.iload_n 2, 1) := by decide +kernel
theorem dX5_follow_126 : decode cX5_follow 126 = .ok (.iaload, 1) := by decide +kernel
theorem dX5_follow_127 : decode cX5_follow 127 = .ok (.invokevirtual 59, 3) := by decide +kernel
theorem dX5_follow_130 : decode cX5_follow 130 = .ok (.aload_n 0, 1) := by decide +kernel
theorem dX5_follow_131 : decode cX5_follow 131 = .ok (.iload_n 2, 1) := by decide +kernel
theorem dX5_follow_132 : decode cX5_follow 132 = .ok (.aload_n 0, 1) := by decide +kernel
theorem dX5_follow_133 : decode cX5_follow 133 = .ok (.getfield 27, 3) := by decide +kernel
theorem dX5_follow_136 : decode cX5_follow 136 = .ok (.iload_n 2, 1) := by decide +kernel
theorem dX5_follow_137 : decode cX5_follow 137 = .ok (.iaload, 1) := by decide +kernel
theorem dX5_follow_138 : decode cX5_follow 138 = .ok (.aload_n 0, 1) := by decide +kernel
theorem dX5_follow_139 : decode cX5_follow 139 = .ok (.getfield 24, 3) := by decide +kernel
theorem dX5_follow_142 : decode cX5_follow 142 = .ok (.iload_n 2, 1) := by decide +kernel
theorem dX5_follow_143 : decode cX5_follow 143 = .ok (.iaload, 1) := by decide +kernel
theorem dX5_follow_144 : decode cX5_follow 144 = .ok (.invokevirtual 59, 3) := by decide +kernel
theorem dX5_follow_147 : decode cX5_follow 147 = .ok (.iinc 2 1, 3) := by decide +kernel
theorem dX5_follow_150 : decode cX5_follow 150 = .ok (.goto (-99), 3) := by decide +kernel
theorem dX5_follow_153 : decode cX5_follow 153 = .ok (.return_, 1) := by decide +kernel
theorem dX5_noteEnd_0 : decode cX5_noteEnd 0 = .ok (.iload_n 1, 1) := by decide +kernel
theorem dX5_noteEnd_1 : decode cX5_noteEnd 1 = .ok (.invokestatic 63, 3) := by decide +kernel
theorem dX5_noteEnd_4 : decode cX5_noteEnd 4 = .ok (.istore_n 2, 1) := by decide +kernel
theorem dX5_noteEnd_5 : decode cX5_noteEnd 5 = .ok (.iload_n 2, 1) := by decide +kernel
theorem dX5_noteEnd_6 : decode cX5_noteEnd 6 = .ok (.aload_n 0, 1) := by decide +kernel
theorem dX5_noteEnd_7 : decode cX5_noteEnd 7 = .ok (.getfield 21, 3) := by decide +kernel
theorem dX5_noteEnd_10 : decode cX5_noteEnd 10 = .ok (.arraylength, 1) := by decide +kernel
theorem dX5_noteEnd_11 : decode cX5_noteEnd 11 = .ok (.if_icmp .lt 4, 3) := by decide +kernel
theorem dX5_noteEnd_14 : decode cX5_noteEnd 14 = .ok (.return_, 1) := by decide +kernel
theorem dX5_noteEnd_15 : decode cX5_noteEnd 15 = .ok (.iload_n 1, 1) := by decide +kernel
theorem dX5_noteEnd_16 : decode cX5_noteEnd 16 = .ok (.invokestatic 68, 3) := by decide +kernel
theorem dX5_noteEnd_19 : decode cX5_noteEnd 19 = .ok (.iconst 2, 1) := by decide +kernel
theorem dX5_noteEnd_20 : decode cX5_noteEnd 20 = .ok (.if_icmp .ne 16, 3) := by decide +kernel
theorem dX5_noteEnd_23 : decode cX5_noteEnd 23 = .ok (.aload_n 0, 1) := by decide +kernel
theorem dX5_noteEnd_24 : decode cX5_noteEnd 24 = .ok (.getfield 21, 3) := by decide +kernel
theorem dX5_noteEnd_27 : decode cX5_noteEnd 27 = .ok (.iload_n 2, 1) := by decide +kernel
theorem dX5_noteEnd_28 : decode cX5_noteEnd 28 = .ok (.iload_n 1, 1) := by decide +kernel
theorem dX5_noteEnd_29 : decode cX5_noteEnd 29 = .ok (.invokestatic 71, 3) := by decide +kernel
theorem dX5_noteEnd_32 : decode cX5_noteEnd 32 = .ok (.iastore, 1) := by decide +kernel
theorem dX5_noteEnd_33 : decode cX5_noteEnd 33 = .ok (.goto 16, 3) := by decide +kernel
theorem dX5_noteEnd_36 : decode cX5_noteEnd 36 = .ok (.iload_n 1, 1) := by decide +kernel
theorem dX5_noteEnd_37 : decode cX5_noteEnd 37 = .ok (.invokestatic 68, 3) := by decide +kernel
theorem dX5_noteEnd_40 : decode cX5_noteEnd 40 = .ok (.ifCond .ne 9, 3) := by decide +kernel
theorem dX5_noteEnd_43 : decode cX5_noteEnd 43 = .ok (.aload_n 0, 1) := by decide +kernel
theorem dX5_noteEnd_44 : decode cX5_noteEnd 44 = .ok (.iload_n 1, 1) := by decide +kernel
theorem dX5_noteEnd_45 : decode cX5_noteEnd 45 = .ok (.iload_n 2, 1) := by decide +kernel
theorem dX5_noteEnd_46 : decode cX5_noteEnd 46 = .ok (.invokevirtual 74, 3) := by decide +kernel
theorem dX5_noteEnd_49 : decode cX5_noteEnd 49 = .ok (.return_, 1) := by decide +kernel
theorem dX5_noteStep_0 : decode cX5_noteStep 0 = .ok (.iload_n 1, 1) := by decide +kernel
theorem dX5_noteStep_1 : decode cX5_noteStep 1 = .ok (.invokestatic 78, 3) := by decide +kernel
theorem dX5_noteStep_4 : decode cX5_noteStep 4 = .ok (.ifCond .ne 13, 3) := by decide +kernel
theorem dX5_noteStep_7 : decode cX5_noteStep 7 = .ok (.aload_n 0, 1) := by decide +kernel
theorem dX5_noteStep_8 : decode cX5_noteStep 8 = .ok (.getfield 24, 3) := by decide +kernel
theorem dX5_noteStep_11 : decode cX5_noteStep 11 = .ok (.iload_n 2, 1) := by decide +kernel
theorem dX5_noteStep_12 : decode cX5_noteStep 12 = .ok (.iload_n 1, 1) := by decide +kernel
theorem dX5_noteStep_13 : decode cX5_noteStep 13 = .ok (.iastore, 1) := by decide +kernel
theorem dX5_noteStep_14 : decode cX5_noteStep 14 = .ok (.goto 18, 3) := by decide +kernel
theorem dX5_noteStep_17 : decode cX5_noteStep 17 = .ok (.iload_n 1, 1) := by decide +kernel
theorem dX5_noteStep_18 : decode cX5_noteStep 18 = .ok (.invokestatic 78, 3) := by decide +kernel
theorem dX5_noteStep_21 : decode cX5_noteStep 21 = .ok (.iconst 1, 1) := by decide +kernel
theorem dX5_noteStep_22 : decode cX5_noteStep 22 = .ok (.if_icmp .ne 10, 3) := by decide +kernel
theorem dX5_noteStep_25 : decode cX5_noteStep 25 = .ok (.aload_n 0, 1) := by decide +kernel
theorem dX5_noteStep_26 : decode cX5_noteStep 26 = .ok (.getfield 27, 3) := by decide +kernel
theorem dX5_noteStep_29 : decode cX5_noteStep 29 = .ok (.iload_n 2, 1) := by decide +kernel
theorem dX5_noteStep_30 : decode cX5_noteStep 30 = .ok (.iload_n 1, 1) := by decide +kernel
theorem dX5_noteStep_31 : decode cX5_noteStep 31 = .ok (.iastore, 1) := by decide +kernel
theorem dX5_noteStep_32 : decode cX5_noteStep 32 = .ok (.return_, 1) := by decide +kernel
theorem dX5_step_0 : decode cX5_step 0 = .ok (.iload_n 2, 1) := by decide +kernel
theorem dX5_step_1 : decode cX5_step 1 = .ok (.iconst (-1), 1) := by decide +kernel
theorem dX5_step_2 : decode cX5_step 2 = .ok (.if_icmp .eq 10, 3) := by decide +kernel
theorem dX5_step_5 : decode cX5_step 5 = .ok (.iload_n 2, 1) := by decide +kernel
theorem dX5_step_6 : decode cX5_step 6 = .ok (.invokestatic 81, 3) := by decide +kernel
theorem dX5_step_9 : decode cX5_step 9 = .ok (.ifCond .ne 4, 3) := by decide +kernel
theorem dX5_step_12 : decode cX5_step 12 = .ok (.return_, 1) := by decide +kernel
theorem dX5_step_13 : decode cX5_step 13 = .ok (.iload_n 3, 1) := by decide +kernel
theorem dX5_step_14 : decode cX5_step 14 = .ok (.iconst (-1), 1) := by decide +kernel
theorem dX5_step_15 : decode cX5_step 15 = .ok (.if_icmp .ne 7, 3) := by decide +kernel
theorem dX5_step_18 : decode cX5_step 18 = .ok (.iconst 2, 1) := by decide +kernel
theorem dX5_step_19 : decode cX5_step 19 = .ok (.goto 4, 3) := by decide +kernel
theorem dX5_step_22 : decode cX5_step 22 = .ok (.iconst 1, 1) := by decide +kernel
theorem dX5_step_23 : decode cX5_step 23 = .ok (.istore 4, 2) := by decide +kernel
theorem dX5_step_25 : decode cX5_step 25 = .ok (.aload_n 0, 1) := by decide +kernel
theorem dX5_step_26 : decode cX5_step 26 = .ok (.getfield 18, 3) := by decide +kernel
theorem dX5_step_29 : decode cX5_step 29 = .ok (.iload_n 2, 1) := by decide +kernel
theorem dX5_step_30 : decode cX5_step 30 = .ok (.invokestatic 84, 3) := by decide +kernel
theorem dX5_step_33 : decode cX5_step 33 = .ok (.iaload, 1) := by decide +kernel
theorem dX5_step_34 : decode cX5_step 34 = .ok (.iload_n 2, 1) := by decide +kernel
theorem dX5_step_35 : decode cX5_step 35 = .ok (.invokestatic 81, 3) := by decide +kernel
theorem dX5_step_38 : decode cX5_step 38 = .ok (.iadd, 1) := by decide +kernel
theorem dX5_step_39 : decode cX5_step 39 = .ok (.iconst 1, 1) := by decide +kernel
theorem dX5_step_40 : decode cX5_step 40 = .ok (.isub, 1) := by decide +kernel
theorem dX5_step_41 : decode cX5_step 41 = .ok (.bipush 8, 2) := by decide +kernel
theorem dX5_step_43 : decode cX5_step 43 = .ok (.invokestatic 53, 3) := by decide +kernel
theorem dX5_step_46 : decode cX5_step 46 = .ok (.istore 5, 2) := by decide +kernel
theorem dX5_step_48 : decode cX5_step 48 = .ok (.aload_n 0, 1) := by decide +kernel
theorem dX5_step_49 : decode cX5_step 49 = .ok (.getfield 9, 3) := by decide +kernel
theorem dX5_step_52 : decode cX5_step 52 = .ok (.iload_n 1, 1) := by decide +kernel
theorem dX5_step_53 : decode cX5_step 53 = .ok (.dup2, 1) := by decide +kernel
theorem dX5_step_54 : decode cX5_step 54 = .ok (.iaload, 1) := by decide +kernel
theorem dX5_step_55 : decode cX5_step 55 = .ok (.iload 4, 2) := by decide +kernel
theorem dX5_step_57 : decode cX5_step 57 = .ok (.getstatic 87, 3) := by decide +kernel
theorem dX5_step_60 : decode cX5_step 60 = .ok (.iload 5, 2) := by decide +kernel
theorem dX5_step_62 : decode cX5_step 62 = .ok (.iaload, 1) := by decide +kernel
theorem dX5_step_63 : decode cX5_step 63 = .ok (.imul, 1) := by decide +kernel
theorem dX5_step_64 : decode cX5_step 64 = .ok (.iadd, 1) := by decide +kernel
theorem dX5_step_65 : decode cX5_step 65 = .ok (.iastore, 1) := by decide +kernel
theorem dX5_step_66 : decode cX5_step 66 = .ok (.aload_n 0, 1) := by decide +kernel
theorem dX5_step_67 : decode cX5_step 67 = .ok (.getfield 15, 3) := by decide +kernel
theorem dX5_step_70 : decode cX5_step 70 = .ok (.iload_n 1, 1) := by decide +kernel
theorem dX5_step_71 : decode cX5_step 71 = .ok (.dup2, 1) := by decide +kernel
theorem dX5_step_72 : decode cX5_step 72 = .ok (.iaload, 1) := by decide +kernel
theorem dX5_step_73 : decode cX5_step 73 = .ok (.iload 4, 2) := by decide +kernel
theorem dX5_step_75 : decode cX5_step 75 = .ok (.getstatic 90, 3) := by decide +kernel
theorem dX5_step_78 : decode cX5_step 78 = .ok (.iload 5, 2) := by decide +kernel
theorem dX5_step_80 : decode cX5_step 80 = .ok (.iaload, 1) := by decide +kernel
theorem dX5_step_81 : decode cX5_step 81 = .ok (.imul, 1) := by decide +kernel
theorem dX5_step_82 : decode cX5_step 82 = .ok (.iadd, 1) := by decide +kernel
theorem dX5_step_83 : decode cX5_step 83 = .ok (.iastore, 1) := by decide +kernel
theorem dX5_step_84 : decode cX5_step 84 = .ok (.return_, 1) := by decide +kernel
theorem dX5_distanceAt_0 : decode cX5_distanceAt 0 = .ok (.aload_n 0, 1) := by decide +kernel
theorem dX5_distanceAt_1 : decode cX5_distanceAt 1 = .ok (.getfield 9, 3) := by decide +kernel
theorem dX5_distanceAt_4 : decode cX5_distanceAt 4 = .ok (.iload_n 1, 1) := by decide +kernel
theorem dX5_distanceAt_5 : decode cX5_distanceAt 5 = .ok (.iaload, 1) := by decide +kernel
theorem dX5_distanceAt_6 : decode cX5_distanceAt 6 = .ok (.invokestatic 93, 3) := by decide +kernel
theorem dX5_distanceAt_9 : decode cX5_distanceAt 9 = .ok (.aload_n 0, 1) := by decide +kernel
theorem dX5_distanceAt_10 : decode cX5_distanceAt 10 = .ok (.getfield 15, 3) := by decide +kernel
theorem dX5_distanceAt_13 : decode cX5_distanceAt 13 = .ok (.iload_n 1, 1) := by decide +kernel
theorem dX5_distanceAt_14 : decode cX5_distanceAt 14 = .ok (.iaload, 1) := by decide +kernel
theorem dX5_distanceAt_15 : decode cX5_distanceAt 15 = .ok (.invokestatic 93, 3) := by decide +kernel
theorem dX5_distanceAt_18 : decode cX5_distanceAt 18 = .ok (.invokestatic 96, 3) := by decide +kernel
theorem dX5_distanceAt_21 : decode cX5_distanceAt 21 = .ok (.ireturn, 1) := by decide +kernel
theorem dX6_init_0 : decode cX6_init 0 = .ok (.aload_n 0, 1) := by decide +kernel
theorem dX6_init_1 : decode cX6_init 1 = .ok (.invokespecial 3, 3) := by decide +kernel
theorem dX6_init_4 : decode cX6_init 4 = .ok (.aload_n 0, 1) := by decide +kernel
theorem dX6_init_5 : decode cX6_init 5 = .ok (.iconst 0, 1) := by decide +kernel
theorem dX6_init_6 : decode cX6_init 6 = .ok (.putfield 9, 3) := by decide +kernel
theorem dX6_init_9 : decode cX6_init 9 = .ok (.aload_n 0, 1) := by decide +kernel
theorem dX6_init_10 : decode cX6_init 10 = .ok (.iconst 0, 1) := by decide +kernel
theorem dX6_init_11 : decode cX6_init 11 = .ok (.putfield 15, 3) := by decide +kernel
theorem dX6_init_14 : decode cX6_init 14 = .ok (.aload_n 0, 1) := by decide +kernel
theorem dX6_init_15 : decode cX6_init 15 = .ok (.bipush 48, 2) := by decide +kernel
theorem dX6_init_17 : decode cX6_init 17 = .ok (.newarray .int, 2) := by decide +kernel
theorem dX6_init_19 : decode cX6_init 19 = .ok (.putfield 18, 3) := by decide +kernel
theorem dX6_init_22 : decode cX6_init 22 = .ok (.aload_n 0, 1) := by decide +kernel
theorem dX6_init_23 : decode cX6_init 23 = .ok (.bipush 48, 2) := by decide +kernel
theorem dX6_init_25 : decode cX6_init 25 = .ok (.newarray .int, 2) := by decide +kernel
theorem dX6_init_27 : decode cX6_init 27 = .ok (.putfield 22, 3) := by decide +kernel
theorem dX6_init_30 : decode cX6_init 30 = .ok (.aload_n 0, 1) := by decide +kernel
theorem dX6_init_31 : decode cX6_init 31 = .ok (.bipush 48, 2) := by decide +kernel
theorem dX6_init_33 : decode cX6_init 33 = .ok (.newarray .int, 2) := by decide +kernel
theorem dX6_init_35 : decode cX6_init 35 = .ok (.putfield 25, 3) := by decide +kernel
theorem dX6_init_38 : decode cX6_init 38 = .ok (.aload_n 0, 1) := by decide +kernel
theorem dX6_init_39 : decode cX6_init 39 = .ok (.bipush 48, 2) := by decide +kernel
theorem dX6_init_41 : decode cX6_init 41 = .ok (.newarray .int, 2) := by decide +kernel
theorem dX6_init_43 : decode cX6_init 43 = .ok (.putfield 28, 3) := by decide +kernel
theorem dX6_init_46 : decode cX6_init 46 = .ok (.aload_n 0, 1) := by decide +kernel
theorem dX6_init_47 : decode cX6_init 47 = .ok (.bipush 48, 2) := by decide +kernel
theorem dX6_init_49 : decode cX6_init 49 = .ok (.newarray .int, 2) := by decide +kernel
theorem dX6_init_51 : decode cX6_init 51 = .ok (.putfield 31, 3) := by decide +kernel
theorem dX6_init_54 : decode cX6_init 54 = .ok (.return_, 1) := by decide +kernel
theorem dX6_weigh_0 : decode cX6_weigh 0 = .ok (.aload_n 0, 1) := by decide +kernel
theorem dX6_weigh_1 : decode cX6_weigh 1 = .ok (.aload_n 1, 1) := by decide +kernel
theorem dX6_weigh_2 : decode cX6_weigh 2 = .ok (.getfield 34, 3) := by decide +kernel
theorem dX6_weigh_5 : decode cX6_weigh 5 = .ok (.putfield 9, 3) := by decide +kernel
theorem dX6_weigh_8 : decode cX6_weigh 8 = .ok (.aload_n 0, 1) := by decide +kernel
theorem dX6_weigh_9 : decode cX6_weigh 9 = .ok (.aload_n 1, 1) := by decide +kernel
theorem dX6_weigh_10 : decode cX6_weigh 10 = .ok (.getfield 37, 3) := by decide +kernel
theorem dX6_weigh_13 : decode cX6_weigh 13 = .ok (.putfield 15, 3) := by decide +kernel
theorem dX6_weigh_16 : decode cX6_weigh 16 = .ok (.aload_n 0, 1) := by decide +kernel
theorem dX6_weigh_17 : decode cX6_weigh 17 = .ok (.getfield 25, 3) := by decide +kernel
theorem dX6_weigh_20 : decode cX6_weigh 20 = .ok (.iconst 0, 1) := by decide +kernel
theorem dX6_weigh_21 : decode cX6_weigh 21 = .ok (.invokestatic 38, 3) := by decide +kernel
theorem dX6_weigh_24 : decode cX6_weigh 24 = .ok (.aload_n 0, 1) := by decide +kernel
theorem dX6_weigh_25 : decode cX6_weigh 25 = .ok (.getfield 28, 3) := by decide +kernel
theorem dX6_weigh_28 : decode cX6_weigh 28 = .ok (.iconst 0, 1) := by decide +kernel
theorem dX6_weigh_29 : decode cX6_weigh 29 = .ok (.invokestatic 38, 3) := by decide +kernel
theorem dX6_weigh_32 : decode cX6_weigh 32 = .ok (.aload_n 0, 1) := by decide +kernel
theorem dX6_weigh_33 : decode cX6_weigh 33 = .ok (.aload_n 1, 1) := by decide +kernel
theorem dX6_weigh_34 : decode cX6_weigh 34 = .ok (.iconst 0, 1) := by decide +kernel
theorem dX6_weigh_35 : decode cX6_weigh 35 = .ok (.invokevirtual 44, 3) := by decide +kernel
theorem dX6_weigh_38 : decode cX6_weigh 38 = .ok (.aload_n 0, 1) := by decide +kernel
theorem dX6_weigh_39 : decode cX6_weigh 39 = .ok (.aload_n 1, 1) := by decide +kernel
theorem dX6_weigh_40 : decode cX6_weigh 40 = .ok (.iconst 1, 1) := by decide +kernel
theorem dX6_weigh_41 : decode cX6_weigh 41 = .ok (.invokevirtual 44, 3) := by decide +kernel
theorem dX6_weigh_44 : decode cX6_weigh 44 = .ok (.aload_n 0, 1) := by decide +kernel
theorem dX6_weigh_45 : decode cX6_weigh 45 = .ok (.invokevirtual 48, 3) := by decide +kernel
theorem dX6_weigh_48 : decode cX6_weigh 48 = .ok (.return_, 1) := by decide +kernel
theorem dX6_weighSide_0 : decode cX6_weighSide 0 = .ok (.aload_n 1, 1) := by decide +kernel
theorem dX6_weighSide_1 : decode cX6_weighSide 1 = .ok (.iload_n 2, 1) := by decide +kernel
theorem dX6_weighSide_2 : decode cX6_weighSide 2 = .ok (.aload_n 0, 1) := by decide +kernel
theorem dX6_weighSide_3 : decode cX6_weighSide 3 = .ok (.getfield 18, 3) := by decide +kernel
theorem dX6_weighSide_6 : decode cX6_weighSide 6 = .ok (.invokevirtual 51, 3) := by decide +kernel
theorem dX6_weighSide_9 : decode cX6_weighSide 9 = .ok (.aload_n 1, 1) := by decide +kernel
theorem dX6_weighSide_10 : decode cX6_weighSide 10 = .ok (.iconst 2, 1) := by decide +kernel
theorem dX6_weighSide_11 : decode cX6_weighSide 11 = .ok (.iload_n 2, 1) := by decide +kernel
theorem dX6_weighSide_12 : decode cX6_weighSide 12 = .ok (.iadd, 1) := by decide +kernel
theorem dX6_weighSide_13 : decode cX6_weighSide 13 = .ok (.aload_n 0, 1) := by decide +kernel
theorem dX6_weighSide_14 : decode cX6_weighSide 14 = .ok (.getfield 22, 3) := by decide +kernel
theorem dX6_weighSide_17 : decode cX6_weighSide 17 = .ok (.invokevirtual 51, 3) := by decide +kernel
theorem dX6_weighSide_20 : decode cX6_weighSide 20 = .ok (.iconst 1, 1) := by decide +kernel
theorem dX6_weighSide_21 : decode cX6_weighSide 21 = .ok (.iload_n 2, 1) := by decide +kernel
theorem dX6_weighSide_22 : decode cX6_weighSide 22 = .ok (.ishl, 1) := by decide +kernel
theorem dX6_weighSide_23 : decode cX6_weighSide 23 = .ok (.istore_n 3, 1) := by decide +kernel
theorem dX6_weighSide_24 : decode cX6_weighSide 24 = .ok (.iconst 0, 1) := by decide +kernel
theorem dX6_weighSide_25 : decode cX6_weighSide 25 = .ok (.istore 4, 2) := by decide +kernel
theorem dX6_weighSide_27 : decode cX6_weighSide 27 = .ok (.iload 4, 2) := by decide +kernel
theorem dX6_weighSide_29 : decode cX6_weighSide 29 = .ok (.aload_n 0, 1) := by decide +kernel
theorem dX6_weighSide_30 : decode cX6_weighSide 30 = .ok (.getfield 9, 3) := by decide +kernel
theorem dX6_weighSide_33 : decode cX6_weighSide 33 = .ok (.if_icmp .ge 68, 3) := by decide +kernel
theorem dX6_weighSide_36 : decode cX6_weighSide 36 = .ok (.aload_n 0, 1) := by decide +kernel
theorem dX6_weighSide_37 : decode cX6_weighSide 37 = .ok (.getfield 18, 3) := by decide +kernel
theorem dX6_weighSide_40 : decode cX6_weighSide 40 = .ok (.iload 4, 2) := by decide +kernel
theorem dX6_weighSide_42 : decode cX6_weighSide 42 = .ok (.iaload, 1) := by decide +kernel
theorem dX6_weighSide_43 : decode cX6_weighSide 43 = .ok (.invokestatic 55, 3) := by decide +kernel
theorem dX6_weighSide_46 : decode cX6_weighSide 46 = .ok (.ifCond .eq 49, 3) := by decide +kernel
theorem dX6_weighSide_49 : decode cX6_weighSide 49 = .ok (.aload_n 0, 1) := by decide +kernel
theorem dX6_weighSide_50 : decode cX6_weighSide 50 = .ok (.getfield 25, 3) := by decide +kernel
theorem dX6_weighSide_53 : decode cX6_weighSide 53 = .ok (.iload 4, 2) := by decide +kernel
theorem dX6_weighSide_55 : decode cX6_weighSide 55 = .ok (.dup2, 1) := by decide +kernel
theorem dX6_weighSide_56 : decode cX6_weighSide 56 = .ok (.iaload, 1) := by decide +kernel
theorem dX6_weighSide_57 : decode cX6_weighSide 57 = .ok (.iload_n 3, 1) := by decide +kernel
theorem dX6_weighSide_58 : decode cX6_weighSide 58 = .ok (.ior, 1) := by decide +kernel
theorem dX6_weighSide_59 : decode cX6_weighSide 59 = .ok (.iastore, 1) := by decide +kernel
theorem dX6_weighSide_60 : decode cX6_weighSide 60 = .ok (.aload_n 0, 1) := by decide +kernel
theorem dX6_weighSide_61 : decode cX6_weighSide 61 = .ok (.getfield 22, 3) := by decide +kernel
theorem dX6_weighSide_64 : decode cX6_weighSide 64 = .ok (.iload 4, 2) := by decide +kernel
theorem dX6_weighSide_66 : decode cX6_weighSide 66 = .ok (.iaload, 1) := by decide +kernel
theorem dX6_weighSide_67 : decode cX6_weighSide 67 = .ok (.iconst (-1), 1) := by decide +kernel
theorem dX6_weighSide_68 : decode cX6_weighSide 68 = .ok (.if_icmp .eq 27, 3) := by decide +kernel
theorem dX6_weighSide_71 : decode cX6_weighSide 71 = .ok (.aload_n 0, 1) := by decide +kernel
theorem dX6_weighSide_72 : decode cX6_weighSide 72 = .ok (.getfield 22, 3) := by decide +kernel
theorem dX6_weighSide_75 : decode cX6_weighSide 75 = .ok (.iload 4, 2) := by decide +kernel
theorem dX6_weighSide_77 : decode cX6_weighSide 77 = .ok (.iaload, 1) := by decide +kernel
theorem dX6_weighSide_78 : decode cX6_weighSide 78 = .ok (.invokestatic 59, 3) := by decide +kernel
theorem dX6_weighSide_81 : decode cX6_weighSide 81 = .ok (.ifCond .ne 14, 3) := by decide +kernel
theorem dX6_weighSide_84 : decode cX6_weighSide 84 = .ok (.aload_n 0, 1) := by decide +kernel
theorem dX6_weighSide_85 : decode cX6_weighSide 85 = .ok (.getfield 28, 3) := by decide +kernel
theorem dX6_weighSide_88 : decode cX6_weighSide 88 = .ok (.iload 4, 2) := by decide +kernel
theorem dX6_weighSide_90 : decode cX6_weighSide 90 = .ok (.dup2, 1) := by decide +kernel
theorem dX6_weighSide_91 : decode cX6_weighSide 91 = .ok (.iaload, 1) := by decide +kernel
theorem dX6_weighSide_92 : decode cX6_weighSide 92 = .ok (.iload_n 3, 1) := by decide +kernel
theorem dX6_weighSide_93 : decode cX6_weighSide 93 = .ok (.ior, 1) := by decide +kernel
theorem dX6_weighSide_94 : decode cX6_weighSide 94 = .ok (.iastore, 1) := by decide +kernel
theorem dX6_weighSide_95 : decode cX6_weighSide 95 = .ok (.iinc 4 1, 3) := by decide +kernel
theorem dX6_weighSide_98 : decode cX6_weighSide 98 = .ok (.goto (-71), 3) := by decide +kernel
theorem dX6_weighSide_101 : decode cX6_weighSide 101 = .ok (.return_, 1) := by decide +kernel
theorem dX6_canBear_0 : decode cX6_canBear 0 = .ok (.iload_n 0, 1) := by decide +kernel
theorem dX6_canBear_1 : decode cX6_canBear 1 = .ok (.iconst (-1), 1) := by decide +kernel
theorem dX6_canBear_2 : decode cX6_canBear 2 = .ok (.if_icmp .eq 22, 3) := by decide +kernel
theorem dX6_canBear_5 : decode cX6_canBear 5 = .ok (.iload_n 0, 1) := by decide +kernel
theorem dX6_canBear_6 : decode cX6_canBear 6 = .ok (.invokestatic 59, 3) := by decide +kernel
theorem dX6_canBear_9 : decode cX6_canBear 9 = .ok (.ifCond .eq 11, 3) := by decide +kernel
theorem dX6_canBear_12 : decode cX6_canBear 12 = .ok (.iload_n 0, 1) := by decide +kernel
theorem dX6_canBear_13 : decode cX6_canBear 13 = .ok (.invokestatic 59, 3) := by decide +kernel
theorem dX6_canBear_16 : decode cX6_canBear 16 = .ok (.iconst 1, 1) := by decide +kernel
theorem dX6_canBear_17 : decode cX6_canBear 17 = .ok (.if_icmp .ne 7, 3) := by decide +kernel
theorem dX6_canBear_20 : decode cX6_canBear 20 = .ok (.iconst 1, 1) := by decide +kernel
theorem dX6_canBear_21 : decode cX6_canBear 21 = .ok (.goto 4, 3) := by decide +kernel
theorem dX6_canBear_24 : decode cX6_canBear 24 = .ok (.iconst 0, 1) := by decide +kernel
theorem dX6_canBear_25 : decode cX6_canBear 25 = .ok (.ireturn, 1) := by decide +kernel
theorem dX6_measureFlights_0 : decode cX6_measureFlights 0 = .ok (.iconst 0, 1) := by decide +kernel
theorem dX6_measureFlights_1 : decode cX6_measureFlights 1 = .ok (.istore_n 1, 1) := by decide +kernel
theorem dX6_measureFlights_2 : decode cX6_measureFlights 2 = .ok (.iconst 0, 1) := by decide +kernel
theorem dX6_measureFlights_3 : decode cX6_measureFlights 3 = .ok (.istore_n 2, 1) := by decide +kernel
theorem dX6_measureFlights_4 : decode cX6_measureFlights 4 = .ok (.iload_n 2, 1) := by decide +kernel
theorem dX6_measureFlights_5 : decode cX6_measureFlights 5 = .ok (.aload_n 0, 1) := by decide +kernel
theorem dX6_measureFlights_6 : decode cX6_measureFlights 6 = .ok (.getfield 9, 3) := by decide +kernel
theorem dX6_measureFlights_9 : decode cX6_measureFlights 9 = .ok (.if_icmp .ge 33, 3) := by decide +kernel
theorem dX6_measureFlights_12 : decode cX6_measureFlights 12 = .ok (.aload_n 0, 1) := by decide +kernel
theorem dX6_measureFlights_13 : decode cX6_measureFlights 13 = .ok (.getfield 25, 3) := by decide +kernel
theorem dX6_measureFlights_16 : decode cX6_measureFlights 16 = .ok (.iload_n 2, 1) := by decide +kernel
theorem dX6_measureFlights_17 : decode cX6_measureFlights 17 = .ok (.iaload, 1) := by decide +kernel
theorem dX6_measureFlights_18 : decode cX6_measureFlights 18 = .ok (.ifCond .ne 9, 3) := by decide +kernel
theorem dX6_measureFlights_21 : decode cX6_measureFlights 21 = .ok (.iload_n 1, 1) := by decide +kernel
theorem dX6_measureFlights_22 : decode cX6_measureFlights 22 = .ok (.iconst 1, 1) := by decide +kernel
theorem dX6_measureFlights_23 : decode cX6_measureFlights 23 = .ok (.iadd, 1) := by decide +kernel
theorem dX6_measureFlights_24 : decode cX6_measureFlights 24 = .ok (.goto 4, 3) := by decide +kernel
theorem dX6_measureFlights_27 : decode cX6_measureFlights 27 = .ok (.iconst 0, 1) := by decide +kernel
theorem dX6_measureFlights_28 : decode cX6_measureFlights 28 = .ok (.istore_n 1, 1) := by decide +kernel
theorem dX6_measureFlights_29 : decode cX6_measureFlights 29 = .ok (.aload_n 0, 1) := by decide +kernel
theorem dX6_measureFlights_30 : decode cX6_measureFlights 30 = .ok (.getfield 31, 3) := by decide +kernel
theorem dX6_measureFlights_33 : decode cX6_measureFlights 33 = .ok (.iload_n 2, 1) := by decide +kernel
theorem dX6_measureFlights_34 : decode cX6_measureFlights 34 = .ok (.iload_n 1, 1) := by decide +kernel
theorem dX6_measureFlights_35 : decode cX6_measureFlights 35 = .ok (.iastore, 1) := by decide +kernel
theorem dX6_measureFlights_36 : decode cX6_measureFlights 36 = .ok (.iinc 2 1, 3) := by decide +kernel
theorem dX6_measureFlights_39 : decode cX6_measureFlights 39 = .ok (.goto (-35), 3) := by decide +kernel
theorem dX6_measureFlights_42 : decode cX6_measureFlights 42 = .ok (.aload_n 0, 1) := by decide +kernel
theorem dX6_measureFlights_43 : decode cX6_measureFlights 43 = .ok (.getfield 9, 3) := by decide +kernel
theorem dX6_measureFlights_46 : decode cX6_measureFlights 46 = .ok (.iconst 2, 1) := by decide +kernel
theorem dX6_measureFlights_47 : decode cX6_measureFlights 47 = .ok (.isub, 1) := by decide +kernel
theorem dX6_measureFlights_48 : decode cX6_measureFlights 48 = .ok (.istore_n 2, 1) := by decide +kernel
theorem dX6_measureFlights_49 : decode cX6_measureFlights 49 = .ok (.iload_n 2, 1) := by decide +kernel
theorem dX6_measureFlights_50 : decode cX6_measureFlights 50 = .ok (.ifCond .lt 43, 3) := by decide +kernel
theorem dX6_measureFlights_53 : decode cX6_measureFlights 53 = .ok (.aload_n 0, 1) := by decide +kernel
theorem dX6_measureFlights_54 : decode cX6_measureFlights 54 = .ok (.getfield 31, 3) := by decide +kernel
theorem dX6_measureFlights_57 : decode cX6_measureFlights 57 = .ok (.iload_n 2, 1) := by decide +kernel
theorem dX6_measureFlights_58 : decode cX6_measureFlights 58 = .ok (.iaload, 1) := by decide +kernel
theorem dX6_measureFlights_59 : decode cX6_measureFlights 59 = .ok (.ifCond .le 28, 3) := by decide +kernel
theorem dX6_measureFlights_62 : decode cX6_measureFlights 62 = .ok (.aload_n 0, 1) := by decide +kernel
theorem dX6_measureFlights_63 : decode cX6_measureFlights 63 = .ok (.getfield 31, 3) := by decide +kernel
theorem dX6_measureFlights_66 : decode cX6_measureFlights 66 = .ok (.iload_n 2, 1) := by decide +kernel
theorem dX6_measureFlights_67 : decode cX6_measureFlights 67 = .ok (.iconst 1, 1) := by decide +kernel
theorem dX6_measureFlights_68 : decode cX6_measureFlights 68 = .ok (.iadd, 1) := by decide +kernel
theorem dX6_measureFlights_69 : decode cX6_measureFlights 69 = .ok (.iaload, 1) := by decide +kernel
theorem dX6_measureFlights_70 : decode cX6_measureFlights 70 = .ok (.ifCond .le 17, 3) := by decide +kernel
theorem dX6_measureFlights_73 : decode cX6_measureFlights 73 = .ok (.aload_n 0, 1) := by decide +kernel
theorem dX6_measureFlights_74 : decode cX6_measureFlights 74 = .ok (.getfield 31, 3) := by decide +kernel
theorem dX6_measureFlights_77 : decode cX6_measureFlights 77 = .ok (.iload_n 2, 1) := by decide +kernel
theorem dX6_measureFlights_78 : decode cX6_measureFlights 78 = .ok (.aload_n 0, 1) := by decide +kernel
theorem dX6_measureFlights_79 : decode cX6_measureFlights 79 = .ok (.getfield 31, 3) := by decide +kernel
theorem dX6_measureFlights_82 : decode cX6_measureFlights 82 = .ok (.iload_n 2, 1) := by decide +kernel
theorem dX6_measureFlights_83 : decode cX6_measureFlights 83 = .ok (.iconst 1, 1) := by decide +kernel
theorem dX6_measureFlights_84 : decode cX6_measureFlights 84 = .ok (.iadd, 1) := by decide +kernel
theorem dX6_measureFlights_85 : decode cX6_measureFlights 85 = .ok (.iaload, 1) := by decide +kernel
theorem dX6_measureFlights_86 : decode cX6_measureFlights 86 = .ok (.iastore, 1) := by decide +kernel
theorem dX6_measureFlights_87 : decode cX6_measureFlights 87 = .ok (.iinc 2 (-1), 3) := by decide +kernel
theorem dX6_measureFlights_90 : decode cX6_measureFlights 90 = .ok (.goto (-41), 3) := by decide +kernel
theorem dX6_measureFlights_93 : decode cX6_measureFlights 93 = .ok (.return_, 1) := by decide +kernel
theorem dX6_isWrong_0 : decode cX6_isWrong 0 = .ok (.aload_n 0, 1) := by decide +kernel
theorem dX6_isWrong_1 : decode cX6_isWrong 1 = .ok (.getfield 28, 3) := by decide +kernel
theorem dX6_isWrong_4 : decode cX6_isWrong 4 = .ok (.iload_n 1, 1) := by decide +kernel
theorem dX6_isWrong_5 : decode cX6_isWrong 5 = .ok (.iaload, 1) := by decide +kernel
theorem dX6_isWrong_6 : decode cX6_isWrong 6 = .ok (.ifCond .ne 16, 3) := by decide +kernel
theorem dX6_isWrong_9 : decode cX6_isWrong 9 = .ok (.aload_n 0, 1) := by decide +kernel
theorem dX6_isWrong_10 : decode cX6_isWrong 10 = .ok (.getfield 31, 3) := by decide +kernel
theorem dX6_isWrong_13 : decode cX6_isWrong 13 = .ok (.iload_n 1, 1) := by decide +kernel
theorem dX6_isWrong_14 : decode cX6_isWrong 14 = .ok (.iaload, 1) := by decide +kernel
theorem dX6_isWrong_15 : decode cX6_isWrong 15 = .ok (.aload_n 0, 1) := by decide +kernel
theorem dX6_isWrong_16 : decode cX6_isWrong 16 = .ok (.getfield 15, 3) := by decide +kernel
theorem dX6_isWrong_19 : decode cX6_isWrong 19 = .ok (.if_icmp .le 7, 3) := by decide +kernel
theorem dX6_isWrong_22 : decode cX6_isWrong 22 = .ok (.iconst 1, 1) := by decide +kernel
theorem dX6_isWrong_23 : decode cX6_isWrong 23 = .ok (.goto 4, 3) := by decide +kernel
theorem dX6_isWrong_26 : decode cX6_isWrong 26 = .ok (.iconst 0, 1) := by decide +kernel
theorem dX6_isWrong_27 : decode cX6_isWrong 27 = .ok (.ireturn, 1) := by decide +kernel
theorem dX6_wrongBeats_0 : decode cX6_wrongBeats 0 = .ok (.iconst 0, 1) := by decide +kernel
theorem dX6_wrongBeats_1 : decode cX6_wrongBeats 1 = .ok (.istore_n 1, 1) := by decide +kernel
theorem dX6_wrongBeats_2 : decode cX6_wrongBeats 2 = .ok (.iconst 0, 1) := by decide +kernel
theorem dX6_wrongBeats_3 : decode cX6_wrongBeats 3 = .ok (.istore_n 2, 1) := by decide +kernel
theorem dX6_wrongBeats_4 : decode cX6_wrongBeats 4 = .ok (.iload_n 2, 1) := by decide +kernel
theorem dX6_wrongBeats_5 : decode cX6_wrongBeats 5 = .ok (.aload_n 0, 1) := by decide +kernel
theorem dX6_wrongBeats_6 : decode cX6_wrongBeats 6 = .ok (.getfield 9, 3) := by decide +kernel
theorem dX6_wrongBeats_9 : decode cX6_wrongBeats 9 = .ok (.if_icmp .ge 20, 3) := by decide +kernel
theorem dX6_wrongBeats_12 : decode cX6_wrongBeats 12 = .ok (.aload_n 0, 1) := by decide +kernel
theorem dX6_wrongBeats_13 : decode cX6_wrongBeats 13 = .ok (.iload_n 2, 1) := by decide +kernel
theorem dX6_wrongBeats_14 : decode cX6_wrongBeats 14 = .ok (.invokevirtual 65, 3) := by decide +kernel
theorem dX6_wrongBeats_17 : decode cX6_wrongBeats 17 = .ok (.ifCond .eq 6, 3) := by decide +kernel
theorem dX6_wrongBeats_20 : decode cX6_wrongBeats 20 = .ok (.iinc 1 1, 3) := by decide +kernel
theorem dX6_wrongBeats_23 : decode cX6_wrongBeats 23 = .ok (.iinc 2 1, 3) := by decide +kernel
theorem dX6_wrongBeats_26 : decode cX6_wrongBeats 26 = .ok (.goto (-22), 3) := by decide +kernel
theorem dX6_wrongBeats_29 : decode cX6_wrongBeats 29 = .ok (.iload_n 1, 1) := by decide +kernel
theorem dX6_wrongBeats_30 : decode cX6_wrongBeats 30 = .ok (.ireturn, 1) := by decide +kernel
theorem dX6_beatsOn_0 : decode cX6_beatsOn 0 = .ok (.iconst 0, 1) := by decide +kernel
theorem dX6_beatsOn_1 : decode cX6_beatsOn 1 = .ok (.istore_n 2, 1) := by decide +kernel
theorem dX6_beatsOn_2 : decode cX6_beatsOn 2 = .ok (.iconst 0, 1) := by decide +kernel
theorem dX6_beatsOn_3 : decode cX6_beatsOn 3 = .ok (.istore_n 3, 1) := by decide +kernel
theorem dX6_beatsOn_4 : decode cX6_beatsOn 4 = .ok (.iload_n 3, 1) := by decide +kernel
theorem dX6_beatsOn_5 : decode cX6_beatsOn 5 = .ok (.aload_n 0, 1) := by decide +kernel
theorem dX6_beatsOn_6 : decode cX6_beatsOn 6 = .ok (.getfield 9, 3) := by decide +kernel
theorem dX6_beatsOn_9 : decode cX6_beatsOn 9 = .ok (.if_icmp .ge 22, 3) := by decide +kernel
theorem dX6_beatsOn_12 : decode cX6_beatsOn 12 = .ok (.aload_n 0, 1) := by decide +kernel
theorem dX6_beatsOn_13 : decode cX6_beatsOn 13 = .ok (.getfield 25, 3) := by decide +kernel
theorem dX6_beatsOn_16 : decode cX6_beatsOn 16 = .ok (.iload_n 3, 1) := by decide +kernel
theorem dX6_beatsOn_17 : decode cX6_beatsOn 17 = .ok (.iaload, 1) := by decide +kernel
theorem dX6_beatsOn_18 : decode cX6_beatsOn 18 = .ok (.iload_n 1, 1) := by decide +kernel
theorem dX6_beatsOn_19 : decode cX6_beatsOn 19 = .ok (.if_icmp .ne 6, 3) := by decide +kernel
theorem dX6_beatsOn_22 : decode cX6_beatsOn 22 = .ok (.iinc 2 1, 3) := by decide +kernel
theorem dX6_beatsOn_25 : decode cX6_beatsOn 25 = .ok (.iinc 3 1, 3) := by decide +kernel
theorem dX6_beatsOn_28 : decode cX6_beatsOn 28 = .ok (.goto (-24), 3) := by decide +kernel
theorem dX6_beatsOn_31 : decode cX6_beatsOn 31 = .ok (.iload_n 2, 1) := by decide +kernel
theorem dX6_beatsOn_32 : decode cX6_beatsOn 32 = .ok (.ireturn, 1) := by decide +kernel
theorem dX6_longestFlight_0 : decode cX6_longestFlight 0 = .ok (.iconst 0, 1) := by decide +kernel
theorem dX6_longestFlight_1 : decode cX6_longestFlight 1 = .ok (.istore_n 1, 1) := by decide +kernel
theorem dX6_longestFlight_2 : decode cX6_longestFlight 2 = .ok (.iconst 0, 1) := by decide +kernel
theorem dX6_longestFlight_3 : decode cX6_longestFlight 3 = .ok (.istore_n 2, 1) := by decide +kernel
theorem dX6_longestFlight_4 : decode cX6_longestFlight 4 = .ok (.iload_n 2, 1) := by decide +kernel
theorem dX6_longestFlight_5 : decode cX6_longestFlight 5 = .ok (.aload_n 0, 1) := by decide +kernel
theorem dX6_longestFlight_6 : decode cX6_longestFlight 6 = .ok (.getfield 9, 3) := by decide +kernel
theorem dX6_longestFlight_9 : decode cX6_longestFlight 9 = .ok (.if_icmp .ge 20, 3) := by decide +kernel
theorem dX6_longestFlight_12 : decode cX6_longestFlight 12 = .ok (.iload_n 1, 1) := by decide +kernel
theorem dX6_longestFlight_13 : decode cX6_longestFlight 13 = .ok (.aload_n 0, 1) := by decide +kernel
theorem dX6_longestFlight_14 : decode cX6_longestFlight 14 = .ok (.getfield 31, 3) := by decide +kernel
theorem dX6_longestFlight_17 : decode cX6_longestFlight 17 = .ok (.iload_n 2, 1) := by decide +kernel
theorem dX6_longestFlight_18 : decode cX6_longestFlight 18 = .ok (.iaload, 1) := by decide +kernel
theorem dX6_longestFlight_19 : decode cX6_longestFlight 19 = .ok (.invokestatic 68, 3) := by decide +kernel
theorem dX6_longestFlight_22 : decode cX6_longestFlight 22 = .ok (.istore_n 1, 1) := by decide +kernel
theorem dX6_longestFlight_23 : decode cX6_longestFlight 23 = .ok (.iinc 2 1, 3) := by decide +kernel
theorem dX6_longestFlight_26 : decode cX6_longestFlight 26 = .ok (.goto (-22), 3) := by decide +kernel
theorem dX6_longestFlight_29 : decode cX6_longestFlight 29 = .ok (.iload_n 1, 1) := by decide +kernel
theorem dX6_longestFlight_30 : decode cX6_longestFlight 30 = .ok (.ireturn, 1) := by decide +kernel
theorem dX6_flightCount_0 : decode cX6_flightCount 0 = .ok (.iconst 0, 1) := by decide +kernel
theorem dX6_flightCount_1 : decode cX6_flightCount 1 = .ok (.istore_n 1, 1) := by decide +kernel
theorem dX6_flightCount_2 : decode cX6_flightCount 2 = .ok (.iconst 0, 1) := by decide +kernel
theorem dX6_flightCount_3 : decode cX6_flightCount 3 = .ok (.istore_n 2, 1) := by decide +kernel
theorem dX6_flightCount_4 : decode cX6_flightCount 4 = .ok (.iconst 0, 1) := by decide +kernel
theorem dX6_flightCount_5 : decode cX6_flightCount 5 = .ok (.istore_n 3, 1) := by decide +kernel
theorem dX6_flightCount_6 : decode cX6_flightCount 6 = .ok (.iload_n 3, 1) := by decide +kernel
theorem dX6_flightCount_7 : decode cX6_flightCount 7 = .ok (.aload_n 0, 1) := by decide +kernel
theorem dX6_flightCount_8 : decode cX6_flightCount 8 = .ok (.getfield 9, 3) := by decide +kernel
theorem dX6_flightCount_11 : decode cX6_flightCount 11 = .ok (.if_icmp .ge 32, 3) := by decide +kernel
theorem dX6_flightCount_14 : decode cX6_flightCount 14 = .ok (.aload_n 0, 1) := by decide +kernel
theorem dX6_flightCount_15 : decode cX6_flightCount 15 = .ok (.getfield 31, 3) := by decide +kernel
theorem dX6_flightCount_18 : decode cX6_flightCount 18 = .ok (.iload_n 3, 1) := by decide +kernel
theorem dX6_flightCount_19 : decode cX6_flightCount 19 = .ok (.iaload, 1) := by decide +kernel
theorem dX6_flightCount_20 : decode cX6_flightCount 20 = .ok (.ifCond .le 10, 3) := by decide +kernel
theorem dX6_flightCount_23 : decode cX6_flightCount 23 = .ok (.iload_n 2, 1) := by decide +kernel
theorem dX6_flightCount_24 : decode cX6_flightCount 24 = .ok (.ifCond .ne 6, 3) := by decide +kernel
theorem dX6_flightCount_27 : decode cX6_flightCount 27 = .ok (.iinc 1 1, 3) := by decide +kernel
theorem dX6_flightCount_30 : decode cX6_flightCount 30 = .ok (.aload_n 0, 1) := by decide +kernel
theorem dX6_flightCount_31 : decode cX6_flightCount 31 = .ok (.getfield 31, 3) := by decide +kernel
theorem dX6_flightCount_34 : decode cX6_flightCount 34 = .ok (.iload_n 3, 1) := by decide +kernel
theorem dX6_flightCount_35 : decode cX6_flightCount 35 = .ok (.iaload, 1) := by decide +kernel
theorem dX6_flightCount_36 : decode cX6_flightCount 36 = .ok (.istore_n 2, 1) := by decide +kernel
theorem dX6_flightCount_37 : decode cX6_flightCount 37 = .ok (.iinc 3 1, 3) := by decide +kernel
theorem dX6_flightCount_40 : decode cX6_flightCount 40 = .ok (.goto (-34), 3) := by decide +kernel
theorem dX6_flightCount_43 : decode cX6_flightCount 43 = .ok (.iload_n 1, 1) := by decide +kernel
theorem dX6_flightCount_44 : decode cX6_flightCount 44 = .ok (.ireturn, 1) := by decide +kernel
theorem dX6_isAnyLegTold_0 : decode cX6_isAnyLegTold 0 = .ok (.iconst 0, 1) := by decide +kernel
theorem dX6_isAnyLegTold_1 : decode cX6_isAnyLegTold 1 = .ok (.istore_n 1, 1) := by decide +kernel
theorem dX6_isAnyLegTold_2 : decode cX6_isAnyLegTold 2 = .ok (.iload_n 1, 1) := by decide +kernel
theorem dX6_isAnyLegTold_3 : decode cX6_isAnyLegTold 3 = .ok (.aload_n 0, 1) := by decide +kernel
theorem dX6_isAnyLegTold_4 : decode cX6_isAnyLegTold 4 = .ok (.getfield 9, 3) := by decide +kernel
theorem dX6_isAnyLegTold_7 : decode cX6_isAnyLegTold 7 = .ok (.if_icmp .ge 20, 3) := by decide +kernel
theorem dX6_isAnyLegTold_10 : decode cX6_isAnyLegTold 10 = .ok (.aload_n 0, 1) := by decide +kernel
theorem dX6_isAnyLegTold_11 : decode cX6_isAnyLegTold 11 = .ok (.getfield 28, 3) := by decide +kernel
theorem dX6_isAnyLegTold_14 : decode cX6_isAnyLegTold 14 = .ok (.iload_n 1, 1) := by decide +kernel
theorem dX6_isAnyLegTold_15 : decode cX6_isAnyLegTold 15 = .ok (.iaload, 1) := by decide +kernel
theorem dX6_isAnyLegTold_16 : decode cX6_isAnyLegTold 16 = .ok (.ifCond .eq 5, 3) := by decide +kernel
theorem dX6_isAnyLegTold_19 : decode cX6_isAnyLegTold 19 = .ok (.iconst 1, 1) := by decide +kernel
theorem dX6_isAnyLegTold_20 : decode cX6_isAnyLegTold 20 = .ok (.ireturn, 1) := by decide +kernel
theorem dX6_isAnyLegTold_21 : decode cX6_isAnyLegTold 21 = .ok (.iinc 1 1, 3) := by decide +kernel
theorem dX6_isAnyLegTold_24 : decode cX6_isAnyLegTold 24 = .ok (.goto (-22), 3) := by decide +kernel
theorem dX6_isAnyLegTold_27 : decode cX6_isAnyLegTold 27 = .ok (.iconst 0, 1) := by decide +kernel
theorem dX6_isAnyLegTold_28 : decode cX6_isAnyLegTold 28 = .ok (.ireturn, 1) := by decide +kernel
theorem dX7_init_0 : decode cX7_init 0 = .ok (.aload_n 0, 1) := by decide +kernel
theorem dX7_init_1 : decode cX7_init 1 = .ok (.invokespecial 1, 3) := by decide +kernel
theorem dX7_init_4 : decode cX7_init 4 = .ok (.aload_n 0, 1) := by decide +kernel
theorem dX7_init_5 : decode cX7_init 5 = .ok (.new 7, 3) := by decide +kernel
theorem dX7_init_8 : decode cX7_init 8 = .ok (.dup, 1) := by decide +kernel
theorem dX7_init_9 : decode cX7_init 9 = .ok (.invokespecial 9, 3) := by decide +kernel
theorem dX7_init_12 : decode cX7_init 12 = .ok (.putfield 10, 3) := by decide +kernel
theorem dX7_init_15 : decode cX7_init 15 = .ok (.aload_n 0, 1) := by decide +kernel
theorem dX7_init_16 : decode cX7_init 16 = .ok (.new 7, 3) := by decide +kernel
theorem dX7_init_19 : decode cX7_init 19 = .ok (.dup, 1) := by decide +kernel
theorem dX7_init_20 : decode cX7_init 20 = .ok (.invokespecial 9, 3) := by decide +kernel
theorem dX7_init_23 : decode cX7_init 23 = .ok (.putfield 16, 3) := by decide +kernel
theorem dX7_init_26 : decode cX7_init 26 = .ok (.aload_n 0, 1) := by decide +kernel
theorem dX7_init_27 : decode cX7_init 27 = .ok (.new 7, 3) := by decide +kernel
theorem dX7_init_30 : decode cX7_init 30 = .ok (.dup, 1) := by decide +kernel
theorem dX7_init_31 : decode cX7_init 31 = .ok (.invokespecial 9, 3) := by decide +kernel
theorem dX7_init_34 : decode cX7_init 34 = .ok (.putfield 19, 3) := by decide +kernel
theorem dX7_init_37 : decode cX7_init 37 = .ok (.aload_n 0, 1) := by decide +kernel
theorem dX7_init_38 : decode cX7_init 38 = .ok (.new 22, 3) := by decide +kernel
theorem dX7_init_41 : decode cX7_init 41 = .ok (.dup, 1) := by decide +kernel
theorem dX7_init_42 : decode cX7_init 42 = .ok (.invokespecial 24, 3) := by decide +kernel
theorem dX7_init_45 : decode cX7_init 45 = .ok (.putfield 25, 3) := by decide +kernel
theorem dX7_init_48 : decode cX7_init 48 = .ok (.aload_n 0, 1) := by decide +kernel
theorem dX7_init_49 : decode cX7_init 49 = .ok (.new 29, 3) := by decide +kernel
theorem dX7_init_52 : decode cX7_init 52 = .ok (.dup, 1) := by decide +kernel
theorem dX7_init_53 : decode cX7_init 53 = .ok (.invokespecial 31, 3) := by decide +kernel
theorem dX7_init_56 : decode cX7_init 56 = .ok (.putfield 32, 3) := by decide +kernel
theorem dX7_init_59 : decode cX7_init 59 = .ok (.aload_n 0, 1) := by decide +kernel
theorem dX7_init_60 : decode cX7_init 60 = .ok (.new 36, 3) := by decide +kernel
theorem dX7_init_63 : decode cX7_init 63 = .ok (.dup, 1) := by decide +kernel
theorem dX7_init_64 : decode cX7_init 64 = .ok (.invokespecial 38, 3) := by decide +kernel
theorem dX7_init_67 : decode cX7_init 67 = .ok (.putfield 39, 3) := by decide +kernel
theorem dX7_init_70 : decode cX7_init 70 = .ok (.aload_n 0, 1) := by decide +kernel
theorem dX7_init_71 : decode cX7_init 71 = .ok (.new 43, 3) := by decide +kernel
theorem dX7_init_74 : decode cX7_init 74 = .ok (.dup, 1) := by decide +kernel
theorem dX7_init_75 : decode cX7_init 75 = .ok (.invokespecial 45, 3) := by decide +kernel
theorem dX7_init_78 : decode cX7_init 78 = .ok (.putfield 46, 3) := by decide +kernel
theorem dX7_init_81 : decode cX7_init 81 = .ok (.aload_n 0, 1) := by decide +kernel
theorem dX7_init_82 : decode cX7_init 82 = .ok (.new 50, 3) := by decide +kernel
theorem dX7_init_85 : decode cX7_init 85 = .ok (.dup, 1) := by decide +kernel
theorem dX7_init_86 : decode cX7_init 86 = .ok (.invokespecial 52, 3) := by decide +kernel
theorem dX7_init_89 : decode cX7_init 89 = .ok (.putfield 53, 3) := by decide +kernel
theorem dX7_init_92 : decode cX7_init 92 = .ok (.aload_n 0, 1) := by decide +kernel
theorem dX7_init_93 : decode cX7_init 93 = .ok (.bipush 48, 2) := by decide +kernel
theorem dX7_init_95 : decode cX7_init 95 = .ok (.newarray .int, 2) := by decide +kernel
theorem dX7_init_97 : decode cX7_init 97 = .ok (.putfield 57, 3) := by decide +kernel
theorem dX7_init_100 : decode cX7_init 100 = .ok (.return_, 1) := by decide +kernel
theorem dX7_reset_0 : decode cX7_reset 0 = .ok (.iload_n 1, 1) := by decide +kernel
theorem dX7_reset_1 : decode cX7_reset 1 = .ok (.iconst 4, 1) := by decide +kernel
theorem dX7_reset_2 : decode cX7_reset 2 = .ok (.bipush 48, 2) := by decide +kernel
theorem dX7_reset_4 : decode cX7_reset 4 = .ok (.invokestatic 61, 3) := by decide +kernel
theorem dX7_reset_7 : decode cX7_reset 7 = .ok (.ifCond .ne 7, 3) := by decide +kernel
theorem dX7_reset_10 : decode cX7_reset 10 = .ok (.sipush (-1001), 3) := by decide +kernel
theorem dX7_reset_13 : decode cX7_reset 13 = .ok (.ireturn, 1) := by decide +kernel
theorem dX7_reset_14 : decode cX7_reset 14 = .ok (.aload_n 0, 1) := by decide +kernel
theorem dX7_reset_15 : decode cX7_reset 15 = .ok (.getfield 10, 3) := by decide +kernel
theorem dX7_reset_18 : decode cX7_reset 18 = .ok (.getfield 65, 3) := by decide +kernel
theorem dX7_reset_21 : decode cX7_reset 21 = .ok (.istore_n 2, 1) := by decide +kernel
theorem dX7_reset_22 : decode cX7_reset 22 = .ok (.aload_n 0, 1) := by decide +kernel
theorem dX7_reset_23 : decode cX7_reset 23 = .ok (.getfield 25, 3) := by decide +kernel
theorem dX7_reset_26 : decode cX7_reset 26 = .ok (.aload_n 0, 1) := by decide +kernel
theorem dX7_reset_27 : decode cX7_reset 27 = .ok (.getfield 10, 3) := by decide +kernel
theorem dX7_reset_30 : decode cX7_reset 30 = .ok (.invokevirtual 69, 3) := by decide +kernel
theorem dX7_reset_33 : decode cX7_reset 33 = .ok (.aload_n 0, 1) := by decide +kernel
theorem dX7_reset_34 : decode cX7_reset 34 = .ok (.getfield 10, 3) := by decide +kernel
theorem dX7_reset_37 : decode cX7_reset 37 = .ok (.iload_n 1, 1) := by decide +kernel
theorem dX7_reset_38 : decode cX7_reset 38 = .ok (.invokevirtual 73, 3) := by decide +kernel
theorem dX7_reset_41 : decode cX7_reset 41 = .ok (.iload_n 2, 1) := by decide +kernel
theorem dX7_reset_42 : decode cX7_reset 42 = .ok (.ireturn, 1) := by decide +kernel
theorem dX7_addMove_0 : decode cX7_addMove 0 = .ok (.iload_n 1, 1) := by decide +kernel
theorem dX7_addMove_1 : decode cX7_addMove 1 = .ok (.iconst 0, 1) := by decide +kernel
theorem dX7_addMove_2 : decode cX7_addMove 2 = .ok (.iconst 5, 1) := by decide +kernel
theorem dX7_addMove_3 : decode cX7_addMove 3 = .ok (.invokestatic 61, 3) := by decide +kernel
theorem dX7_addMove_6 : decode cX7_addMove 6 = .ok (.ifCond .eq 33, 3) := by decide +kernel
theorem dX7_addMove_9 : decode cX7_addMove 9 = .ok (.aload_n 0, 1) := by decide +kernel
theorem dX7_addMove_10 : decode cX7_addMove 10 = .ok (.iload_n 2, 1) := by decide +kernel
theorem dX7_addMove_11 : decode cX7_addMove 11 = .ok (.iload_n 3, 1) := by decide +kernel
theorem dX7_addMove_12 : decode cX7_addMove 12 = .ok (.invokevirtual 77, 3) := by decide +kernel
theorem dX7_addMove_15 : decode cX7_addMove 15 = .ok (.ifCond .eq 24, 3) := by decide +kernel
theorem dX7_addMove_18 : decode cX7_addMove 18 = .ok (.iload 4, 2) := by decide +kernel
theorem dX7_addMove_20 : decode cX7_addMove 20 = .ok (.iconst 0, 1) := by decide +kernel
theorem dX7_addMove_21 : decode cX7_addMove 21 = .ok (.bipush 8, 2) := by decide +kernel
theorem dX7_addMove_23 : decode cX7_addMove 23 = .ok (.invokestatic 61, 3) := by decide +kernel
theorem dX7_addMove_26 : decode cX7_addMove 26 = .ok (.ifCond .eq 13, 3) := by decide +kernel
theorem dX7_addMove_29 : decode cX7_addMove 29 = .ok (.iload 5, 2) := by decide +kernel
theorem dX7_addMove_31 : decode cX7_addMove 31 = .ok (.iconst 0, 1) := by decide +kernel
theorem dX7_addMove_32 : decode cX7_addMove 32 = .ok (.iconst 2, 1) := by decide +kernel
theorem dX7_addMove_33 : decode cX7_addMove 33 = .ok (.invokestatic 61, 3) := by decide +kernel
theorem dX7_addMove_36 : decode cX7_addMove 36 = .ok (.ifCond .ne 7, 3) := by decide +kernel
theorem dX7_addMove_39 : decode cX7_addMove 39 = .ok (.sipush (-1001), 3) := by decide +kernel
theorem dX7_addMove_42 : decode cX7_addMove 42 = .ok (.ireturn, 1) := by decide +kernel
theorem dX7_addMove_43 : decode cX7_addMove 43 = .ok (.aload_n 0, 1) := by decide +kernel
theorem dX7_addMove_44 : decode cX7_addMove 44 = .ok (.iload_n 1, 1) := by decide +kernel
theorem dX7_addMove_45 : decode cX7_addMove 45 = .ok (.iload_n 2, 1) := by decide +kernel
theorem dX7_addMove_46 : decode cX7_addMove 46 = .ok (.iload_n 3, 1) := by decide +kernel
theorem dX7_addMove_47 : decode cX7_addMove 47 = .ok (.iload 4, 2) := by decide +kernel
theorem dX7_addMove_49 : decode cX7_addMove 49 = .ok (.iload 5, 2) := by decide +kernel
theorem dX7_addMove_51 : decode cX7_addMove 51 = .ok (.invokestatic 81, 3) := by decide +kernel
theorem dX7_addMove_54 : decode cX7_addMove 54 = .ok (.invokevirtual 87, 3) := by decide +kernel
theorem dX7_addMove_57 : decode cX7_addMove 57 = .ok (.ireturn, 1) := by decide +kernel
theorem dX7_addHold_0 : decode cX7_addHold 0 = .ok (.iload_n 1, 1) := by decide +kernel
theorem dX7_addHold_1 : decode cX7_addHold 1 = .ok (.invokestatic 91, 3) := by decide +kernel
theorem dX7_addHold_4 : decode cX7_addHold 4 = .ok (.ifCond .eq 11, 3) := by decide +kernel
theorem dX7_addHold_7 : decode cX7_addHold 7 = .ok (.aload_n 0, 1) := by decide +kernel
theorem dX7_addHold_8 : decode cX7_addHold 8 = .ok (.iload_n 2, 1) := by decide +kernel
theorem dX7_addHold_9 : decode cX7_addHold 9 = .ok (.invokevirtual 95, 3) := by decide +kernel
theorem dX7_addHold_12 : decode cX7_addHold 12 = .ok (.ifCond .ne 7, 3) := by decide +kernel
theorem dX7_addHold_15 : decode cX7_addHold 15 = .ok (.sipush (-1001), 3) := by decide +kernel
theorem dX7_addHold_18 : decode cX7_addHold 18 = .ok (.ireturn, 1) := by decide +kernel
theorem dX7_addHold_19 : decode cX7_addHold 19 = .ok (.aload_n 0, 1) := by decide +kernel
theorem dX7_addHold_20 : decode cX7_addHold 20 = .ok (.iload_n 1, 1) := by decide +kernel
theorem dX7_addHold_21 : decode cX7_addHold 21 = .ok (.iload_n 2, 1) := by decide +kernel
theorem dX7_addHold_22 : decode cX7_addHold 22 = .ok (.invokestatic 98, 3) := by decide +kernel
theorem dX7_addHold_25 : decode cX7_addHold 25 = .ok (.invokevirtual 87, 3) := by decide +kernel
theorem dX7_addHold_28 : decode cX7_addHold 28 = .ok (.ireturn, 1) := by decide +kernel
theorem dX7_addTurn_0 : decode cX7_addTurn 0 = .ok (.aload_n 0, 1) := by decide +kernel
theorem dX7_addTurn_1 : decode cX7_addTurn 1 = .ok (.iload_n 1, 1) := by decide +kernel
theorem dX7_addTurn_2 : decode cX7_addTurn 2 = .ok (.iload_n 2, 1) := by decide +kernel
theorem dX7_addTurn_3 : decode cX7_addTurn 3 = .ok (.invokevirtual 77, 3) := by decide +kernel
theorem dX7_addTurn_6 : decode cX7_addTurn 6 = .ok (.ifCond .eq 18, 3) := by decide +kernel
theorem dX7_addTurn_9 : decode cX7_addTurn 9 = .ok (.iload_n 3, 1) := by decide +kernel
theorem dX7_addTurn_10 : decode cX7_addTurn 10 = .ok (.bipush (-8), 2) := by decide +kernel
theorem dX7_addTurn_12 : decode cX7_addTurn 12 = .ok (.bipush 8, 2) := by decide +kernel
theorem dX7_addTurn_14 : decode cX7_addTurn 14 = .ok (.invokestatic 61, 3) := by decide +kernel
theorem dX7_addTurn_17 : decode cX7_addTurn 17 = .ok (.ifCond .eq 7, 3) := by decide +kernel
theorem dX7_addTurn_20 : decode cX7_addTurn 20 = .ok (.iload_n 3, 1) := by decide +kernel
theorem dX7_addTurn_21 : decode cX7_addTurn 21 = .ok (.ifCond .ne 7, 3) := by decide +kernel
theorem dX7_addTurn_24 : decode cX7_addTurn 24 = .ok (.sipush (-1001), 3) := by decide +kernel
theorem dX7_addTurn_27 : decode cX7_addTurn 27 = .ok (.ireturn, 1) := by decide +kernel
theorem dX7_addTurn_28 : decode cX7_addTurn 28 = .ok (.aload_n 0, 1) := by decide +kernel
theorem dX7_addTurn_29 : decode cX7_addTurn 29 = .ok (.bipush 6, 2) := by decide +kernel
theorem dX7_addTurn_31 : decode cX7_addTurn 31 = .ok (.iload_n 1, 1) := by decide +kernel
theorem dX7_addTurn_32 : decode cX7_addTurn 32 = .ok (.iload_n 2, 1) := by decide +kernel
theorem dX7_addTurn_33 : decode cX7_addTurn 33 = .ok (.iload_n 3, 1) := by decide +kernel
theorem dX7_addTurn_34 : decode cX7_addTurn 34 = .ok (.invokestatic 102, 3) := by decide +kernel
theorem dX7_addTurn_37 : decode cX7_addTurn 37 = .ok (.invokevirtual 87, 3) := by decide +kernel
theorem dX7_addTurn_40 : decode cX7_addTurn 40 = .ok (.ireturn, 1) := by decide +kernel
theorem dX7_addRelease_0 : decode cX7_addRelease 0 = .ok (.iload_n 1, 1) := by decide +kernel
theorem dX7_addRelease_1 : decode cX7_addRelease 1 = .ok (.invokestatic 91, 3) := by decide +kernel
theorem dX7_addRelease_4 : decode cX7_addRelease 4 = .ok (.ifCond .eq 12, 3) := by decide +kernel
theorem dX7_addRelease_7 : decode cX7_addRelease 7 = .ok (.aload_n 0, 1) := by decide +kernel
theorem dX7_addRelease_8 : decode cX7_addRelease 8 = .ok (.iload_n 2, 1) := by decide +kernel
theorem dX7_addRelease_9 : decode cX7_addRelease 9 = .ok (.iload_n 3, 1) := by decide +kernel
theorem dX7_addRelease_10 : decode cX7_addRelease 10 = .ok (.invokevirtual 77, 3) := by decide +kernel
theorem dX7_addRelease_13 : decode cX7_addRelease 13 = .ok (.ifCond .ne 7, 3) := by decide +kernel
theorem dX7_addRelease_16 : decode cX7_addRelease 16 = .ok (.sipush (-1001), 3) := by decide +kernel
theorem dX7_addRelease_19 : decode cX7_addRelease 19 = .ok (.ireturn, 1) := by decide +kernel
theorem dX7_addRelease_20 : decode cX7_addRelease 20 = .ok (.aload_n 0, 1) := by decide +kernel
theorem dX7_addRelease_21 : decode cX7_addRelease 21 = .ok (.iload_n 1, 1) := by decide +kernel
theorem dX7_addRelease_22 : decode cX7_addRelease 22 = .ok (.iload_n 2, 1) := by decide +kernel
theorem dX7_addRelease_23 : decode cX7_addRelease 23 = .ok (.iload_n 3, 1) := by decide +kernel
theorem dX7_addRelease_24 : decode cX7_addRelease 24 = .ok (.invokestatic 106, 3) := by decide +kernel
theorem dX7_addRelease_27 : decode cX7_addRelease 27 = .ok (.invokevirtual 87, 3) := by decide +kernel
theorem dX7_addRelease_30 : decode cX7_addRelease 30 = .ok (.ireturn, 1) := by decide +kernel
theorem dX7_removeSign_0 : decode cX7_removeSign 0 = .ok (.iload_n 1, 1) := by decide +kernel
theorem dX7_removeSign_1 : decode cX7_removeSign 1 = .ok (.iconst 0, 1) := by decide +kernel
theorem dX7_removeSign_2 : decode cX7_removeSign 2 = .ok (.aload_n 0, 1) := by decide +kernel
theorem dX7_removeSign_3 : decode cX7_removeSign 3 = .ok (.getfield 10, 3) := by decide +kernel
theorem dX7_removeSign_6 : decode cX7_removeSign 6 = .ok (.getfield 110, 3) := by decide +kernel
theorem dX7_removeSign_9 : decode cX7_removeSign 9 = .ok (.iconst 1, 1) := by decide +kernel
theorem dX7_removeSign_10 : decode cX7_removeSign 10 = .ok (.isub, 1) := by decide +kernel
theorem dX7_removeSign_11 : decode cX7_removeSign 11 = .ok (.invokestatic 61, 3) := by decide +kernel
theorem dX7_removeSign_14 : decode cX7_removeSign 14 = .ok (.ifCond .ne 7, 3) := by decide +kernel
theorem dX7_removeSign_17 : decode cX7_removeSign 17 = .ok (.sipush (-1001), 3) := by decide +kernel
theorem dX7_removeSign_20 : decode cX7_removeSign 20 = .ok (.ireturn, 1) := by decide +kernel
theorem dX7_removeSign_21 : decode cX7_removeSign 21 = .ok (.aload_n 0, 1) := by decide +kernel
theorem dX7_removeSign_22 : decode cX7_removeSign 22 = .ok (.getfield 25, 3) := by decide +kernel
theorem dX7_removeSign_25 : decode cX7_removeSign 25 = .ok (.aload_n 0, 1) := by decide +kernel
theorem dX7_removeSign_26 : decode cX7_removeSign 26 = .ok (.getfield 10, 3) := by decide +kernel
theorem dX7_removeSign_29 : decode cX7_removeSign 29 = .ok (.invokevirtual 69, 3) := by decide +kernel
theorem dX7_removeSign_32 : decode cX7_removeSign 32 = .ok (.aload_n 0, 1) := by decide +kernel
theorem dX7_removeSign_33 : decode cX7_removeSign 33 = .ok (.getfield 10, 3) := by decide +kernel
theorem dX7_removeSign_36 : decode cX7_removeSign 36 = .ok (.iload_n 1, 1) := by decide +kernel
theorem dX7_removeSign_37 : decode cX7_removeSign 37 = .ok (.invokevirtual 113, 3) := by decide +kernel
theorem dX7_removeSign_40 : decode cX7_removeSign 40 = .ok (.aload_n 0, 1) := by decide +kernel
theorem dX7_removeSign_41 : decode cX7_removeSign 41 = .ok (.getfield 10, 3) := by decide +kernel
theorem dX7_removeSign_44 : decode cX7_removeSign 44 = .ok (.getfield 110, 3) := by decide +kernel
theorem dX7_removeSign_47 : decode cX7_removeSign 47 = .ok (.ireturn, 1) := by decide +kernel
theorem dX7_copyPhrase_0 : decode cX7_copyPhrase 0 = .ok (.aload_n 0, 1) := by decide +kernel
theorem dX7_copyPhrase_1 : decode cX7_copyPhrase 1 = .ok (.iload_n 1, 1) := by decide +kernel
theorem dX7_copyPhrase_2 : decode cX7_copyPhrase 2 = .ok (.iload_n 2, 1) := by decide +kernel
theorem dX7_copyPhrase_3 : decode cX7_copyPhrase 3 = .ok (.invokevirtual 116, 3) := by decide +kernel
theorem dX7_copyPhrase_6 : decode cX7_copyPhrase 6 = .ok (.ifCond .eq 27, 3) := by decide +kernel
theorem dX7_copyPhrase_9 : decode cX7_copyPhrase 9 = .ok (.aload_n 0, 1) := by decide +kernel
theorem dX7_copyPhrase_10 : decode cX7_copyPhrase 10 = .ok (.iload_n 3, 1) := by decide +kernel
theorem dX7_copyPhrase_11 : decode cX7_copyPhrase 11 = .ok (.invokevirtual 95, 3) := by decide +kernel
theorem dX7_copyPhrase_14 : decode cX7_copyPhrase 14 = .ok (.ifCond .eq 19, 3) := by decide +kernel
theorem dX7_copyPhrase_17 : decode cX7_copyPhrase 17 = .ok (.iload 4, 2) := by decide +kernel
theorem dX7_copyPhrase_19 : decode cX7_copyPhrase 19 = .ok (.invokestatic 119, 3) := by decide +kernel
theorem dX7_copyPhrase_22 : decode cX7_copyPhrase 22 = .ok (.ifCond .eq 11, 3) := by decide +kernel
theorem dX7_copyPhrase_25 : decode cX7_copyPhrase 25 = .ok (.iload 5, 2) := by decide +kernel
theorem dX7_copyPhrase_27 : decode cX7_copyPhrase 27 = .ok (.invokestatic 119, 3) := by decide +kernel
theorem dX7_copyPhrase_30 : decode cX7_copyPhrase 30 = .ok (.ifCond .ne 7, 3) := by decide +kernel
theorem dX7_copyPhrase_33 : decode cX7_copyPhrase 33 = .ok (.sipush (-1001), 3) := by decide +kernel
theorem dX7_copyPhrase_36 : decode cX7_copyPhrase 36 = .ok (.ireturn, 1) := by decide +kernel
theorem dX7_copyPhrase_37 : decode cX7_copyPhrase 37 = .ok (.aload_n 0, 1) := by decide +kernel
theorem dX7_copyPhrase_38 : decode cX7_copyPhrase 38 = .ok (.getfield 16, 3) := by decide +kernel
theorem dX7_copyPhrase_41 : decode cX7_copyPhrase 41 = .ok (.aload_n 0, 1) := by decide +kernel
theorem dX7_copyPhrase_42 : decode cX7_copyPhrase 42 = .ok (.getfield 10, 3) := by decide +kernel
theorem dX7_copyPhrase_45 : decode cX7_copyPhrase 45 = .ok (.invokevirtual 122, 3) := by decide +kernel
theorem dX7_copyPhrase_48 : decode cX7_copyPhrase 48 = .ok (.iconst 0, 1) := by decide +kernel
theorem dX7_copyPhrase_49 : decode cX7_copyPhrase 49 = .ok (.istore 6, 2) := by decide +kernel
theorem dX7_copyPhrase_51 : decode cX7_copyPhrase 51 = .ok (.iload 6, 2) := by decide +kernel
theorem dX7_copyPhrase_53 : decode cX7_copyPhrase 53 = .ok (.aload_n 0, 1) := by decide +kernel
theorem dX7_copyPhrase_54 : decode cX7_copyPhrase 54 = .ok (.getfield 10, 3) := by decide +kernel
theorem dX7_copyPhrase_57 : decode cX7_copyPhrase 57 = .ok (.getfield 110, 3) := by decide +kernel
theorem dX7_copyPhrase_60 : decode cX7_copyPhrase 60 = .ok (.if_icmp .ge 81, 3) := by decide +kernel
theorem dX7_copyPhrase_63 : decode cX7_copyPhrase 63 = .ok (.aload_n 0, 1) := by decide +kernel
theorem dX7_copyPhrase_64 : decode cX7_copyPhrase 64 = .ok (.getfield 10, 3) := by decide +kernel
theorem dX7_copyPhrase_67 : decode cX7_copyPhrase 67 = .ok (.iload 6, 2) := by decide +kernel
theorem dX7_copyPhrase_69 : decode cX7_copyPhrase 69 = .ok (.invokevirtual 125, 3) := by decide +kernel
theorem dX7_copyPhrase_72 : decode cX7_copyPhrase 72 = .ok (.istore 7, 2) := by decide +kernel
theorem dX7_copyPhrase_74 : decode cX7_copyPhrase 74 = .ok (.iload 7, 2) := by decide +kernel
theorem dX7_copyPhrase_76 : decode cX7_copyPhrase 76 = .ok (.iload_n 1, 1) := by decide +kernel
theorem dX7_copyPhrase_77 : decode cX7_copyPhrase 77 = .ok (.iload_n 2, 1) := by decide +kernel
theorem dX7_copyPhrase_78 : decode cX7_copyPhrase 78 = .ok (.invokestatic 128, 3) := by decide +kernel
theorem dX7_copyPhrase_81 : decode cX7_copyPhrase 81 = .ok (.ifCond .eq 54, 3) := by decide +kernel
theorem dX7_copyPhrase_84 : decode cX7_copyPhrase 84 = .ok (.iload 5, 2) := by decide +kernel
theorem dX7_copyPhrase_86 : decode cX7_copyPhrase 86 = .ok (.iconst 1, 1) := by decide +kernel
theorem dX7_copyPhrase_87 : decode cX7_copyPhrase 87 = .ok (.if_icmp .ne 15, 3) := by decide +kernel
theorem dX7_copyPhrase_90 : decode cX7_copyPhrase 90 = .ok (.iload_n 3, 1) := by decide +kernel
theorem dX7_copyPhrase_91 : decode cX7_copyPhrase 91 = .ok (.iload_n 2, 1) := by decide +kernel
theorem dX7_copyPhrase_92 : decode cX7_copyPhrase 92 = .ok (.iadd, 1) := by decide +kernel
theorem dX7_copyPhrase_93 : decode cX7_copyPhrase 93 = .ok (.iload 7, 2) := by decide +kernel
theorem dX7_copyPhrase_95 : decode cX7_copyPhrase 95 = .ok (.invokestatic 131, 3) := by decide +kernel
theorem dX7_copyPhrase_98 : decode cX7_copyPhrase 98 = .ok (.isub, 1) := by decide +kernel
theorem dX7_copyPhrase_99 : decode cX7_copyPhrase 99 = .ok (.goto 12, 3) := by decide +kernel
theorem dX7_copyPhrase_102 : decode cX7_copyPhrase 102 = .ok (.iload_n 3, 1) := by decide +kernel
theorem dX7_copyPhrase_103 : decode cX7_copyPhrase 103 = .ok (.iload 7, 2) := by decide +kernel
theorem dX7_copyPhrase_105 : decode cX7_copyPhrase 105 = .ok (.invokestatic 134, 3) := by decide +kernel
theorem dX7_copyPhrase_108 : decode cX7_copyPhrase 108 = .ok (.iadd, 1) := by decide +kernel
theorem dX7_copyPhrase_109 : decode cX7_copyPhrase 109 = .ok (.iload_n 1, 1) := by decide +kernel
theorem dX7_copyPhrase_110 : decode cX7_copyPhrase 110 = .ok (.isub, 1) := by decide +kernel
theorem dX7_copyPhrase_111 : decode cX7_copyPhrase 111 = .ok (.istore 8, 2) := by decide +kernel
theorem dX7_copyPhrase_113 : decode cX7_copyPhrase 113 = .ok (.aload_n 0, 1) := by decide +kernel
theorem dX7_copyPhrase_114 : decode cX7_copyPhrase 114 = .ok (.getfield 16, 3) := by decide +kernel
theorem dX7_copyPhrase_117 : decode cX7_copyPhrase 117 = .ok (.iload 7, 2) := by decide +kernel
theorem dX7_copyPhrase_119 : decode cX7_copyPhrase 119 = .ok (.iload 8, 2) := by decide +kernel
theorem dX7_copyPhrase_121 : decode cX7_copyPhrase 121 = .ok (.invokestatic 137, 3) := by decide +kernel
theorem dX7_copyPhrase_124 : decode cX7_copyPhrase 124 = .ok (.iload 4, 2) := by decide +kernel
theorem dX7_copyPhrase_126 : decode cX7_copyPhrase 126 = .ok (.iload 5, 2) := by decide +kernel
theorem dX7_copyPhrase_128 : decode cX7_copyPhrase 128 = .ok (.invokestatic 140, 3) := by decide +kernel
theorem dX7_copyPhrase_131 : decode cX7_copyPhrase 131 = .ok (.invokevirtual 143, 3) := by decide +kernel
theorem dX7_copyPhrase_134 : decode cX7_copyPhrase 134 = .ok (.pop, 1) := by decide +kernel
theorem dX7_copyPhrase_135 : decode cX7_copyPhrase 135 = .ok (.iinc 6 1, 3) := by decide +kernel
theorem dX7_copyPhrase_138 : decode cX7_copyPhrase 138 = .ok (.goto (-87), 3) := by decide +kernel
theorem dX7_copyPhrase_141 : decode cX7_copyPhrase 141 = .ok (.aload_n 0, 1) := by decide +kernel
theorem dX7_copyPhrase_142 : decode cX7_copyPhrase 142 = .ok (.invokevirtual 146, 3) := by decide +kernel
theorem dX7_copyPhrase_145 : decode cX7_copyPhrase 145 = .ok (.ifCond .ne 7, 3) := by decide +kernel
theorem dX7_copyPhrase_148 : decode cX7_copyPhrase 148 = .ok (.sipush (-1002), 3) := by decide +kernel
theorem dX7_copyPhrase_151 : decode cX7_copyPhrase 151 = .ok (.ireturn, 1) := by decide +kernel
theorem dX7_copyPhrase_152 : decode cX7_copyPhrase 152 = .ok (.aload_n 0, 1) := by decide +kernel
theorem dX7_copyPhrase_153 : decode cX7_copyPhrase 153 = .ok (.getfield 19, 3) := by decide +kernel
theorem dX7_copyPhrase_156 : decode cX7_copyPhrase 156 = .ok (.getfield 110, 3) := by decide +kernel
theorem dX7_copyPhrase_159 : decode cX7_copyPhrase 159 = .ok (.bipush 60, 2) := by decide +kernel
theorem dX7_copyPhrase_161 : decode cX7_copyPhrase 161 = .ok (.if_icmp .le 7, 3) := by decide +kernel
theorem dX7_copyPhrase_164 : decode cX7_copyPhrase 164 = .ok (.sipush (-1003), 3) := by decide +kernel
theorem dX7_copyPhrase_167 : decode cX7_copyPhrase 167 = .ok (.ireturn, 1) := by decide +kernel
theorem dX7_copyPhrase_168 : decode cX7_copyPhrase 168 = .ok (.aload_n 0, 1) := by decide +kernel
theorem dX7_copyPhrase_169 : decode cX7_copyPhrase 169 = .ok (.getfield 25, 3) := by decide +kernel
theorem dX7_copyPhrase_172 : decode cX7_copyPhrase 172 = .ok (.aload_n 0, 1) := by decide +kernel
theorem dX7_copyPhrase_173 : decode cX7_copyPhrase 173 = .ok (.getfield 10, 3) := by decide +kernel
theorem dX7_copyPhrase_176 : decode cX7_copyPhrase 176 = .ok (.invokevirtual 69, 3) := by decide +kernel
theorem dX7_copyPhrase_179 : decode cX7_copyPhrase 179 = .ok (.aload_n 0, 1) := by decide +kernel
theorem dX7_copyPhrase_180 : decode cX7_copyPhrase 180 = .ok (.getfield 10, 3) := by decide +kernel
theorem dX7_copyPhrase_183 : decode cX7_copyPhrase 183 = .ok (.aload_n 0, 1) := by decide +kernel
theorem dX7_copyPhrase_184 : decode cX7_copyPhrase 184 = .ok (.getfield 19, 3) := by decide +kernel
theorem dX7_copyPhrase_187 : decode cX7_copyPhrase 187 = .ok (.invokevirtual 150, 3) := by decide +kernel
theorem dX7_copyPhrase_190 : decode cX7_copyPhrase 190 = .ok (.aload_n 0, 1) := by decide +kernel
theorem dX7_copyPhrase_191 : decode cX7_copyPhrase 191 = .ok (.getfield 16, 3) := by decide +kernel
theorem dX7_copyPhrase_194 : decode cX7_copyPhrase 194 = .ok (.getfield 110, 3) := by decide +kernel
theorem dX7_copyPhrase_197 : decode cX7_copyPhrase 197 = .ok (.ireturn, 1) := by decide +kernel
theorem dX7_setLeap_0 : decode cX7_setLeap 0 = .ok (.iload_n 1, 1) := by decide +kernel
theorem dX7_setLeap_1 : decode cX7_setLeap 1 = .ok (.iconst 0, 1) := by decide +kernel
theorem dX7_setLeap_2 : decode cX7_setLeap 2 = .ok (.bipush 8, 2) := by decide +kernel
theorem dX7_setLeap_4 : decode cX7_setLeap 4 = .ok (.invokestatic 61, 3) := by decide +kernel
theorem dX7_setLeap_7 : decode cX7_setLeap 7 = .ok (.ifCond .ne 7, 3) := by decide +kernel
theorem dX7_setLeap_10 : decode cX7_setLeap 10 = .ok (.sipush (-1001), 3) := by decide +kernel
theorem dX7_setLeap_13 : decode cX7_setLeap 13 = .ok (.ireturn, 1) := by decide +kernel
theorem dX7_setLeap_14 : decode cX7_setLeap 14 = .ok (.aload_n 0, 1) := by decide +kernel
theorem dX7_setLeap_15 : decode cX7_setLeap 15 = .ok (.getfield 10, 3) := by decide +kernel
theorem dX7_setLeap_18 : decode cX7_setLeap 18 = .ok (.getfield 153, 3) := by decide +kernel
theorem dX7_setLeap_21 : decode cX7_setLeap 21 = .ok (.istore_n 2, 1) := by decide +kernel
theorem dX7_setLeap_22 : decode cX7_setLeap 22 = .ok (.aload_n 0, 1) := by decide +kernel
theorem dX7_setLeap_23 : decode cX7_setLeap 23 = .ok (.getfield 25, 3) := by decide +kernel
theorem dX7_setLeap_26 : decode cX7_setLeap 26 = .ok (.aload_n 0, 1) := by decide +kernel
theorem dX7_setLeap_27 : decode cX7_setLeap 27 = .ok (.getfield 10, 3) := by decide +kernel
theorem dX7_setLeap_30 : decode cX7_setLeap 30 = .ok (.invokevirtual 69, 3) := by decide +kernel
theorem dX7_setLeap_33 : decode cX7_setLeap 33 = .ok (.aload_n 0, 1) := by decide +kernel
theorem dX7_setLeap_34 : decode cX7_setLeap 34 = .ok (.getfield 10, 3) := by decide +kernel
theorem dX7_setLeap_37 : decode cX7_setLeap 37 = .ok (.iload_n 1, 1) := by decide +kernel
theorem dX7_setLeap_38 : decode cX7_setLeap 38 = .ok (.putfield 153, 3) := by decide +kernel
theorem dX7_setLeap_41 : decode cX7_setLeap 41 = .ok (.iload_n 2, 1) := by decide +kernel
theorem dX7_setLeap_42 : decode cX7_setLeap 42 = .ok (.ireturn, 1) := by decide +kernel
theorem dX7_lay_0 : decode cX7_lay 0 = .ok (.aload_n 0, 1) := by decide +kernel
theorem dX7_lay_1 : decode cX7_lay 1 = .ok (.getfield 53, 3) := by decide +kernel
theorem dX7_lay_4 : decode cX7_lay 4 = .ok (.aload_n 0, 1) := by decide +kernel
theorem dX7_lay_5 : decode cX7_lay 5 = .ok (.getfield 10, 3) := by decide +kernel
theorem dX7_lay_8 : decode cX7_lay 8 = .ok (.aload_n 0, 1) := by decide +kernel
theorem dX7_lay_9 : decode cX7_lay 9 = .ok (.getfield 19, 3) := by decide +kernel
theorem dX7_lay_12 : decode cX7_lay 12 = .ok (.invokevirtual 156, 3) := by decide +kernel
theorem dX7_lay_15 : decode cX7_lay 15 = .ok (.iconst (-1), 1) := by decide +kernel
theorem dX7_lay_16 : decode cX7_lay 16 = .ok (.if_icmp .eq 7, 3) := by decide +kernel
theorem dX7_lay_19 : decode cX7_lay 19 = .ok (.sipush (-1002), 3) := by decide +kernel
theorem dX7_lay_22 : decode cX7_lay 22 = .ok (.ireturn, 1) := by decide +kernel
theorem dX7_lay_23 : decode cX7_lay 23 = .ok (.aload_n 0, 1) := by decide +kernel
theorem dX7_lay_24 : decode cX7_lay 24 = .ok (.getfield 25, 3) := by decide +kernel
theorem dX7_lay_27 : decode cX7_lay 27 = .ok (.aload_n 0, 1) := by decide +kernel
theorem dX7_lay_28 : decode cX7_lay 28 = .ok (.getfield 10, 3) := by decide +kernel
theorem dX7_lay_31 : decode cX7_lay 31 = .ok (.invokevirtual 69, 3) := by decide +kernel
theorem dX7_lay_34 : decode cX7_lay 34 = .ok (.aload_n 0, 1) := by decide +kernel
theorem dX7_lay_35 : decode cX7_lay 35 = .ok (.getfield 10, 3) := by decide +kernel
theorem dX7_lay_38 : decode cX7_lay 38 = .ok (.aload_n 0, 1) := by decide +kernel
theorem dX7_lay_39 : decode cX7_lay 39 = .ok (.getfield 19, 3) := by decide +kernel
theorem dX7_lay_42 : decode cX7_lay 42 = .ok (.invokevirtual 150, 3) := by decide +kernel
theorem dX7_lay_45 : decode cX7_lay 45 = .ok (.aload_n 0, 1) := by decide +kernel
theorem dX7_lay_46 : decode cX7_lay 46 = .ok (.getfield 10, 3) := by decide +kernel
theorem dX7_lay_49 : decode cX7_lay 49 = .ok (.getfield 110, 3) := by decide +kernel
theorem dX7_lay_52 : decode cX7_lay 52 = .ok (.ireturn, 1) := by decide +kernel
theorem dX7_undo_0 : decode cX7_undo 0 = .ok (.aload_n 0, 1) := by decide +kernel
theorem dX7_undo_1 : decode cX7_undo 1 = .ok (.getfield 25, 3) := by decide +kernel
theorem dX7_undo_4 : decode cX7_undo 4 = .ok (.getfield 160, 3) := by decide +kernel
theorem dX7_undo_7 : decode cX7_undo 7 = .ok (.ifCond .ne 7, 3) := by decide +kernel
theorem dX7_undo_10 : decode cX7_undo 10 = .ok (.sipush (-1002), 3) := by decide +kernel
theorem dX7_undo_13 : decode cX7_undo 13 = .ok (.ireturn, 1) := by decide +kernel
theorem dX7_undo_14 : decode cX7_undo 14 = .ok (.aload_n 0, 1) := by decide +kernel
theorem dX7_undo_15 : decode cX7_undo 15 = .ok (.getfield 25, 3) := by decide +kernel
theorem dX7_undo_18 : decode cX7_undo 18 = .ok (.aload_n 0, 1) := by decide +kernel
theorem dX7_undo_19 : decode cX7_undo 19 = .ok (.getfield 10, 3) := by decide +kernel
theorem dX7_undo_22 : decode cX7_undo 22 = .ok (.invokevirtual 161, 3) := by decide +kernel
theorem dX7_undo_25 : decode cX7_undo 25 = .ok (.aload_n 0, 1) := by decide +kernel
theorem dX7_undo_26 : decode cX7_undo 26 = .ok (.getfield 25, 3) := by decide +kernel
theorem dX7_undo_29 : decode cX7_undo 29 = .ok (.getfield 160, 3) := by decide +kernel
theorem dX7_undo_32 : decode cX7_undo 32 = .ok (.ireturn, 1) := by decide +kernel
theorem dX7_count_0 : decode cX7_count 0 = .ok (.iload_n 1, 1) := by decide +kernel
theorem dX7_count_1 : decode cX7_count 1 = .ok (.tableswitch 75 0 4 #[35, 43, 51, 59, 67], 35) := by decide +kernel
theorem dX7_count_36 : decode cX7_count 36 = .ok (.aload_n 0, 1) := by decide +kernel
theorem dX7_count_37 : decode cX7_count 37 = .ok (.getfield 10, 3) := by decide +kernel
theorem dX7_count_40 : decode cX7_count 40 = .ok (.getfield 65, 3) := by decide +kernel
theorem dX7_count_43 : decode cX7_count 43 = .ok (.ireturn, 1) := by decide +kernel
theorem dX7_count_44 : decode cX7_count 44 = .ok (.aload_n 0, 1) := by decide +kernel
theorem dX7_count_45 : decode cX7_count 45 = .ok (.getfield 10, 3) := by decide +kernel
theorem dX7_count_48 : decode cX7_count 48 = .ok (.getfield 110, 3) := by decide +kernel
theorem dX7_count_51 : decode cX7_count 51 = .ok (.ireturn, 1) := by decide +kernel
theorem dX7_count_52 : decode cX7_count 52 = .ok (.aload_n 0, 1) := by decide +kernel
theorem dX7_count_53 : decode cX7_count 53 = .ok (.getfield 10, 3) := by decide +kernel
theorem dX7_count_56 : decode cX7_count 56 = .ok (.getfield 153, 3) := by decide +kernel
theorem dX7_count_59 : decode cX7_count 59 = .ok (.ireturn, 1) := by decide +kernel
theorem dX7_count_60 : decode cX7_count 60 = .ok (.aload_n 0, 1) := by decide +kernel
theorem dX7_count_61 : decode cX7_count 61 = .ok (.getfield 25, 3) := by decide +kernel
theorem dX7_count_64 : decode cX7_count 64 = .ok (.getfield 160, 3) := by decide +kernel
theorem dX7_count_67 : decode cX7_count 67 = .ok (.ireturn, 1) := by decide +kernel
theorem dX7_count_68 : decode cX7_count 68 = .ok (.aload_n 0, 1) := by decide +kernel
theorem dX7_count_69 : decode cX7_count 69 = .ok (.getfield 53, 3) := by decide +kernel
theorem dX7_count_72 : decode cX7_count 72 = .ok (.getfield 164, 3) := by decide +kernel
theorem dX7_count_75 : decode cX7_count 75 = .ok (.ireturn, 1) := by decide +kernel
theorem dX7_count_76 : decode cX7_count 76 = .ok (.sipush (-1001), 3) := by decide +kernel
theorem dX7_count_79 : decode cX7_count 79 = .ok (.ireturn, 1) := by decide +kernel
theorem dX7_sign_0 : decode cX7_sign 0 = .ok (.iload_n 1, 1) := by decide +kernel
theorem dX7_sign_1 : decode cX7_sign 1 = .ok (.iconst 0, 1) := by decide +kernel
theorem dX7_sign_2 : decode cX7_sign 2 = .ok (.aload_n 0, 1) := by decide +kernel
theorem dX7_sign_3 : decode cX7_sign 3 = .ok (.getfield 10, 3) := by decide +kernel
theorem dX7_sign_6 : decode cX7_sign 6 = .ok (.getfield 110, 3) := by decide +kernel
theorem dX7_sign_9 : decode cX7_sign 9 = .ok (.iconst 1, 1) := by decide +kernel
theorem dX7_sign_10 : decode cX7_sign 10 = .ok (.isub, 1) := by decide +kernel
theorem dX7_sign_11 : decode cX7_sign 11 = .ok (.invokestatic 61, 3) := by decide +kernel
theorem dX7_sign_14 : decode cX7_sign 14 = .ok (.ifCond .ne 7, 3) := by decide +kernel
theorem dX7_sign_17 : decode cX7_sign 17 = .ok (.sipush (-1001), 3) := by decide +kernel
theorem dX7_sign_20 : decode cX7_sign 20 = .ok (.ireturn, 1) := by decide +kernel
theorem dX7_sign_21 : decode cX7_sign 21 = .ok (.aload_n 0, 1) := by decide +kernel
theorem dX7_sign_22 : decode cX7_sign 22 = .ok (.getfield 10, 3) := by decide +kernel
theorem dX7_sign_25 : decode cX7_sign 25 = .ok (.iload_n 1, 1) := by decide +kernel
theorem dX7_sign_26 : decode cX7_sign 26 = .ok (.invokevirtual 125, 3) := by decide +kernel
theorem dX7_sign_29 : decode cX7_sign 29 = .ok (.istore_n 3, 1) := by decide +kernel
theorem dX7_sign_30 : decode cX7_sign 30 = .ok (.iload_n 3, 1) := by decide +kernel
theorem dX7_sign_31 : decode cX7_sign 31 = .ok (.invokestatic 165, 3) := by decide +kernel
theorem dX7_sign_34 : decode cX7_sign 34 = .ok (.istore 4, 2) := by decide +kernel
theorem dX7_sign_36 : decode cX7_sign 36 = .ok (.iload_n 2, 1) := by decide +kernel
theorem dX7_sign_37 : decode cX7_sign 37 = .ok (.tableswitch 114 0 6 #[43, 48, 53, 62, 65, 81, 97], 43) := by decide +kernel
theorem dX7_sign_80 : decode cX7_sign 80 = .ok (.iload_n 3, 1) := by decide +kernel
theorem dX7_sign_81 : decode cX7_sign 81 = .ok (.invokestatic 168, 3) := by decide +kernel
theorem dX7_sign_84 : decode cX7_sign 84 = .ok (.ireturn, 1) := by decide +kernel
theorem dX7_sign_85 : decode cX7_sign 85 = .ok (.iload_n 3, 1) := by decide +kernel
theorem dX7_sign_86 : decode cX7_sign 86 = .ok (.invokestatic 134, 3) := by decide +kernel
theorem dX7_sign_89 : decode cX7_sign 89 = .ok (.ireturn, 1) := by decide +kernel
theorem dX7_sign_90 : decode cX7_sign 90 = .ok (.aload_n 0, 1) := by decide +kernel
theorem dX7_sign_91 : decode cX7_sign 91 = .ok (.getfield 10, 3) := by decide +kernel
theorem dX7_sign_94 : decode cX7_sign 94 = .ok (.iload_n 1, 1) := by decide +kernel
theorem dX7_sign_95 : decode cX7_sign 95 = .ok (.invokevirtual 171, 3) := by decide +kernel
theorem dX7_sign_98 : decode cX7_sign 98 = .ok (.ireturn, 1) := by decide +kernel
theorem dX7_sign_99 : decode cX7_sign 99 = .ok (.iload 4, 2) := by decide +kernel
theorem dX7_sign_101 : decode cX7_sign 101 = .ok (.ireturn, 1) := by decide +kernel
theorem dX7_sign_102 : decode cX7_sign 102 = .ok (.iload 4, 2) := by decide +kernel
theorem dX7_sign_104 : decode cX7_sign 104 = .ok (.ifCond .ne 10, 3) := by decide +kernel
theorem dX7_sign_107 : decode cX7_sign 107 = .ok (.iload_n 3, 1) := by decide +kernel
theorem dX7_sign_108 : decode cX7_sign 108 = .ok (.invokestatic 174, 3) := by decide +kernel
theorem dX7_sign_111 : decode cX7_sign 111 = .ok (.goto 6, 3) := by decide +kernel
theorem dX7_sign_114 : decode cX7_sign 114 = .ok (.sipush (-1004), 3) := by decide +kernel
theorem dX7_sign_117 : decode cX7_sign 117 = .ok (.ireturn, 1) := by decide +kernel
theorem dX7_sign_118 : decode cX7_sign 118 = .ok (.iload 4, 2) := by decide +kernel
theorem dX7_sign_120 : decode cX7_sign 120 = .ok (.ifCond .ne 10, 3) := by decide +kernel
theorem dX7_sign_123 : decode cX7_sign 123 = .ok (.iload_n 3, 1) := by decide +kernel
theorem dX7_sign_124 : decode cX7_sign 124 = .ok (.invokestatic 177, 3) := by decide +kernel
theorem dX7_sign_127 : decode cX7_sign 127 = .ok (.goto 6, 3) := by decide +kernel
theorem dX7_sign_130 : decode cX7_sign 130 = .ok (.sipush (-1004), 3) := by decide +kernel
theorem dX7_sign_133 : decode cX7_sign 133 = .ok (.ireturn, 1) := by decide +kernel
theorem dX7_sign_134 : decode cX7_sign 134 = .ok (.iload 4, 2) := by decide +kernel
theorem dX7_sign_136 : decode cX7_sign 136 = .ok (.iconst 2, 1) := by decide +kernel
theorem dX7_sign_137 : decode cX7_sign 137 = .ok (.if_icmp .ne 10, 3) := by decide +kernel
theorem dX7_sign_140 : decode cX7_sign 140 = .ok (.iload_n 3, 1) := by decide +kernel
theorem dX7_sign_141 : decode cX7_sign 141 = .ok (.invokestatic 180, 3) := by decide +kernel
theorem dX7_sign_144 : decode cX7_sign 144 = .ok (.goto 6, 3) := by decide +kernel
theorem dX7_sign_147 : decode cX7_sign 147 = .ok (.sipush (-1004), 3) := by decide +kernel
theorem dX7_sign_150 : decode cX7_sign 150 = .ok (.ireturn, 1) := by decide +kernel
theorem dX7_sign_151 : decode cX7_sign 151 = .ok (.sipush (-1001), 3) := by decide +kernel
theorem dX7_sign_154 : decode cX7_sign 154 = .ok (.ireturn, 1) := by decide +kernel
theorem dX7_signAt_0 : decode cX7_signAt 0 = .ok (.iload_n 1, 1) := by decide +kernel
theorem dX7_signAt_1 : decode cX7_signAt 1 = .ok (.invokestatic 91, 3) := by decide +kernel
theorem dX7_signAt_4 : decode cX7_signAt 4 = .ok (.ifCond .eq 11, 3) := by decide +kernel
theorem dX7_signAt_7 : decode cX7_signAt 7 = .ok (.aload_n 0, 1) := by decide +kernel
theorem dX7_signAt_8 : decode cX7_signAt 8 = .ok (.iload_n 2, 1) := by decide +kernel
theorem dX7_signAt_9 : decode cX7_signAt 9 = .ok (.invokevirtual 95, 3) := by decide +kernel
theorem dX7_signAt_12 : decode cX7_signAt 12 = .ok (.ifCond .ne 7, 3) := by decide +kernel
theorem dX7_signAt_15 : decode cX7_signAt 15 = .ok (.sipush (-1001), 3) := by decide +kernel
theorem dX7_signAt_18 : decode cX7_signAt 18 = .ok (.ireturn, 1) := by decide +kernel
theorem dX7_signAt_19 : decode cX7_signAt 19 = .ok (.aload_n 0, 1) := by decide +kernel
theorem dX7_signAt_20 : decode cX7_signAt 20 = .ok (.getfield 10, 3) := by decide +kernel
theorem dX7_signAt_23 : decode cX7_signAt 23 = .ok (.iload_n 1, 1) := by decide +kernel
theorem dX7_signAt_24 : decode cX7_signAt 24 = .ok (.iload_n 2, 1) := by decide +kernel
theorem dX7_signAt_25 : decode cX7_signAt 25 = .ok (.invokevirtual 183, 3) := by decide +kernel
theorem dX7_signAt_28 : decode cX7_signAt 28 = .ok (.istore_n 3, 1) := by decide +kernel
theorem dX7_signAt_29 : decode cX7_signAt 29 = .ok (.iload_n 3, 1) := by decide +kernel
theorem dX7_signAt_30 : decode cX7_signAt 30 = .ok (.iconst (-1), 1) := by decide +kernel
theorem dX7_signAt_31 : decode cX7_signAt 31 = .ok (.if_icmp .ne 9, 3) := by decide +kernel
theorem dX7_signAt_34 : decode cX7_signAt 34 = .ok (.sipush (-1004), 3) := by decide +kernel
theorem dX7_signAt_37 : decode cX7_signAt 37 = .ok (.goto 4, 3) := by decide +kernel
theorem dX7_signAt_40 : decode cX7_signAt 40 = .ok (.iload_n 3, 1) := by decide +kernel
theorem dX7_signAt_41 : decode cX7_signAt 41 = .ok (.ireturn, 1) := by decide +kernel
theorem dX7_bears_0 : decode cX7_bears 0 = .ok (.aload_n 0, 1) := by decide +kernel
theorem dX7_bears_1 : decode cX7_bears 1 = .ok (.iload_n 1, 1) := by decide +kernel
theorem dX7_bears_2 : decode cX7_bears 2 = .ok (.invokevirtual 95, 3) := by decide +kernel
theorem dX7_bears_5 : decode cX7_bears 5 = .ok (.ifCond .ne 7, 3) := by decide +kernel
theorem dX7_bears_8 : decode cX7_bears 8 = .ok (.sipush (-1001), 3) := by decide +kernel
theorem dX7_bears_11 : decode cX7_bears 11 = .ok (.ireturn, 1) := by decide +kernel
theorem dX7_bears_12 : decode cX7_bears 12 = .ok (.aload_n 0, 1) := by decide +kernel
theorem dX7_bears_13 : decode cX7_bears 13 = .ok (.getfield 32, 3) := by decide +kernel
theorem dX7_bears_16 : decode cX7_bears 16 = .ok (.aload_n 0, 1) := by decide +kernel
theorem dX7_bears_17 : decode cX7_bears 17 = .ok (.getfield 10, 3) := by decide +kernel
theorem dX7_bears_20 : decode cX7_bears 20 = .ok (.invokevirtual 186, 3) := by decide +kernel
theorem dX7_bears_23 : decode cX7_bears 23 = .ok (.aload_n 0, 1) := by decide +kernel
theorem dX7_bears_24 : decode cX7_bears 24 = .ok (.getfield 32, 3) := by decide +kernel
theorem dX7_bears_27 : decode cX7_bears 27 = .ok (.getfield 189, 3) := by decide +kernel
theorem dX7_bears_30 : decode cX7_bears 30 = .ok (.iload_n 1, 1) := by decide +kernel
theorem dX7_bears_31 : decode cX7_bears 31 = .ok (.iaload, 1) := by decide +kernel
theorem dX7_bears_32 : decode cX7_bears 32 = .ok (.ireturn, 1) := by decide +kernel
theorem dX7_toldTwice_0 : decode cX7_toldTwice 0 = .ok (.aload_n 0, 1) := by decide +kernel
theorem dX7_toldTwice_1 : decode cX7_toldTwice 1 = .ok (.iload_n 1, 1) := by decide +kernel
theorem dX7_toldTwice_2 : decode cX7_toldTwice 2 = .ok (.invokevirtual 95, 3) := by decide +kernel
theorem dX7_toldTwice_5 : decode cX7_toldTwice 5 = .ok (.ifCond .ne 7, 3) := by decide +kernel
theorem dX7_toldTwice_8 : decode cX7_toldTwice 8 = .ok (.sipush (-1001), 3) := by decide +kernel
theorem dX7_toldTwice_11 : decode cX7_toldTwice 11 = .ok (.ireturn, 1) := by decide +kernel
theorem dX7_toldTwice_12 : decode cX7_toldTwice 12 = .ok (.aload_n 0, 1) := by decide +kernel
theorem dX7_toldTwice_13 : decode cX7_toldTwice 13 = .ok (.getfield 32, 3) := by decide +kernel
theorem dX7_toldTwice_16 : decode cX7_toldTwice 16 = .ok (.aload_n 0, 1) := by decide +kernel
theorem dX7_toldTwice_17 : decode cX7_toldTwice 17 = .ok (.getfield 10, 3) := by decide +kernel
theorem dX7_toldTwice_20 : decode cX7_toldTwice 20 = .ok (.invokevirtual 186, 3) := by decide +kernel
theorem dX7_toldTwice_23 : decode cX7_toldTwice 23 = .ok (.aload_n 0, 1) := by decide +kernel
theorem dX7_toldTwice_24 : decode cX7_toldTwice 24 = .ok (.getfield 32, 3) := by decide +kernel
theorem dX7_toldTwice_27 : decode cX7_toldTwice 27 = .ok (.getfield 192, 3) := by decide +kernel
theorem dX7_toldTwice_30 : decode cX7_toldTwice 30 = .ok (.iload_n 1, 1) := by decide +kernel
theorem dX7_toldTwice_31 : decode cX7_toldTwice 31 = .ok (.iaload, 1) := by decide +kernel
theorem dX7_toldTwice_32 : decode cX7_toldTwice 32 = .ok (.ireturn, 1) := by decide +kernel
theorem dX7_isFaulty_0 : decode cX7_isFaulty 0 = .ok (.aload_n 0, 1) := by decide +kernel
theorem dX7_isFaulty_1 : decode cX7_isFaulty 1 = .ok (.iload_n 1, 1) := by decide +kernel
theorem dX7_isFaulty_2 : decode cX7_isFaulty 2 = .ok (.invokevirtual 95, 3) := by decide +kernel
theorem dX7_isFaulty_5 : decode cX7_isFaulty 5 = .ok (.ifCond .ne 7, 3) := by decide +kernel
theorem dX7_isFaulty_8 : decode cX7_isFaulty 8 = .ok (.sipush (-1001), 3) := by decide +kernel
theorem dX7_isFaulty_11 : decode cX7_isFaulty 11 = .ok (.ireturn, 1) := by decide +kernel
theorem dX7_isFaulty_12 : decode cX7_isFaulty 12 = .ok (.aload_n 0, 1) := by decide +kernel
theorem dX7_isFaulty_13 : decode cX7_isFaulty 13 = .ok (.getfield 32, 3) := by decide +kernel
theorem dX7_isFaulty_16 : decode cX7_isFaulty 16 = .ok (.aload_n 0, 1) := by decide +kernel
theorem dX7_isFaulty_17 : decode cX7_isFaulty 17 = .ok (.getfield 10, 3) := by decide +kernel
theorem dX7_isFaulty_20 : decode cX7_isFaulty 20 = .ok (.invokevirtual 186, 3) := by decide +kernel
theorem dX7_isFaulty_23 : decode cX7_isFaulty 23 = .ok (.aload_n 0, 1) := by decide +kernel
theorem dX7_isFaulty_24 : decode cX7_isFaulty 24 = .ok (.getfield 32, 3) := by decide +kernel
theorem dX7_isFaulty_27 : decode cX7_isFaulty 27 = .ok (.iload_n 1, 1) := by decide +kernel
theorem dX7_isFaulty_28 : decode cX7_isFaulty 28 = .ok (.invokevirtual 195, 3) := by decide +kernel
theorem dX7_isFaulty_31 : decode cX7_isFaulty 31 = .ok (.ifCond .eq 7, 3) := by decide +kernel
theorem dX7_isFaulty_34 : decode cX7_isFaulty 34 = .ok (.iconst 1, 1) := by decide +kernel
theorem dX7_isFaulty_35 : decode cX7_isFaulty 35 = .ok (.goto 4, 3) := by decide +kernel
theorem dX7_isFaulty_38 : decode cX7_isFaulty 38 = .ok (.iconst 0, 1) := by decide +kernel
theorem dX7_isFaulty_39 : decode cX7_isFaulty 39 = .ok (.ireturn, 1) := by decide +kernel
theorem dX7_nextFault_0 : decode cX7_nextFault 0 = .ok (.aload_n 0, 1) := by decide +kernel
theorem dX7_nextFault_1 : decode cX7_nextFault 1 = .ok (.iload_n 1, 1) := by decide +kernel
theorem dX7_nextFault_2 : decode cX7_nextFault 2 = .ok (.invokevirtual 95, 3) := by decide +kernel
theorem dX7_nextFault_5 : decode cX7_nextFault 5 = .ok (.ifCond .ne 7, 3) := by decide +kernel
theorem dX7_nextFault_8 : decode cX7_nextFault 8 = .ok (.sipush (-1001), 3) := by decide +kernel
theorem dX7_nextFault_11 : decode cX7_nextFault 11 = .ok (.ireturn, 1) := by decide +kernel
theorem dX7_nextFault_12 : decode cX7_nextFault 12 = .ok (.aload_n 0, 1) := by decide +kernel
theorem dX7_nextFault_13 : decode cX7_nextFault 13 = .ok (.getfield 32, 3) := by decide +kernel
theorem dX7_nextFault_16 : decode cX7_nextFault 16 = .ok (.aload_n 0, 1) := by decide +kernel
theorem dX7_nextFault_17 : decode cX7_nextFault 17 = .ok (.getfield 10, 3) := by decide +kernel
theorem dX7_nextFault_20 : decode cX7_nextFault 20 = .ok (.invokevirtual 186, 3) := by decide +kernel
theorem dX7_nextFault_23 : decode cX7_nextFault 23 = .ok (.iload_n 1, 1) := by decide +kernel
theorem dX7_nextFault_24 : decode cX7_nextFault 24 = .ok (.istore_n 2, 1) := by decide +kernel
theorem dX7_nextFault_25 : decode cX7_nextFault 25 = .ok (.iload_n 2, 1) := by decide +kernel
theorem dX7_nextFault_26 : decode cX7_nextFault 26 = .ok (.aload_n 0, 1) := by decide +kernel
theorem dX7_nextFault_27 : decode cX7_nextFault 27 = .ok (.getfield 10, 3) := by decide +kernel
theorem dX7_nextFault_30 : decode cX7_nextFault 30 = .ok (.getfield 65, 3) := by decide +kernel
theorem dX7_nextFault_33 : decode cX7_nextFault 33 = .ok (.if_icmp .ge 22, 3) := by decide +kernel
theorem dX7_nextFault_36 : decode cX7_nextFault 36 = .ok (.aload_n 0, 1) := by decide +kernel
theorem dX7_nextFault_37 : decode cX7_nextFault 37 = .ok (.getfield 32, 3) := by decide +kernel
theorem dX7_nextFault_40 : decode cX7_nextFault 40 = .ok (.iload_n 2, 1) := by decide +kernel
theorem dX7_nextFault_41 : decode cX7_nextFault 41 = .ok (.invokevirtual 195, 3) := by decide +kernel
theorem dX7_nextFault_44 : decode cX7_nextFault 44 = .ok (.ifCond .eq 5, 3) := by decide +kernel
theorem dX7_nextFault_47 : decode cX7_nextFault 47 = .ok (.iload_n 2, 1) := by decide +kernel
theorem dX7_nextFault_48 : decode cX7_nextFault 48 = .ok (.ireturn, 1) := by decide +kernel
theorem dX7_nextFault_49 : decode cX7_nextFault 49 = .ok (.iinc 2 1, 3) := by decide +kernel
theorem dX7_nextFault_52 : decode cX7_nextFault 52 = .ok (.goto (-27), 3) := by decide +kernel
theorem dX7_nextFault_55 : decode cX7_nextFault 55 = .ok (.sipush (-1004), 3) := by decide +kernel
theorem dX7_nextFault_58 : decode cX7_nextFault 58 = .ok (.ireturn, 1) := by decide +kernel
theorem dX7_beats_0 : decode cX7_beats 0 = .ok (.iload_n 1, 1) := by decide +kernel
theorem dX7_beats_1 : decode cX7_beats 1 = .ok (.iconst 0, 1) := by decide +kernel
theorem dX7_beats_2 : decode cX7_beats 2 = .ok (.bipush 6, 2) := by decide +kernel
theorem dX7_beats_4 : decode cX7_beats 4 = .ok (.invokestatic 61, 3) := by decide +kernel
theorem dX7_beats_7 : decode cX7_beats 7 = .ok (.ifCond .ne 7, 3) := by decide +kernel
theorem dX7_beats_10 : decode cX7_beats 10 = .ok (.sipush (-1001), 3) := by decide +kernel
theorem dX7_beats_13 : decode cX7_beats 13 = .ok (.ireturn, 1) := by decide +kernel
theorem dX7_beats_14 : decode cX7_beats 14 = .ok (.aload_n 0, 1) := by decide +kernel
theorem dX7_beats_15 : decode cX7_beats 15 = .ok (.getfield 32, 3) := by decide +kernel
theorem dX7_beats_18 : decode cX7_beats 18 = .ok (.aload_n 0, 1) := by decide +kernel
theorem dX7_beats_19 : decode cX7_beats 19 = .ok (.getfield 10, 3) := by decide +kernel
theorem dX7_beats_22 : decode cX7_beats 22 = .ok (.invokevirtual 186, 3) := by decide +kernel
theorem dX7_beats_25 : decode cX7_beats 25 = .ok (.iload_n 1, 1) := by decide +kernel
theorem dX7_beats_26 : decode cX7_beats 26 = .ok (.lookupswitch 58 #[(0, 34), (5, 42), (6, 50)], 34) := by decide +kernel
theorem dX7_beats_60 : decode cX7_beats 60 = .ok (.aload_n 0, 1) := by decide +kernel
theorem dX7_beats_61 : decode cX7_beats 61 = .ok (.getfield 32, 3) := by decide +kernel
theorem dX7_beats_64 : decode cX7_beats 64 = .ok (.invokevirtual 198, 3) := by decide +kernel
theorem dX7_beats_67 : decode cX7_beats 67 = .ok (.ireturn, 1) := by decide +kernel
theorem dX7_beats_68 : decode cX7_beats 68 = .ok (.aload_n 0, 1) := by decide +kernel
theorem dX7_beats_69 : decode cX7_beats 69 = .ok (.getfield 32, 3) := by decide +kernel
theorem dX7_beats_72 : decode cX7_beats 72 = .ok (.invokevirtual 202, 3) := by decide +kernel
theorem dX7_beats_75 : decode cX7_beats 75 = .ok (.ireturn, 1) := by decide +kernel
theorem dX7_beats_76 : decode cX7_beats 76 = .ok (.aload_n 0, 1) := by decide +kernel
theorem dX7_beats_77 : decode cX7_beats 77 = .ok (.getfield 32, 3) := by decide +kernel
theorem dX7_beats_80 : decode cX7_beats 80 = .ok (.invokevirtual 205, 3) := by decide +kernel
theorem dX7_beats_83 : decode cX7_beats 83 = .ok (.ireturn, 1) := by decide +kernel
theorem dX7_beats_84 : decode cX7_beats 84 = .ok (.aload_n 0, 1) := by decide +kernel
theorem dX7_beats_85 : decode cX7_beats 85 = .ok (.getfield 32, 3) := by decide +kernel
theorem dX7_beats_88 : decode cX7_beats 88 = .ok (.iload_n 1, 1) := by decide +kernel
theorem dX7_beats_89 : decode cX7_beats 89 = .ok (.iconst 1, 1) := by decide +kernel
theorem dX7_beats_90 : decode cX7_beats 90 = .ok (.isub, 1) := by decide +kernel
theorem dX7_beats_91 : decode cX7_beats 91 = .ok (.invokevirtual 208, 3) := by decide +kernel
theorem dX7_beats_94 : decode cX7_beats 94 = .ok (.ireturn, 1) := by decide +kernel
theorem dX7_leastLeap_0 : decode cX7_leastLeap 0 = .ok (.aload_n 0, 1) := by decide +kernel
theorem dX7_leastLeap_1 : decode cX7_leastLeap 1 = .ok (.getfield 32, 3) := by decide +kernel
theorem dX7_leastLeap_4 : decode cX7_leastLeap 4 = .ok (.aload_n 0, 1) := by decide +kernel
theorem dX7_leastLeap_5 : decode cX7_leastLeap 5 = .ok (.getfield 10, 3) := by decide +kernel
theorem dX7_leastLeap_8 : decode cX7_leastLeap 8 = .ok (.invokevirtual 186, 3) := by decide +kernel
theorem dX7_leastLeap_11 : decode cX7_leastLeap 11 = .ok (.aload_n 0, 1) := by decide +kernel
theorem dX7_leastLeap_12 : decode cX7_leastLeap 12 = .ok (.getfield 32, 3) := by decide +kernel
theorem dX7_leastLeap_15 : decode cX7_leastLeap 15 = .ok (.invokevirtual 211, 3) := by decide +kernel
theorem dX7_leastLeap_18 : decode cX7_leastLeap 18 = .ok (.ifCond .eq 9, 3) := by decide +kernel
theorem dX7_leastLeap_21 : decode cX7_leastLeap 21 = .ok (.sipush (-1004), 3) := by decide +kernel
theorem dX7_leastLeap_24 : decode cX7_leastLeap 24 = .ok (.goto 10, 3) := by decide +kernel
theorem dX7_leastLeap_27 : decode cX7_leastLeap 27 = .ok (.aload_n 0, 1) := by decide +kernel
theorem dX7_leastLeap_28 : decode cX7_leastLeap 28 = .ok (.getfield 32, 3) := by decide +kernel
theorem dX7_leastLeap_31 : decode cX7_leastLeap 31 = .ok (.invokevirtual 202, 3) := by decide +kernel
theorem dX7_leastLeap_34 : decode cX7_leastLeap 34 = .ok (.ireturn, 1) := by decide +kernel
theorem dX7_covered_0 : decode cX7_covered 0 = .ok (.iload_n 1, 1) := by decide +kernel
theorem dX7_covered_1 : decode cX7_covered 1 = .ok (.invokestatic 91, 3) := by decide +kernel
theorem dX7_covered_4 : decode cX7_covered 4 = .ok (.ifCond .eq 12, 3) := by decide +kernel
theorem dX7_covered_7 : decode cX7_covered 7 = .ok (.iload_n 2, 1) := by decide +kernel
theorem dX7_covered_8 : decode cX7_covered 8 = .ok (.iconst (-1), 1) := by decide +kernel
theorem dX7_covered_9 : decode cX7_covered 9 = .ok (.iconst 3, 1) := by decide +kernel
theorem dX7_covered_10 : decode cX7_covered 10 = .ok (.invokestatic 61, 3) := by decide +kernel
theorem dX7_covered_13 : decode cX7_covered 13 = .ok (.ifCond .ne 7, 3) := by decide +kernel
theorem dX7_covered_16 : decode cX7_covered 16 = .ok (.sipush (-1001), 3) := by decide +kernel
theorem dX7_covered_19 : decode cX7_covered 19 = .ok (.ireturn, 1) := by decide +kernel
theorem dX7_covered_20 : decode cX7_covered 20 = .ok (.aload_n 0, 1) := by decide +kernel
theorem dX7_covered_21 : decode cX7_covered 21 = .ok (.getfield 10, 3) := by decide +kernel
theorem dX7_covered_24 : decode cX7_covered 24 = .ok (.iload_n 1, 1) := by decide +kernel
theorem dX7_covered_25 : decode cX7_covered 25 = .ok (.aload_n 0, 1) := by decide +kernel
theorem dX7_covered_26 : decode cX7_covered 26 = .ok (.getfield 57, 3) := by decide +kernel
theorem dX7_covered_29 : decode cX7_covered 29 = .ok (.invokevirtual 214, 3) := by decide +kernel
theorem dX7_covered_32 : decode cX7_covered 32 = .ok (.iconst 0, 1) := by decide +kernel
theorem dX7_covered_33 : decode cX7_covered 33 = .ok (.istore_n 3, 1) := by decide +kernel
theorem dX7_covered_34 : decode cX7_covered 34 = .ok (.iconst 0, 1) := by decide +kernel
theorem dX7_covered_35 : decode cX7_covered 35 = .ok (.istore 4, 2) := by decide +kernel
theorem dX7_covered_37 : decode cX7_covered 37 = .ok (.iload 4, 2) := by decide +kernel
theorem dX7_covered_39 : decode cX7_covered 39 = .ok (.aload_n 0, 1) := by decide +kernel
theorem dX7_covered_40 : decode cX7_covered 40 = .ok (.getfield 10, 3) := by decide +kernel
theorem dX7_covered_43 : decode cX7_covered 43 = .ok (.getfield 65, 3) := by decide +kernel
theorem dX7_covered_46 : decode cX7_covered 46 = .ok (.if_icmp .ge 41, 3) := by decide +kernel
theorem dX7_covered_49 : decode cX7_covered 49 = .ok (.aload_n 0, 1) := by decide +kernel
theorem dX7_covered_50 : decode cX7_covered 50 = .ok (.getfield 57, 3) := by decide +kernel
theorem dX7_covered_53 : decode cX7_covered 53 = .ok (.iload 4, 2) := by decide +kernel
theorem dX7_covered_55 : decode cX7_covered 55 = .ok (.iaload, 1) := by decide +kernel
theorem dX7_covered_56 : decode cX7_covered 56 = .ok (.istore 5, 2) := by decide +kernel
theorem dX7_covered_58 : decode cX7_covered 58 = .ok (.iload 5, 2) := by decide +kernel
theorem dX7_covered_60 : decode cX7_covered 60 = .ok (.iconst (-1), 1) := by decide +kernel
theorem dX7_covered_61 : decode cX7_covered 61 = .ok (.if_icmp .eq 20, 3) := by decide +kernel
theorem dX7_covered_64 : decode cX7_covered 64 = .ok (.iload_n 2, 1) := by decide +kernel
theorem dX7_covered_65 : decode cX7_covered 65 = .ok (.iconst (-1), 1) := by decide +kernel
theorem dX7_covered_66 : decode cX7_covered 66 = .ok (.if_icmp .eq 12, 3) := by decide +kernel
theorem dX7_covered_69 : decode cX7_covered 69 = .ok (.iload 5, 2) := by decide +kernel
theorem dX7_covered_71 : decode cX7_covered 71 = .ok (.invokestatic 165, 3) := by decide +kernel
theorem dX7_covered_74 : decode cX7_covered 74 = .ok (.iload_n 2, 1) := by decide +kernel
theorem dX7_covered_75 : decode cX7_covered 75 = .ok (.if_icmp .ne 6, 3) := by decide +kernel
theorem dX7_covered_78 : decode cX7_covered 78 = .ok (.iinc 3 1, 3) := by decide +kernel
theorem dX7_covered_81 : decode cX7_covered 81 = .ok (.iinc 4 1, 3) := by decide +kernel
theorem dX7_covered_84 : decode cX7_covered 84 = .ok (.goto (-47), 3) := by decide +kernel
theorem dX7_covered_87 : decode cX7_covered 87 = .ok (.iload_n 3, 1) := by decide +kernel
theorem dX7_covered_88 : decode cX7_covered 88 = .ok (.ireturn, 1) := by decide +kernel
theorem dX7_floor_0 : decode cX7_floor 0 = .ok (.iload_n 1, 1) := by decide +kernel
theorem dX7_floor_1 : decode cX7_floor 1 = .ok (.iconst 0, 1) := by decide +kernel
theorem dX7_floor_2 : decode cX7_floor 2 = .ok (.aload_n 0, 1) := by decide +kernel
theorem dX7_floor_3 : decode cX7_floor 3 = .ok (.getfield 10, 3) := by decide +kernel
theorem dX7_floor_6 : decode cX7_floor 6 = .ok (.getfield 65, 3) := by decide +kernel
theorem dX7_floor_9 : decode cX7_floor 9 = .ok (.invokestatic 61, 3) := by decide +kernel
theorem dX7_floor_12 : decode cX7_floor 12 = .ok (.ifCond .eq 12, 3) := by decide +kernel
theorem dX7_floor_15 : decode cX7_floor 15 = .ok (.iload_n 2, 1) := by decide +kernel
theorem dX7_floor_16 : decode cX7_floor 16 = .ok (.iconst 0, 1) := by decide +kernel
theorem dX7_floor_17 : decode cX7_floor 17 = .ok (.iconst 2, 1) := by decide +kernel
theorem dX7_floor_18 : decode cX7_floor 18 = .ok (.invokestatic 61, 3) := by decide +kernel
theorem dX7_floor_21 : decode cX7_floor 21 = .ok (.ifCond .ne 7, 3) := by decide +kernel
theorem dX7_floor_24 : decode cX7_floor 24 = .ok (.sipush (-1001), 3) := by decide +kernel
theorem dX7_floor_27 : decode cX7_floor 27 = .ok (.ireturn, 1) := by decide +kernel
theorem dX7_floor_28 : decode cX7_floor 28 = .ok (.aload_n 0, 1) := by decide +kernel
theorem dX7_floor_29 : decode cX7_floor 29 = .ok (.getfield 39, 3) := by decide +kernel
theorem dX7_floor_32 : decode cX7_floor 32 = .ok (.aload_n 0, 1) := by decide +kernel
theorem dX7_floor_33 : decode cX7_floor 33 = .ok (.getfield 10, 3) := by decide +kernel
theorem dX7_floor_36 : decode cX7_floor 36 = .ok (.invokevirtual 218, 3) := by decide +kernel
theorem dX7_floor_39 : decode cX7_floor 39 = .ok (.iload_n 2, 1) := by decide +kernel
theorem dX7_floor_40 : decode cX7_floor 40 = .ok (.iconst 2, 1) := by decide +kernel
theorem dX7_floor_41 : decode cX7_floor 41 = .ok (.if_icmp .ne 13, 3) := by decide +kernel
theorem dX7_floor_44 : decode cX7_floor 44 = .ok (.aload_n 0, 1) := by decide +kernel
theorem dX7_floor_45 : decode cX7_floor 45 = .ok (.getfield 39, 3) := by decide +kernel
theorem dX7_floor_48 : decode cX7_floor 48 = .ok (.getfield 221, 3) := by decide +kernel
theorem dX7_floor_51 : decode cX7_floor 51 = .ok (.iload_n 1, 1) := by decide +kernel
theorem dX7_floor_52 : decode cX7_floor 52 = .ok (.iaload, 1) := by decide +kernel
theorem dX7_floor_53 : decode cX7_floor 53 = .ok (.ireturn, 1) := by decide +kernel
theorem dX7_floor_54 : decode cX7_floor 54 = .ok (.iload_n 2, 1) := by decide +kernel
theorem dX7_floor_55 : decode cX7_floor 55 = .ok (.ifCond .ne 15, 3) := by decide +kernel
theorem dX7_floor_58 : decode cX7_floor 58 = .ok (.aload_n 0, 1) := by decide +kernel
theorem dX7_floor_59 : decode cX7_floor 59 = .ok (.getfield 39, 3) := by decide +kernel
theorem dX7_floor_62 : decode cX7_floor 62 = .ok (.getfield 224, 3) := by decide +kernel
theorem dX7_floor_65 : decode cX7_floor 65 = .ok (.iload_n 1, 1) := by decide +kernel
theorem dX7_floor_66 : decode cX7_floor 66 = .ok (.iaload, 1) := by decide +kernel
theorem dX7_floor_67 : decode cX7_floor 67 = .ok (.goto 12, 3) := by decide +kernel
theorem dX7_floor_70 : decode cX7_floor 70 = .ok (.aload_n 0, 1) := by decide +kernel
theorem dX7_floor_71 : decode cX7_floor 71 = .ok (.getfield 39, 3) := by decide +kernel
theorem dX7_floor_74 : decode cX7_floor 74 = .ok (.getfield 227, 3) := by decide +kernel
theorem dX7_floor_77 : decode cX7_floor 77 = .ok (.iload_n 1, 1) := by decide +kernel
theorem dX7_floor_78 : decode cX7_floor 78 = .ok (.iaload, 1) := by decide +kernel
theorem dX7_floor_79 : decode cX7_floor 79 = .ok (.ireturn, 1) := by decide +kernel
theorem dX7_home_0 : decode cX7_home 0 = .ok (.aload_n 0, 1) := by decide +kernel
theorem dX7_home_1 : decode cX7_home 1 = .ok (.getfield 39, 3) := by decide +kernel
theorem dX7_home_4 : decode cX7_home 4 = .ok (.aload_n 0, 1) := by decide +kernel
theorem dX7_home_5 : decode cX7_home 5 = .ok (.getfield 10, 3) := by decide +kernel
theorem dX7_home_8 : decode cX7_home 8 = .ok (.invokevirtual 218, 3) := by decide +kernel
theorem dX7_home_11 : decode cX7_home 11 = .ok (.iconst 0, 1) := by decide +kernel
theorem dX7_home_12 : decode cX7_home 12 = .ok (.istore_n 1, 1) := by decide +kernel
theorem dX7_home_13 : decode cX7_home 13 = .ok (.iconst 1, 1) := by decide +kernel
theorem dX7_home_14 : decode cX7_home 14 = .ok (.istore_n 2, 1) := by decide +kernel
theorem dX7_home_15 : decode cX7_home 15 = .ok (.iload_n 2, 1) := by decide +kernel
theorem dX7_home_16 : decode cX7_home 16 = .ok (.aload_n 0, 1) := by decide +kernel
theorem dX7_home_17 : decode cX7_home 17 = .ok (.getfield 10, 3) := by decide +kernel
theorem dX7_home_20 : decode cX7_home 20 = .ok (.getfield 65, 3) := by decide +kernel
theorem dX7_home_23 : decode cX7_home 23 = .ok (.if_icmp .gt 31, 3) := by decide +kernel
theorem dX7_home_26 : decode cX7_home 26 = .ok (.aload_n 0, 1) := by decide +kernel
theorem dX7_home_27 : decode cX7_home 27 = .ok (.getfield 39, 3) := by decide +kernel
theorem dX7_home_30 : decode cX7_home 30 = .ok (.iload_n 2, 1) := by decide +kernel
theorem dX7_home_31 : decode cX7_home 31 = .ok (.invokevirtual 230, 3) := by decide +kernel
theorem dX7_home_34 : decode cX7_home 34 = .ok (.ifCond .eq 8, 3) := by decide +kernel
theorem dX7_home_37 : decode cX7_home 37 = .ok (.iconst 1, 1) := by decide +kernel
theorem dX7_home_38 : decode cX7_home 38 = .ok (.istore_n 1, 1) := by decide +kernel
theorem dX7_home_39 : decode cX7_home 39 = .ok (.goto 9, 3) := by decide +kernel
theorem dX7_home_42 : decode cX7_home 42 = .ok (.iload_n 1, 1) := by decide +kernel
theorem dX7_home_43 : decode cX7_home 43 = .ok (.ifCond .eq 5, 3) := by decide +kernel
theorem dX7_home_46 : decode cX7_home 46 = .ok (.iload_n 2, 1) := by decide +kernel
theorem dX7_home_47 : decode cX7_home 47 = .ok (.ireturn, 1) := by decide +kernel
theorem dX7_home_48 : decode cX7_home 48 = .ok (.iinc 2 1, 3) := by decide +kernel
theorem dX7_home_51 : decode cX7_home 51 = .ok (.goto (-36), 3) := by decide +kernel
theorem dX7_home_54 : decode cX7_home 54 = .ok (.sipush (-1004), 3) := by decide +kernel
theorem dX7_home_57 : decode cX7_home 57 = .ok (.ireturn, 1) := by decide +kernel
theorem dX7_farthest_0 : decode cX7_farthest 0 = .ok (.aload_n 0, 1) := by decide +kernel
theorem dX7_farthest_1 : decode cX7_farthest 1 = .ok (.getfield 39, 3) := by decide +kernel
theorem dX7_farthest_4 : decode cX7_farthest 4 = .ok (.aload_n 0, 1) := by decide +kernel
theorem dX7_farthest_5 : decode cX7_farthest 5 = .ok (.getfield 10, 3) := by decide +kernel
theorem dX7_farthest_8 : decode cX7_farthest 8 = .ok (.invokevirtual 218, 3) := by decide +kernel
theorem dX7_farthest_11 : decode cX7_farthest 11 = .ok (.iconst 0, 1) := by decide +kernel
theorem dX7_farthest_12 : decode cX7_farthest 12 = .ok (.istore_n 1, 1) := by decide +kernel
theorem dX7_farthest_13 : decode cX7_farthest 13 = .ok (.iconst 0, 1) := by decide +kernel
theorem dX7_farthest_14 : decode cX7_farthest 14 = .ok (.istore_n 2, 1) := by decide +kernel
theorem dX7_farthest_15 : decode cX7_farthest 15 = .ok (.iload_n 2, 1) := by decide +kernel
theorem dX7_farthest_16 : decode cX7_farthest 16 = .ok (.aload_n 0, 1) := by decide +kernel
theorem dX7_farthest_17 : decode cX7_farthest 17 = .ok (.getfield 10, 3) := by decide +kernel
theorem dX7_farthest_20 : decode cX7_farthest 20 = .ok (.getfield 65, 3) := by decide +kernel
theorem dX7_farthest_23 : decode cX7_farthest 23 = .ok (.if_icmp .gt 22, 3) := by decide +kernel
theorem dX7_farthest_26 : decode cX7_farthest 26 = .ok (.iload_n 1, 1) := by decide +kernel
theorem dX7_farthest_27 : decode cX7_farthest 27 = .ok (.aload_n 0, 1) := by decide +kernel
theorem dX7_farthest_28 : decode cX7_farthest 28 = .ok (.getfield 39, 3) := by decide +kernel
theorem dX7_farthest_31 : decode cX7_farthest 31 = .ok (.iload_n 2, 1) := by decide +kernel
theorem dX7_farthest_32 : decode cX7_farthest 32 = .ok (.invokevirtual 230, 3) := by decide +kernel
theorem dX7_farthest_35 : decode cX7_farthest 35 = .ok (.invokestatic 233, 3) := by decide +kernel
theorem dX7_farthest_38 : decode cX7_farthest 38 = .ok (.istore_n 1, 1) := by decide +kernel
theorem dX7_farthest_39 : decode cX7_farthest 39 = .ok (.iinc 2 1, 3) := by decide +kernel
theorem dX7_farthest_42 : decode cX7_farthest 42 = .ok (.goto (-27), 3) := by decide +kernel
theorem dX7_farthest_45 : decode cX7_farthest 45 = .ok (.iload_n 1, 1) := by decide +kernel
theorem dX7_farthest_46 : decode cX7_farthest 46 = .ok (.ireturn, 1) := by decide +kernel
theorem dX7_alike_0 : decode cX7_alike 0 = .ok (.aload_n 0, 1) := by decide +kernel
theorem dX7_alike_1 : decode cX7_alike 1 = .ok (.iload_n 1, 1) := by decide +kernel
theorem dX7_alike_2 : decode cX7_alike 2 = .ok (.iload_n 2, 1) := by decide +kernel
theorem dX7_alike_3 : decode cX7_alike 3 = .ok (.invokevirtual 116, 3) := by decide +kernel
theorem dX7_alike_6 : decode cX7_alike 6 = .ok (.ifCond .eq 30, 3) := by decide +kernel
theorem dX7_alike_9 : decode cX7_alike 9 = .ok (.iload_n 3, 1) := by decide +kernel
theorem dX7_alike_10 : decode cX7_alike 10 = .ok (.iconst 0, 1) := by decide +kernel
theorem dX7_alike_11 : decode cX7_alike 11 = .ok (.aload_n 0, 1) := by decide +kernel
theorem dX7_alike_12 : decode cX7_alike 12 = .ok (.getfield 10, 3) := by decide +kernel
theorem dX7_alike_15 : decode cX7_alike 15 = .ok (.getfield 65, 3) := by decide +kernel
theorem dX7_alike_18 : decode cX7_alike 18 = .ok (.iload_n 2, 1) := by decide +kernel
theorem dX7_alike_19 : decode cX7_alike 19 = .ok (.iload_n 1, 1) := by decide +kernel
theorem dX7_alike_20 : decode cX7_alike 20 = .ok (.isub, 1) := by decide +kernel
theorem dX7_alike_21 : decode cX7_alike 21 = .ok (.isub, 1) := by decide +kernel
theorem dX7_alike_22 : decode cX7_alike 22 = .ok (.invokestatic 61, 3) := by decide +kernel
theorem dX7_alike_25 : decode cX7_alike 25 = .ok (.ifCond .eq 11, 3) := by decide +kernel
theorem dX7_alike_28 : decode cX7_alike 28 = .ok (.iload 4, 2) := by decide +kernel
theorem dX7_alike_30 : decode cX7_alike 30 = .ok (.invokestatic 119, 3) := by decide +kernel
theorem dX7_alike_33 : decode cX7_alike 33 = .ok (.ifCond .ne 7, 3) := by decide +kernel
theorem dX7_alike_36 : decode cX7_alike 36 = .ok (.sipush (-1001), 3) := by decide +kernel
theorem dX7_alike_39 : decode cX7_alike 39 = .ok (.ireturn, 1) := by decide +kernel
theorem dX7_alike_40 : decode cX7_alike 40 = .ok (.aload_n 0, 1) := by decide +kernel
theorem dX7_alike_41 : decode cX7_alike 41 = .ok (.getfield 46, 3) := by decide +kernel
theorem dX7_alike_44 : decode cX7_alike 44 = .ok (.invokevirtual 238, 3) := by decide +kernel
theorem dX7_alike_47 : decode cX7_alike 47 = .ok (.iconst 0, 1) := by decide +kernel
theorem dX7_alike_48 : decode cX7_alike 48 = .ok (.istore 5, 2) := by decide +kernel
theorem dX7_alike_50 : decode cX7_alike 50 = .ok (.iload 5, 2) := by decide +kernel
theorem dX7_alike_52 : decode cX7_alike 52 = .ok (.bipush 7, 2) := by decide +kernel
theorem dX7_alike_54 : decode cX7_alike 54 = .ok (.if_icmp .ge 35, 3) := by decide +kernel
theorem dX7_alike_57 : decode cX7_alike 57 = .ok (.aload_n 0, 1) := by decide +kernel
theorem dX7_alike_58 : decode cX7_alike 58 = .ok (.getfield 46, 3) := by decide +kernel
theorem dX7_alike_61 : decode cX7_alike 61 = .ok (.aload_n 0, 1) := by decide +kernel
theorem dX7_alike_62 : decode cX7_alike 62 = .ok (.getfield 10, 3) := by decide +kernel
theorem dX7_alike_65 : decode cX7_alike 65 = .ok (.iload 5, 2) := by decide +kernel
theorem dX7_alike_67 : decode cX7_alike 67 = .ok (.iload_n 1, 1) := by decide +kernel
theorem dX7_alike_68 : decode cX7_alike 68 = .ok (.iload_n 3, 1) := by decide +kernel
theorem dX7_alike_69 : decode cX7_alike 69 = .ok (.iload 4, 2) := by decide +kernel
theorem dX7_alike_71 : decode cX7_alike 71 = .ok (.iconst 1, 1) := by decide +kernel
theorem dX7_alike_72 : decode cX7_alike 72 = .ok (.if_icmp .ne 7, 3) := by decide +kernel
theorem dX7_alike_75 : decode cX7_alike 75 = .ok (.iconst 1, 1) := by decide +kernel
theorem dX7_alike_76 : decode cX7_alike 76 = .ok (.goto 4, 3) := by decide +kernel
theorem dX7_alike_79 : decode cX7_alike 79 = .ok (.iconst 0, 1) := by decide +kernel
theorem dX7_alike_80 : decode cX7_alike 80 = .ok (.invokevirtual 241, 3) := by decide +kernel
theorem dX7_alike_83 : decode cX7_alike 83 = .ok (.iinc 5 1, 3) := by decide +kernel
theorem dX7_alike_86 : decode cX7_alike 86 = .ok (.goto (-36), 3) := by decide +kernel
theorem dX7_alike_89 : decode cX7_alike 89 = .ok (.aload_n 0, 1) := by decide +kernel
theorem dX7_alike_90 : decode cX7_alike 90 = .ok (.getfield 46, 3) := by decide +kernel
theorem dX7_alike_93 : decode cX7_alike 93 = .ok (.iload_n 2, 1) := by decide +kernel
theorem dX7_alike_94 : decode cX7_alike 94 = .ok (.iload_n 1, 1) := by decide +kernel
theorem dX7_alike_95 : decode cX7_alike 95 = .ok (.isub, 1) := by decide +kernel
theorem dX7_alike_96 : decode cX7_alike 96 = .ok (.invokevirtual 245, 3) := by decide +kernel
theorem dX7_alike_99 : decode cX7_alike 99 = .ok (.ireturn, 1) := by decide +kernel
theorem dX7_type_0 : decode cX7_type 0 = .ok (.iload_n 1, 1) := by decide +kernel
theorem dX7_type_1 : decode cX7_type 1 = .ok (.bipush 32, 2) := by decide +kernel
theorem dX7_type_3 : decode cX7_type 3 = .ok (.bipush 126, 2) := by decide +kernel
theorem dX7_type_5 : decode cX7_type 5 = .ok (.invokestatic 61, 3) := by decide +kernel
theorem dX7_type_8 : decode cX7_type 8 = .ok (.ifCond .ne 7, 3) := by decide +kernel
theorem dX7_type_11 : decode cX7_type 11 = .ok (.sipush (-1001), 3) := by decide +kernel
theorem dX7_type_14 : decode cX7_type 14 = .ok (.ireturn, 1) := by decide +kernel
theorem dX7_type_15 : decode cX7_type 15 = .ok (.aload_n 0, 1) := by decide +kernel
theorem dX7_type_16 : decode cX7_type 16 = .ok (.getfield 53, 3) := by decide +kernel
theorem dX7_type_19 : decode cX7_type 19 = .ok (.getfield 164, 3) := by decide +kernel
theorem dX7_type_22 : decode cX7_type 22 = .ok (.bipush 120, 2) := by decide +kernel
theorem dX7_type_24 : decode cX7_type 24 = .ok (.if_icmp .lt 7, 3) := by decide +kernel
theorem dX7_type_27 : decode cX7_type 27 = .ok (.sipush (-1003), 3) := by decide +kernel
theorem dX7_type_30 : decode cX7_type 30 = .ok (.ireturn, 1) := by decide +kernel
theorem dX7_type_31 : decode cX7_type 31 = .ok (.aload_n 0, 1) := by decide +kernel
theorem dX7_type_32 : decode cX7_type 32 = .ok (.getfield 53, 3) := by decide +kernel
theorem dX7_type_35 : decode cX7_type 35 = .ok (.iload_n 1, 1) := by decide +kernel
theorem dX7_type_36 : decode cX7_type 36 = .ok (.invokevirtual 248, 3) := by decide +kernel
theorem dX7_type_39 : decode cX7_type 39 = .ok (.aload_n 0, 1) := by decide +kernel
theorem dX7_type_40 : decode cX7_type 40 = .ok (.getfield 53, 3) := by decide +kernel
theorem dX7_type_43 : decode cX7_type 43 = .ok (.getfield 164, 3) := by decide +kernel
theorem dX7_type_46 : decode cX7_type 46 = .ok (.ireturn, 1) := by decide +kernel
theorem dX7_clearText_0 : decode cX7_clearText 0 = .ok (.aload_n 0, 1) := by decide +kernel
theorem dX7_clearText_1 : decode cX7_clearText 1 = .ok (.getfield 53, 3) := by decide +kernel
theorem dX7_clearText_4 : decode cX7_clearText 4 = .ok (.getfield 164, 3) := by decide +kernel
theorem dX7_clearText_7 : decode cX7_clearText 7 = .ok (.istore_n 1, 1) := by decide +kernel
theorem dX7_clearText_8 : decode cX7_clearText 8 = .ok (.aload_n 0, 1) := by decide +kernel
theorem dX7_clearText_9 : decode cX7_clearText 9 = .ok (.getfield 53, 3) := by decide +kernel
theorem dX7_clearText_12 : decode cX7_clearText 12 = .ok (.iconst 0, 1) := by decide +kernel
theorem dX7_clearText_13 : decode cX7_clearText 13 = .ok (.putfield 164, 3) := by decide +kernel
theorem dX7_clearText_16 : decode cX7_clearText 16 = .ok (.iload_n 1, 1) := by decide +kernel
theorem dX7_clearText_17 : decode cX7_clearText 17 = .ok (.ireturn, 1) := by decide +kernel
theorem dX7_fault_0 : decode cX7_fault 0 = .ok (.aload_n 0, 1) := by decide +kernel
theorem dX7_fault_1 : decode cX7_fault 1 = .ok (.getfield 53, 3) := by decide +kernel
theorem dX7_fault_4 : decode cX7_fault 4 = .ok (.aload_n 0, 1) := by decide +kernel
theorem dX7_fault_5 : decode cX7_fault 5 = .ok (.getfield 10, 3) := by decide +kernel
theorem dX7_fault_8 : decode cX7_fault 8 = .ok (.aload_n 0, 1) := by decide +kernel
theorem dX7_fault_9 : decode cX7_fault 9 = .ok (.getfield 19, 3) := by decide +kernel
theorem dX7_fault_12 : decode cX7_fault 12 = .ok (.invokevirtual 156, 3) := by decide +kernel
theorem dX7_fault_15 : decode cX7_fault 15 = .ok (.istore_n 1, 1) := by decide +kernel
theorem dX7_fault_16 : decode cX7_fault 16 = .ok (.iload_n 1, 1) := by decide +kernel
theorem dX7_fault_17 : decode cX7_fault 17 = .ok (.iconst (-1), 1) := by decide +kernel
theorem dX7_fault_18 : decode cX7_fault 18 = .ok (.if_icmp .ne 9, 3) := by decide +kernel
theorem dX7_fault_21 : decode cX7_fault 21 = .ok (.sipush (-1004), 3) := by decide +kernel
theorem dX7_fault_24 : decode cX7_fault 24 = .ok (.goto 4, 3) := by decide +kernel
theorem dX7_fault_27 : decode cX7_fault 27 = .ok (.iload_n 1, 1) := by decide +kernel
theorem dX7_fault_28 : decode cX7_fault 28 = .ok (.ireturn, 1) := by decide +kernel
theorem dX7_isWithin_0 : decode cX7_isWithin 0 = .ok (.iload_n 0, 1) := by decide +kernel
theorem dX7_isWithin_1 : decode cX7_isWithin 1 = .ok (.iload_n 1, 1) := by decide +kernel
theorem dX7_isWithin_2 : decode cX7_isWithin 2 = .ok (.if_icmp .lt 12, 3) := by decide +kernel
theorem dX7_isWithin_5 : decode cX7_isWithin 5 = .ok (.iload_n 0, 1) := by decide +kernel
theorem dX7_isWithin_6 : decode cX7_isWithin 6 = .ok (.iload_n 2, 1) := by decide +kernel
theorem dX7_isWithin_7 : decode cX7_isWithin 7 = .ok (.if_icmp .gt 7, 3) := by decide +kernel
theorem dX7_isWithin_10 : decode cX7_isWithin 10 = .ok (.iconst 1, 1) := by decide +kernel
theorem dX7_isWithin_11 : decode cX7_isWithin 11 = .ok (.goto 4, 3) := by decide +kernel
theorem dX7_isWithin_14 : decode cX7_isWithin 14 = .ok (.iconst 0, 1) := by decide +kernel
theorem dX7_isWithin_15 : decode cX7_isWithin 15 = .ok (.ireturn, 1) := by decide +kernel
theorem dX7_isFlag_0 : decode cX7_isFlag 0 = .ok (.iload_n 0, 1) := by decide +kernel
theorem dX7_isFlag_1 : decode cX7_isFlag 1 = .ok (.iconst 0, 1) := by decide +kernel
theorem dX7_isFlag_2 : decode cX7_isFlag 2 = .ok (.iconst 1, 1) := by decide +kernel
theorem dX7_isFlag_3 : decode cX7_isFlag 3 = .ok (.invokestatic 61, 3) := by decide +kernel
theorem dX7_isFlag_6 : decode cX7_isFlag 6 = .ok (.ireturn, 1) := by decide +kernel
theorem dX7_isColumn_0 : decode cX7_isColumn 0 = .ok (.iload_n 0, 1) := by decide +kernel
theorem dX7_isColumn_1 : decode cX7_isColumn 1 = .ok (.iconst 0, 1) := by decide +kernel
theorem dX7_isColumn_2 : decode cX7_isColumn 2 = .ok (.bipush 6, 2) := by decide +kernel
theorem dX7_isColumn_4 : decode cX7_isColumn 4 = .ok (.invokestatic 61, 3) := by decide +kernel
theorem dX7_isColumn_7 : decode cX7_isColumn 7 = .ok (.ireturn, 1) := by decide +kernel
theorem dX7_isBeat_0 : decode cX7_isBeat 0 = .ok (.iload_n 1, 1) := by decide +kernel
theorem dX7_isBeat_1 : decode cX7_isBeat 1 = .ok (.iconst 0, 1) := by decide +kernel
theorem dX7_isBeat_2 : decode cX7_isBeat 2 = .ok (.aload_n 0, 1) := by decide +kernel
theorem dX7_isBeat_3 : decode cX7_isBeat 3 = .ok (.getfield 10, 3) := by decide +kernel
theorem dX7_isBeat_6 : decode cX7_isBeat 6 = .ok (.getfield 65, 3) := by decide +kernel
theorem dX7_isBeat_9 : decode cX7_isBeat 9 = .ok (.iconst 1, 1) := by decide +kernel
theorem dX7_isBeat_10 : decode cX7_isBeat 10 = .ok (.isub, 1) := by decide +kernel
theorem dX7_isBeat_11 : decode cX7_isBeat 11 = .ok (.invokestatic 61, 3) := by decide +kernel
theorem dX7_isBeat_14 : decode cX7_isBeat 14 = .ok (.ireturn, 1) := by decide +kernel
theorem dX7_isSpan_0 : decode cX7_isSpan 0 = .ok (.aload_n 0, 1) := by decide +kernel
theorem dX7_isSpan_1 : decode cX7_isSpan 1 = .ok (.iload_n 1, 1) := by decide +kernel
theorem dX7_isSpan_2 : decode cX7_isSpan 2 = .ok (.invokevirtual 95, 3) := by decide +kernel
theorem dX7_isSpan_5 : decode cX7_isSpan 5 = .ok (.ifCond .eq 24, 3) := by decide +kernel
theorem dX7_isSpan_8 : decode cX7_isSpan 8 = .ok (.iload_n 2, 1) := by decide +kernel
theorem dX7_isSpan_9 : decode cX7_isSpan 9 = .ok (.iconst 1, 1) := by decide +kernel
theorem dX7_isSpan_10 : decode cX7_isSpan 10 = .ok (.aload_n 0, 1) := by decide +kernel
theorem dX7_isSpan_11 : decode cX7_isSpan 11 = .ok (.getfield 10, 3) := by decide +kernel
theorem dX7_isSpan_14 : decode cX7_isSpan 14 = .ok (.getfield 65, 3) := by decide +kernel
theorem dX7_isSpan_17 : decode cX7_isSpan 17 = .ok (.iload_n 1, 1) := by decide +kernel
theorem dX7_isSpan_18 : decode cX7_isSpan 18 = .ok (.isub, 1) := by decide +kernel
theorem dX7_isSpan_19 : decode cX7_isSpan 19 = .ok (.invokestatic 61, 3) := by decide +kernel
theorem dX7_isSpan_22 : decode cX7_isSpan 22 = .ok (.ifCond .eq 7, 3) := by decide +kernel
theorem dX7_isSpan_25 : decode cX7_isSpan 25 = .ok (.iconst 1, 1) := by decide +kernel
theorem dX7_isSpan_26 : decode cX7_isSpan 26 = .ok (.goto 4, 3) := by decide +kernel
theorem dX7_isSpan_29 : decode cX7_isSpan 29 = .ok (.iconst 0, 1) := by decide +kernel
theorem dX7_isSpan_30 : decode cX7_isSpan 30 = .ok (.ireturn, 1) := by decide +kernel
theorem dX7_isPhrase_0 : decode cX7_isPhrase 0 = .ok (.aload_n 0, 1) := by decide +kernel
theorem dX7_isPhrase_1 : decode cX7_isPhrase 1 = .ok (.iload_n 1, 1) := by decide +kernel
theorem dX7_isPhrase_2 : decode cX7_isPhrase 2 = .ok (.invokevirtual 95, 3) := by decide +kernel
theorem dX7_isPhrase_5 : decode cX7_isPhrase 5 = .ok (.ifCond .eq 24, 3) := by decide +kernel
theorem dX7_isPhrase_8 : decode cX7_isPhrase 8 = .ok (.iload_n 2, 1) := by decide +kernel
theorem dX7_isPhrase_9 : decode cX7_isPhrase 9 = .ok (.iload_n 1, 1) := by decide +kernel
theorem dX7_isPhrase_10 : decode cX7_isPhrase 10 = .ok (.iconst 1, 1) := by decide +kernel
theorem dX7_isPhrase_11 : decode cX7_isPhrase 11 = .ok (.iadd, 1) := by decide +kernel
theorem dX7_isPhrase_12 : decode cX7_isPhrase 12 = .ok (.aload_n 0, 1) := by decide +kernel
theorem dX7_isPhrase_13 : decode cX7_isPhrase 13 = .ok (.getfield 10, 3) := by decide +kernel
theorem dX7_isPhrase_16 : decode cX7_isPhrase 16 = .ok (.getfield 65, 3) := by decide +kernel
theorem dX7_isPhrase_19 : decode cX7_isPhrase 19 = .ok (.invokestatic 61, 3) := by decide +kernel
theorem dX7_isPhrase_22 : decode cX7_isPhrase 22 = .ok (.ifCond .eq 7, 3) := by decide +kernel
theorem dX7_isPhrase_25 : decode cX7_isPhrase 25 = .ok (.iconst 1, 1) := by decide +kernel
theorem dX7_isPhrase_26 : decode cX7_isPhrase 26 = .ok (.goto 4, 3) := by decide +kernel
theorem dX7_isPhrase_29 : decode cX7_isPhrase 29 = .ok (.iconst 0, 1) := by decide +kernel
theorem dX7_isPhrase_30 : decode cX7_isPhrase 30 = .ok (.ireturn, 1) := by decide +kernel
theorem dX7_addSign_0 : decode cX7_addSign 0 = .ok (.aload_n 0, 1) := by decide +kernel
theorem dX7_addSign_1 : decode cX7_addSign 1 = .ok (.getfield 10, 3) := by decide +kernel
theorem dX7_addSign_4 : decode cX7_addSign 4 = .ok (.iload_n 1, 1) := by decide +kernel
theorem dX7_addSign_5 : decode cX7_addSign 5 = .ok (.invokevirtual 251, 3) := by decide +kernel
theorem dX7_addSign_8 : decode cX7_addSign 8 = .ok (.ifCond .ne 7, 3) := by decide +kernel
theorem dX7_addSign_11 : decode cX7_addSign 11 = .ok (.sipush (-1002), 3) := by decide +kernel
theorem dX7_addSign_14 : decode cX7_addSign 14 = .ok (.ireturn, 1) := by decide +kernel
theorem dX7_addSign_15 : decode cX7_addSign 15 = .ok (.aload_n 0, 1) := by decide +kernel
theorem dX7_addSign_16 : decode cX7_addSign 16 = .ok (.getfield 10, 3) := by decide +kernel
theorem dX7_addSign_19 : decode cX7_addSign 19 = .ok (.getfield 110, 3) := by decide +kernel
theorem dX7_addSign_22 : decode cX7_addSign 22 = .ok (.bipush 60, 2) := by decide +kernel
theorem dX7_addSign_24 : decode cX7_addSign 24 = .ok (.if_icmp .lt 7, 3) := by decide +kernel
theorem dX7_addSign_27 : decode cX7_addSign 27 = .ok (.sipush (-1003), 3) := by decide +kernel
theorem dX7_addSign_30 : decode cX7_addSign 30 = .ok (.ireturn, 1) := by decide +kernel
theorem dX7_addSign_31 : decode cX7_addSign 31 = .ok (.aload_n 0, 1) := by decide +kernel
theorem dX7_addSign_32 : decode cX7_addSign 32 = .ok (.getfield 25, 3) := by decide +kernel
theorem dX7_addSign_35 : decode cX7_addSign 35 = .ok (.aload_n 0, 1) := by decide +kernel
theorem dX7_addSign_36 : decode cX7_addSign 36 = .ok (.getfield 10, 3) := by decide +kernel
theorem dX7_addSign_39 : decode cX7_addSign 39 = .ok (.invokevirtual 69, 3) := by decide +kernel
theorem dX7_addSign_42 : decode cX7_addSign 42 = .ok (.aload_n 0, 1) := by decide +kernel
theorem dX7_addSign_43 : decode cX7_addSign 43 = .ok (.getfield 10, 3) := by decide +kernel
theorem dX7_addSign_46 : decode cX7_addSign 46 = .ok (.iload_n 1, 1) := by decide +kernel
theorem dX7_addSign_47 : decode cX7_addSign 47 = .ok (.invokevirtual 143, 3) := by decide +kernel
theorem dX7_addSign_50 : decode cX7_addSign 50 = .ok (.ireturn, 1) := by decide +kernel
theorem dX7_isInPhrase_0 : decode cX7_isInPhrase 0 = .ok (.iload_n 0, 1) := by decide +kernel
theorem dX7_isInPhrase_1 : decode cX7_isInPhrase 1 = .ok (.invokestatic 134, 3) := by decide +kernel
theorem dX7_isInPhrase_4 : decode cX7_isInPhrase 4 = .ok (.iload_n 1, 1) := by decide +kernel
theorem dX7_isInPhrase_5 : decode cX7_isInPhrase 5 = .ok (.if_icmp .lt 15, 3) := by decide +kernel
theorem dX7_isInPhrase_8 : decode cX7_isInPhrase 8 = .ok (.iload_n 0, 1) := by decide +kernel
theorem dX7_isInPhrase_9 : decode cX7_isInPhrase 9 = .ok (.invokestatic 131, 3) := by decide +kernel
theorem dX7_isInPhrase_12 : decode cX7_isInPhrase 12 = .ok (.iload_n 2, 1) := by decide +kernel
theorem dX7_isInPhrase_13 : decode cX7_isInPhrase 13 = .ok (.if_icmp .gt 7, 3) := by decide +kernel
theorem dX7_isInPhrase_16 : decode cX7_isInPhrase 16 = .ok (.iconst 1, 1) := by decide +kernel
theorem dX7_isInPhrase_17 : decode cX7_isInPhrase 17 = .ok (.goto 4, 3) := by decide +kernel
theorem dX7_isInPhrase_20 : decode cX7_isInPhrase 20 = .ok (.iconst 0, 1) := by decide +kernel
theorem dX7_isInPhrase_21 : decode cX7_isInPhrase 21 = .ok (.ireturn, 1) := by decide +kernel
theorem dX7_copyOf_0 : decode cX7_copyOf 0 = .ok (.iload_n 1, 1) := by decide +kernel
theorem dX7_copyOf_1 : decode cX7_copyOf 1 = .ok (.iconst 1, 1) := by decide +kernel
theorem dX7_copyOf_2 : decode cX7_copyOf 2 = .ok (.if_icmp .ne 10, 3) := by decide +kernel
theorem dX7_copyOf_5 : decode cX7_copyOf 5 = .ok (.iload_n 0, 1) := by decide +kernel
theorem dX7_copyOf_6 : decode cX7_copyOf 6 = .ok (.invokestatic 254, 3) := by decide +kernel
theorem dX7_copyOf_9 : decode cX7_copyOf 9 = .ok (.goto 4, 3) := by decide +kernel
theorem dX7_copyOf_12 : decode cX7_copyOf 12 = .ok (.iload_n 0, 1) := by decide +kernel
theorem dX7_copyOf_13 : decode cX7_copyOf 13 = .ok (.istore_n 3, 1) := by decide +kernel
theorem dX7_copyOf_14 : decode cX7_copyOf 14 = .ok (.iload_n 2, 1) := by decide +kernel
theorem dX7_copyOf_15 : decode cX7_copyOf 15 = .ok (.iconst 1, 1) := by decide +kernel
theorem dX7_copyOf_16 : decode cX7_copyOf 16 = .ok (.if_icmp .ne 10, 3) := by decide +kernel
theorem dX7_copyOf_19 : decode cX7_copyOf 19 = .ok (.iload_n 3, 1) := by decide +kernel
theorem dX7_copyOf_20 : decode cX7_copyOf 20 = .ok (.invokestatic 257, 3) := by decide +kernel
theorem dX7_copyOf_23 : decode cX7_copyOf 23 = .ok (.goto 4, 3) := by decide +kernel
theorem dX7_copyOf_26 : decode cX7_copyOf 26 = .ok (.iload_n 3, 1) := by decide +kernel
theorem dX7_copyOf_27 : decode cX7_copyOf 27 = .ok (.ireturn, 1) := by decide +kernel
theorem dX7_canTryPhrase_0 : decode cX7_canTryPhrase 0 = .ok (.aload_n 0, 1) := by decide +kernel
theorem dX7_canTryPhrase_1 : decode cX7_canTryPhrase 1 = .ok (.getfield 19, 3) := by decide +kernel
theorem dX7_canTryPhrase_4 : decode cX7_canTryPhrase 4 = .ok (.aload_n 0, 1) := by decide +kernel
theorem dX7_canTryPhrase_5 : decode cX7_canTryPhrase 5 = .ok (.getfield 10, 3) := by decide +kernel
theorem dX7_canTryPhrase_8 : decode cX7_canTryPhrase 8 = .ok (.invokevirtual 150, 3) := by decide +kernel
theorem dX7_canTryPhrase_11 : decode cX7_canTryPhrase 11 = .ok (.iconst 0, 1) := by decide +kernel
theorem dX7_canTryPhrase_12 : decode cX7_canTryPhrase 12 = .ok (.istore_n 1, 1) := by decide +kernel
theorem dX7_canTryPhrase_13 : decode cX7_canTryPhrase 13 = .ok (.iload_n 1, 1) := by decide +kernel
theorem dX7_canTryPhrase_14 : decode cX7_canTryPhrase 14 = .ok (.aload_n 0, 1) := by decide +kernel
theorem dX7_canTryPhrase_15 : decode cX7_canTryPhrase 15 = .ok (.getfield 16, 3) := by decide +kernel
theorem dX7_canTryPhrase_18 : decode cX7_canTryPhrase 18 = .ok (.getfield 110, 3) := by decide +kernel
theorem dX7_canTryPhrase_21 : decode cX7_canTryPhrase 21 = .ok (.if_icmp .ge 40, 3) := by decide +kernel
theorem dX7_canTryPhrase_24 : decode cX7_canTryPhrase 24 = .ok (.aload_n 0, 1) := by decide +kernel
theorem dX7_canTryPhrase_25 : decode cX7_canTryPhrase 25 = .ok (.getfield 16, 3) := by decide +kernel
theorem dX7_canTryPhrase_28 : decode cX7_canTryPhrase 28 = .ok (.iload_n 1, 1) := by decide +kernel
theorem dX7_canTryPhrase_29 : decode cX7_canTryPhrase 29 = .ok (.invokevirtual 125, 3) := by decide +kernel
theorem dX7_canTryPhrase_32 : decode cX7_canTryPhrase 32 = .ok (.istore_n 2, 1) := by decide +kernel
theorem dX7_canTryPhrase_33 : decode cX7_canTryPhrase 33 = .ok (.aload_n 0, 1) := by decide +kernel
theorem dX7_canTryPhrase_34 : decode cX7_canTryPhrase 34 = .ok (.getfield 19, 3) := by decide +kernel
theorem dX7_canTryPhrase_37 : decode cX7_canTryPhrase 37 = .ok (.iload_n 2, 1) := by decide +kernel
theorem dX7_canTryPhrase_38 : decode cX7_canTryPhrase 38 = .ok (.invokevirtual 251, 3) := by decide +kernel
theorem dX7_canTryPhrase_41 : decode cX7_canTryPhrase 41 = .ok (.ifCond .ne 5, 3) := by decide +kernel
theorem dX7_canTryPhrase_44 : decode cX7_canTryPhrase 44 = .ok (.iconst 0, 1) := by decide +kernel
theorem dX7_canTryPhrase_45 : decode cX7_canTryPhrase 45 = .ok (.ireturn, 1) := by decide +kernel
theorem dX7_canTryPhrase_46 : decode cX7_canTryPhrase 46 = .ok (.aload_n 0, 1) := by decide +kernel
theorem dX7_canTryPhrase_47 : decode cX7_canTryPhrase 47 = .ok (.getfield 19, 3) := by decide +kernel
theorem dX7_canTryPhrase_50 : decode cX7_canTryPhrase 50 = .ok (.iload_n 2, 1) := by decide +kernel
theorem dX7_canTryPhrase_51 : decode cX7_canTryPhrase 51 = .ok (.invokevirtual 143, 3) := by decide +kernel
theorem dX7_canTryPhrase_54 : decode cX7_canTryPhrase 54 = .ok (.pop, 1) := by decide +kernel
theorem dX7_canTryPhrase_55 : decode cX7_canTryPhrase 55 = .ok (.iinc 1 1, 3) := by decide +kernel
theorem dX7_canTryPhrase_58 : decode cX7_canTryPhrase 58 = .ok (.goto (-45), 3) := by decide +kernel
theorem dX7_canTryPhrase_61 : decode cX7_canTryPhrase 61 = .ok (.iconst 1, 1) := by decide +kernel
theorem dX7_canTryPhrase_62 : decode cX7_canTryPhrase 62 = .ok (.ireturn, 1) := by decide +kernel
theorem dX8_init_0 : decode cX8_init 0 = .ok (.aload_n 0, 1) := by decide +kernel
theorem dX8_init_1 : decode cX8_init 1 = .ok (.invokespecial 1, 3) := by decide +kernel
theorem dX8_init_4 : decode cX8_init 4 = .ok (.aload_n 0, 1) := by decide +kernel
theorem dX8_init_5 : decode cX8_init 5 = .ok (.sipush 723, 3) := by decide +kernel
theorem dX8_init_8 : decode cX8_init 8 = .ok (.newarray .int, 2) := by decide +kernel
theorem dX8_init_10 : decode cX8_init 10 = .ok (.putfield 7, 3) := by decide +kernel
theorem dX8_init_13 : decode cX8_init 13 = .ok (.aload_n 0, 1) := by decide +kernel
theorem dX8_init_14 : decode cX8_init 14 = .ok (.sipush 4338, 3) := by decide +kernel
theorem dX8_init_17 : decode cX8_init 17 = .ok (.newarray .int, 2) := by decide +kernel
theorem dX8_init_19 : decode cX8_init 19 = .ok (.putfield 13, 3) := by decide +kernel
theorem dX8_init_22 : decode cX8_init 22 = .ok (.aload_n 0, 1) := by decide +kernel
theorem dX8_init_23 : decode cX8_init 23 = .ok (.sipush 723, 3) := by decide +kernel
theorem dX8_init_26 : decode cX8_init 26 = .ok (.newarray .int, 2) := by decide +kernel
theorem dX8_init_28 : decode cX8_init 28 = .ok (.putfield 16, 3) := by decide +kernel
theorem dX8_init_31 : decode cX8_init 31 = .ok (.aload_n 0, 1) := by decide +kernel
theorem dX8_init_32 : decode cX8_init 32 = .ok (.bipush 120, 2) := by decide +kernel
theorem dX8_init_34 : decode cX8_init 34 = .ok (.newarray .char, 2) := by decide +kernel
theorem dX8_init_36 : decode cX8_init 36 = .ok (.putfield 19, 3) := by decide +kernel
theorem dX8_init_39 : decode cX8_init 39 = .ok (.aload_n 0, 1) := by decide +kernel
theorem dX8_init_40 : decode cX8_init 40 = .ok (.bipush 7, 2) := by decide +kernel
theorem dX8_init_42 : decode cX8_init 42 = .ok (.newarray .int, 2) := by decide +kernel
theorem dX8_init_44 : decode cX8_init 44 = .ok (.putfield 23, 3) := by decide +kernel
theorem dX8_init_47 : decode cX8_init 47 = .ok (.aload_n 0, 1) := by decide +kernel
theorem dX8_init_48 : decode cX8_init 48 = .ok (.sipush 360, 3) := by decide +kernel
theorem dX8_init_51 : decode cX8_init 51 = .ok (.newarray .int, 2) := by decide +kernel
theorem dX8_init_53 : decode cX8_init 53 = .ok (.putfield 26, 3) := by decide +kernel
theorem dX8_init_56 : decode cX8_init 56 = .ok (.aload_n 0, 1) := by decide +kernel
theorem dX8_init_57 : decode cX8_init 57 = .ok (.sipush 336, 3) := by decide +kernel
theorem dX8_init_60 : decode cX8_init 60 = .ok (.newarray .int, 2) := by decide +kernel
theorem dX8_init_62 : decode cX8_init 62 = .ok (.putfield 29, 3) := by decide +kernel
theorem dX8_init_65 : decode cX8_init 65 = .ok (.aload_n 0, 1) := by decide +kernel
theorem dX8_init_66 : decode cX8_init 66 = .ok (.getfield 7, 3) := by decide +kernel
theorem dX8_init_69 : decode cX8_init 69 = .ok (.iconst 0, 1) := by decide +kernel
theorem dX8_init_70 : decode cX8_init 70 = .ok (.bipush 16, 2) := by decide +kernel
theorem dX8_init_72 : decode cX8_init 72 = .ok (.iastore, 1) := by decide +kernel
theorem dX8_init_73 : decode cX8_init 73 = .ok (.aload_n 0, 1) := by decide +kernel
theorem dX8_init_74 : decode cX8_init 74 = .ok (.getfield 7, 3) := by decide +kernel
theorem dX8_init_77 : decode cX8_init 77 = .ok (.iconst 1, 1) := by decide +kernel
theorem dX8_init_78 : decode cX8_init 78 = .ok (.iconst 1, 1) := by decide +kernel
theorem dX8_init_79 : decode cX8_init 79 = .ok (.iastore, 1) := by decide +kernel
theorem dX8_init_80 : decode cX8_init 80 = .ok (.return_, 1) := by decide +kernel
theorem dX8_in_0 : decode cX8_in 0 = .ok (.iload_n 0, 1) := by decide +kernel
theorem dX8_in_1 : decode cX8_in 1 = .ok (.iload_n 1, 1) := by decide +kernel
theorem dX8_in_2 : decode cX8_in 2 = .ok (.if_icmp .lt 12, 3) := by decide +kernel
theorem dX8_in_5 : decode cX8_in 5 = .ok (.iload_n 0, 1) := by decide +kernel
theorem dX8_in_6 : decode cX8_in 6 = .ok (.iload_n 2, 1) := by decide +kernel
theorem dX8_in_7 : decode cX8_in 7 = .ok (.if_icmp .gt 7, 3) := by decide +kernel
theorem dX8_in_10 : decode cX8_in 10 = .ok (.iconst 1, 1) := by decide +kernel
theorem dX8_in_11 : decode cX8_in 11 = .ok (.goto 4, 3) := by decide +kernel
theorem dX8_in_14 : decode cX8_in 14 = .ok (.iconst 0, 1) := by decide +kernel
theorem dX8_in_15 : decode cX8_in 15 = .ok (.ireturn, 1) := by decide +kernel
theorem dX8_isBeat_0 : decode cX8_isBeat 0 = .ok (.iload_n 1, 1) := by decide +kernel
theorem dX8_isBeat_1 : decode cX8_isBeat 1 = .ok (.iconst 0, 1) := by decide +kernel
theorem dX8_isBeat_2 : decode cX8_isBeat 2 = .ok (.aload_n 0, 1) := by decide +kernel
theorem dX8_isBeat_3 : decode cX8_isBeat 3 = .ok (.getfield 7, 3) := by decide +kernel
theorem dX8_isBeat_6 : decode cX8_isBeat 6 = .ok (.iconst 0, 1) := by decide +kernel
theorem dX8_isBeat_7 : decode cX8_isBeat 7 = .ok (.iaload, 1) := by decide +kernel
theorem dX8_isBeat_8 : decode cX8_isBeat 8 = .ok (.iconst 1, 1) := by decide +kernel
theorem dX8_isBeat_9 : decode cX8_isBeat 9 = .ok (.isub, 1) := by decide +kernel
theorem dX8_isBeat_10 : decode cX8_isBeat 10 = .ok (.invokestatic 32, 3) := by decide +kernel
theorem dX8_isBeat_13 : decode cX8_isBeat 13 = .ok (.ireturn, 1) := by decide +kernel
theorem dX8_isColumn_0 : decode cX8_isColumn 0 = .ok (.iload_n 0, 1) := by decide +kernel
theorem dX8_isColumn_1 : decode cX8_isColumn 1 = .ok (.iconst 0, 1) := by decide +kernel
theorem dX8_isColumn_2 : decode cX8_isColumn 2 = .ok (.bipush 6, 2) := by decide +kernel
theorem dX8_isColumn_4 : decode cX8_isColumn 4 = .ok (.invokestatic 32, 3) := by decide +kernel
theorem dX8_isColumn_7 : decode cX8_isColumn 7 = .ok (.ireturn, 1) := by decide +kernel
theorem dX8_isSign_0 : decode cX8_isSign 0 = .ok (.iload_n 1, 1) := by decide +kernel
theorem dX8_isSign_1 : decode cX8_isSign 1 = .ok (.iconst 0, 1) := by decide +kernel
theorem dX8_isSign_2 : decode cX8_isSign 2 = .ok (.aload_n 0, 1) := by decide +kernel
theorem dX8_isSign_3 : decode cX8_isSign 3 = .ok (.getfield 7, 3) := by decide +kernel
theorem dX8_isSign_6 : decode cX8_isSign 6 = .ok (.iconst 2, 1) := by decide +kernel
theorem dX8_isSign_7 : decode cX8_isSign 7 = .ok (.iaload, 1) := by decide +kernel
theorem dX8_isSign_8 : decode cX8_isSign 8 = .ok (.iconst 1, 1) := by decide +kernel
theorem dX8_isSign_9 : decode cX8_isSign 9 = .ok (.isub, 1) := by decide +kernel
theorem dX8_isSign_10 : decode cX8_isSign 10 = .ok (.invokestatic 32, 3) := by decide +kernel
theorem dX8_isSign_13 : decode cX8_isSign 13 = .ok (.ireturn, 1) := by decide +kernel
theorem dX8_records_0 : decode cX8_records 0 = .ok (.aload_n 0, 1) := by decide +kernel
theorem dX8_records_1 : decode cX8_records 1 = .ok (.getfield 36, 3) := by decide +kernel
theorem dX8_records_4 : decode cX8_records 4 = .ok (.bipush 6, 2) := by decide +kernel
theorem dX8_records_6 : decode cX8_records 6 = .ok (.if_icmp .ne 44, 3) := by decide +kernel
theorem dX8_records_9 : decode cX8_records 9 = .ok (.iconst 0, 1) := by decide +kernel
theorem dX8_records_10 : decode cX8_records 10 = .ok (.istore_n 1, 1) := by decide +kernel
theorem dX8_records_11 : decode cX8_records 11 = .ok (.iload_n 1, 1) := by decide +kernel
theorem dX8_records_12 : decode cX8_records 12 = .ok (.sipush 3615, 3) := by decide +kernel
theorem dX8_records_15 : decode cX8_records 15 = .ok (.if_icmp .ge 25, 3) := by decide +kernel
theorem dX8_records_18 : decode cX8_records 18 = .ok (.aload_n 0, 1) := by decide +kernel
theorem dX8_records_19 : decode cX8_records 19 = .ok (.getfield 13, 3) := by decide +kernel
theorem dX8_records_22 : decode cX8_records 22 = .ok (.iload_n 1, 1) := by decide +kernel
theorem dX8_records_23 : decode cX8_records 23 = .ok (.aload_n 0, 1) := by decide +kernel
theorem dX8_records_24 : decode cX8_records 24 = .ok (.getfield 13, 3) := by decide +kernel
theorem dX8_records_27 : decode cX8_records 27 = .ok (.iload_n 1, 1) := by decide +kernel
theorem dX8_records_28 : decode cX8_records 28 = .ok (.sipush 723, 3) := by decide +kernel
theorem dX8_records_31 : decode cX8_records 31 = .ok (.iadd, 1) := by decide +kernel
theorem dX8_records_32 : decode cX8_records 32 = .ok (.iaload, 1) := by decide +kernel
theorem dX8_records_33 : decode cX8_records 33 = .ok (.iastore, 1) := by decide +kernel
theorem dX8_records_34 : decode cX8_records 34 = .ok (.iinc 1 1, 3) := by decide +kernel
theorem dX8_records_37 : decode cX8_records 37 = .ok (.goto (-26), 3) := by decide +kernel
theorem dX8_records_40 : decode cX8_records 40 = .ok (.aload_n 0, 1) := by decide +kernel
theorem dX8_records_41 : decode cX8_records 41 = .ok (.dup, 1) := by decide +kernel
theorem dX8_records_42 : decode cX8_records 42 = .ok (.getfield 36, 3) := by decide +kernel
theorem dX8_records_45 : decode cX8_records 45 = .ok (.iconst 1, 1) := by decide +kernel
theorem dX8_records_46 : decode cX8_records 46 = .ok (.isub, 1) := by decide +kernel
theorem dX8_records_47 : decode cX8_records 47 = .ok (.putfield 36, 3) := by decide +kernel
theorem dX8_records_50 : decode cX8_records 50 = .ok (.iconst 0, 1) := by decide +kernel
theorem dX8_records_51 : decode cX8_records 51 = .ok (.istore_n 1, 1) := by decide +kernel
theorem dX8_records_52 : decode cX8_records 52 = .ok (.iload_n 1, 1) := by decide +kernel
theorem dX8_records_53 : decode cX8_records 53 = .ok (.sipush 723, 3) := by decide +kernel
theorem dX8_records_56 : decode cX8_records 56 = .ok (.if_icmp .ge 30, 3) := by decide +kernel
theorem dX8_records_59 : decode cX8_records 59 = .ok (.aload_n 0, 1) := by decide +kernel
theorem dX8_records_60 : decode cX8_records 60 = .ok (.getfield 13, 3) := by decide +kernel
theorem dX8_records_63 : decode cX8_records 63 = .ok (.sipush 723, 3) := by decide +kernel
theorem dX8_records_66 : decode cX8_records 66 = .ok (.aload_n 0, 1) := by decide +kernel
theorem dX8_records_67 : decode cX8_records 67 = .ok (.getfield 36, 3) := by decide +kernel
theorem dX8_records_70 : decode cX8_records 70 = .ok (.imul, 1) := by decide +kernel
theorem dX8_records_71 : decode cX8_records 71 = .ok (.iload_n 1, 1) := by decide +kernel
theorem dX8_records_72 : decode cX8_records 72 = .ok (.iadd, 1) := by decide +kernel
theorem dX8_records_73 : decode cX8_records 73 = .ok (.aload_n 0, 1) := by decide +kernel
theorem dX8_records_74 : decode cX8_records 74 = .ok (.getfield 7, 3) := by decide +kernel
theorem dX8_records_77 : decode cX8_records 77 = .ok (.iload_n 1, 1) := by decide +kernel
theorem dX8_records_78 : decode cX8_records 78 = .ok (.iaload, 1) := by decide +kernel
theorem dX8_records_79 : decode cX8_records 79 = .ok (.iastore, 1) := by decide +kernel
theorem dX8_records_80 : decode cX8_records 80 = .ok (.iinc 1 1, 3) := by decide +kernel
theorem dX8_records_83 : decode cX8_records 83 = .ok (.goto (-31), 3) := by decide +kernel
theorem dX8_records_86 : decode cX8_records 86 = .ok (.aload_n 0, 1) := by decide +kernel
theorem dX8_records_87 : decode cX8_records 87 = .ok (.dup, 1) := by decide +kernel
theorem dX8_records_88 : decode cX8_records 88 = .ok (.getfield 36, 3) := by decide +kernel
theorem dX8_records_91 : decode cX8_records 91 = .ok (.iconst 1, 1) := by decide +kernel
theorem dX8_records_92 : decode cX8_records 92 = .ok (.iadd, 1) := by decide +kernel
theorem dX8_records_93 : decode cX8_records 93 = .ok (.putfield 36, 3) := by decide +kernel
theorem dX8_records_96 : decode cX8_records 96 = .ok (.return_, 1) := by decide +kernel
theorem dX8_endOf_0 : decode cX8_endOf 0 = .ok (.aload_n 0, 1) := by decide +kernel
theorem dX8_endOf_1 : decode cX8_endOf 1 = .ok (.getfield 7, 3) := by decide +kernel
theorem dX8_endOf_4 : decode cX8_endOf 4 = .ok (.sipush 243, 3) := by decide +kernel
theorem dX8_endOf_7 : decode cX8_endOf 7 = .ok (.iload_n 1, 1) := by decide +kernel
theorem dX8_endOf_8 : decode cX8_endOf 8 = .ok (.iadd, 1) := by decide +kernel
theorem dX8_endOf_9 : decode cX8_endOf 9 = .ok (.iaload, 1) := by decide +kernel
theorem dX8_endOf_10 : decode cX8_endOf 10 = .ok (.iconst 1, 1) := by decide +kernel
theorem dX8_endOf_11 : decode cX8_endOf 11 = .ok (.if_icmp .eq 24, 3) := by decide +kernel
theorem dX8_endOf_14 : decode cX8_endOf 14 = .ok (.aload_n 0, 1) := by decide +kernel
theorem dX8_endOf_15 : decode cX8_endOf 15 = .ok (.getfield 7, 3) := by decide +kernel
theorem dX8_endOf_18 : decode cX8_endOf 18 = .ok (.bipush 123, 2) := by decide +kernel
theorem dX8_endOf_20 : decode cX8_endOf 20 = .ok (.iload_n 1, 1) := by decide +kernel
theorem dX8_endOf_21 : decode cX8_endOf 21 = .ok (.iadd, 1) := by decide +kernel
theorem dX8_endOf_22 : decode cX8_endOf 22 = .ok (.iaload, 1) := by decide +kernel
theorem dX8_endOf_23 : decode cX8_endOf 23 = .ok (.aload_n 0, 1) := by decide +kernel
theorem dX8_endOf_24 : decode cX8_endOf 24 = .ok (.getfield 7, 3) := by decide +kernel
theorem dX8_endOf_27 : decode cX8_endOf 27 = .ok (.sipush 363, 3) := by decide +kernel
theorem dX8_endOf_30 : decode cX8_endOf 30 = .ok (.iload_n 1, 1) := by decide +kernel
theorem dX8_endOf_31 : decode cX8_endOf 31 = .ok (.iadd, 1) := by decide +kernel
theorem dX8_endOf_32 : decode cX8_endOf 32 = .ok (.iaload, 1) := by decide +kernel
theorem dX8_endOf_33 : decode cX8_endOf 33 = .ok (.iadd, 1) := by decide +kernel
theorem dX8_endOf_34 : decode cX8_endOf 34 = .ok (.ireturn, 1) := by decide +kernel
theorem dX8_endOf_35 : decode cX8_endOf 35 = .ok (.iload_n 1, 1) := by decide +kernel
theorem dX8_endOf_36 : decode cX8_endOf 36 = .ok (.iconst 1, 1) := by decide +kernel
theorem dX8_endOf_37 : decode cX8_endOf 37 = .ok (.iadd, 1) := by decide +kernel
theorem dX8_endOf_38 : decode cX8_endOf 38 = .ok (.istore_n 2, 1) := by decide +kernel
theorem dX8_endOf_39 : decode cX8_endOf 39 = .ok (.iload_n 2, 1) := by decide +kernel
theorem dX8_endOf_40 : decode cX8_endOf 40 = .ok (.aload_n 0, 1) := by decide +kernel
theorem dX8_endOf_41 : decode cX8_endOf 41 = .ok (.getfield 7, 3) := by decide +kernel
theorem dX8_endOf_44 : decode cX8_endOf 44 = .ok (.iconst 2, 1) := by decide +kernel
theorem dX8_endOf_45 : decode cX8_endOf 45 = .ok (.iaload, 1) := by decide +kernel
theorem dX8_endOf_46 : decode cX8_endOf 46 = .ok (.if_icmp .ge 38, 3) := by decide +kernel
theorem dX8_endOf_49 : decode cX8_endOf 49 = .ok (.aload_n 0, 1) := by decide +kernel
theorem dX8_endOf_50 : decode cX8_endOf 50 = .ok (.getfield 7, 3) := by decide +kernel
theorem dX8_endOf_53 : decode cX8_endOf 53 = .ok (.iconst 3, 1) := by decide +kernel
theorem dX8_endOf_54 : decode cX8_endOf 54 = .ok (.iload_n 2, 1) := by decide +kernel
theorem dX8_endOf_55 : decode cX8_endOf 55 = .ok (.iadd, 1) := by decide +kernel
theorem dX8_endOf_56 : decode cX8_endOf 56 = .ok (.iaload, 1) := by decide +kernel
theorem dX8_endOf_57 : decode cX8_endOf 57 = .ok (.aload_n 0, 1) := by decide +kernel
theorem dX8_endOf_58 : decode cX8_endOf 58 = .ok (.getfield 7, 3) := by decide +kernel
theorem dX8_endOf_61 : decode cX8_endOf 61 = .ok (.iconst 3, 1) := by decide +kernel
theorem dX8_endOf_62 : decode cX8_endOf 62 = .ok (.iload_n 1, 1) := by decide +kernel
theorem dX8_endOf_63 : decode cX8_endOf 63 = .ok (.iadd, 1) := by decide +kernel
theorem dX8_endOf_64 : decode cX8_endOf 64 = .ok (.iaload, 1) := by decide +kernel
theorem dX8_endOf_65 : decode cX8_endOf 65 = .ok (.if_icmp .ne 13, 3) := by decide +kernel
theorem dX8_endOf_68 : decode cX8_endOf 68 = .ok (.aload_n 0, 1) := by decide +kernel
theorem dX8_endOf_69 : decode cX8_endOf 69 = .ok (.getfield 7, 3) := by decide +kernel
theorem dX8_endOf_72 : decode cX8_endOf 72 = .ok (.bipush 123, 2) := by decide +kernel
theorem dX8_endOf_74 : decode cX8_endOf 74 = .ok (.iload_n 2, 1) := by decide +kernel
theorem dX8_endOf_75 : decode cX8_endOf 75 = .ok (.iadd, 1) := by decide +kernel
theorem dX8_endOf_76 : decode cX8_endOf 76 = .ok (.iaload, 1) := by decide +kernel
theorem dX8_endOf_77 : decode cX8_endOf 77 = .ok (.ireturn, 1) := by decide +kernel
theorem dX8_endOf_78 : decode cX8_endOf 78 = .ok (.iinc 2 1, 3) := by decide +kernel
theorem dX8_endOf_81 : decode cX8_endOf 81 = .ok (.goto (-42), 3) := by decide +kernel
theorem dX8_endOf_84 : decode cX8_endOf 84 = .ok (.aload_n 0, 1) := by decide +kernel
theorem dX8_endOf_85 : decode cX8_endOf 85 = .ok (.getfield 7, 3) := by decide +kernel
theorem dX8_endOf_88 : decode cX8_endOf 88 = .ok (.iconst 0, 1) := by decide +kernel
theorem dX8_endOf_89 : decode cX8_endOf 89 = .ok (.iaload, 1) := by decide +kernel
theorem dX8_endOf_90 : decode cX8_endOf 90 = .ok (.ireturn, 1) := by decide +kernel
theorem dX8_fills_0 : decode cX8_fills 0 = .ok (.iconst 0, 1) := by decide +kernel
theorem dX8_fills_1 : decode cX8_fills 1 = .ok (.istore_n 1, 1) := by decide +kernel
theorem dX8_fills_2 : decode cX8_fills 2 = .ok (.iload_n 1, 1) := by decide +kernel
theorem dX8_fills_3 : decode cX8_fills 3 = .ok (.sipush 336, 3) := by decide +kernel
theorem dX8_fills_6 : decode cX8_fills 6 = .ok (.if_icmp .ge 16, 3) := by decide +kernel
theorem dX8_fills_9 : decode cX8_fills 9 = .ok (.aload_n 0, 1) := by decide +kernel
theorem dX8_fills_10 : decode cX8_fills 10 = .ok (.getfield 29, 3) := by decide +kernel
theorem dX8_fills_13 : decode cX8_fills 13 = .ok (.iload_n 1, 1) := by decide +kernel
theorem dX8_fills_14 : decode cX8_fills 14 = .ok (.iconst (-1), 1) := by decide +kernel
theorem dX8_fills_15 : decode cX8_fills 15 = .ok (.iastore, 1) := by decide +kernel
theorem dX8_fills_16 : decode cX8_fills 16 = .ok (.iinc 1 1, 3) := by decide +kernel
theorem dX8_fills_19 : decode cX8_fills 19 = .ok (.goto (-17), 3) := by decide +kernel
theorem dX8_fills_22 : decode cX8_fills 22 = .ok (.iconst 0, 1) := by decide +kernel
theorem dX8_fills_23 : decode cX8_fills 23 = .ok (.istore_n 1, 1) := by decide +kernel
theorem dX8_fills_24 : decode cX8_fills 24 = .ok (.iload_n 1, 1) := by decide +kernel
theorem dX8_fills_25 : decode cX8_fills 25 = .ok (.aload_n 0, 1) := by decide +kernel
theorem dX8_fills_26 : decode cX8_fills 26 = .ok (.getfield 7, 3) := by decide +kernel
theorem dX8_fills_29 : decode cX8_fills 29 = .ok (.iconst 2, 1) := by decide +kernel
theorem dX8_fills_30 : decode cX8_fills 30 = .ok (.iaload, 1) := by decide +kernel
theorem dX8_fills_31 : decode cX8_fills 31 = .ok (.if_icmp .ge 107, 3) := by decide +kernel
theorem dX8_fills_34 : decode cX8_fills 34 = .ok (.aload_n 0, 1) := by decide +kernel
theorem dX8_fills_35 : decode cX8_fills 35 = .ok (.getfield 7, 3) := by decide +kernel
theorem dX8_fills_38 : decode cX8_fills 38 = .ok (.sipush 243, 3) := by decide +kernel
theorem dX8_fills_41 : decode cX8_fills 41 = .ok (.iload_n 1, 1) := by decide +kernel
theorem dX8_fills_42 : decode cX8_fills 42 = .ok (.iadd, 1) := by decide +kernel
theorem dX8_fills_43 : decode cX8_fills 43 = .ok (.iaload, 1) := by decide +kernel
theorem dX8_fills_44 : decode cX8_fills 44 = .ok (.iconst 1, 1) := by decide +kernel
theorem dX8_fills_45 : decode cX8_fills 45 = .ok (.if_icmp .ne 12, 3) := by decide +kernel
theorem dX8_fills_48 : decode cX8_fills 48 = .ok (.aload_n 0, 1) := by decide +kernel
theorem dX8_fills_49 : decode cX8_fills 49 = .ok (.getfield 7, 3) := by decide +kernel
theorem dX8_fills_52 : decode cX8_fills 52 = .ok (.iconst 0, 1) := by decide +kernel
theorem dX8_fills_53 : decode cX8_fills 53 = .ok (.iaload, 1) := by decide +kernel
theorem dX8_fills_54 : decode cX8_fills 54 = .ok (.goto 23, 3) := by decide +kernel
theorem dX8_fills_57 : decode cX8_fills 57 = .ok (.aload_n 0, 1) := by decide +kernel
theorem dX8_fills_58 : decode cX8_fills 58 = .ok (.getfield 7, 3) := by decide +kernel
theorem dX8_fills_61 : decode cX8_fills 61 = .ok (.bipush 123, 2) := by decide +kernel
theorem dX8_fills_63 : decode cX8_fills 63 = .ok (.iload_n 1, 1) := by decide +kernel
theorem dX8_fills_64 : decode cX8_fills 64 = .ok (.iadd, 1) := by decide +kernel
theorem dX8_fills_65 : decode cX8_fills 65 = .ok (.iaload, 1) := by decide +kernel
theorem dX8_fills_66 : decode cX8_fills 66 = .ok (.aload_n 0, 1) := by decide +kernel
theorem dX8_fills_67 : decode cX8_fills 67 = .ok (.getfield 7, 3) := by decide +kernel
theorem dX8_fills_70 : decode cX8_fills 70 = .ok (.sipush 363, 3) := by decide +kernel
theorem dX8_fills_73 : decode cX8_fills 73 = .ok (.iload_n 1, 1) := by decide +kernel
theorem dX8_fills_74 : decode cX8_fills 74 = .ok (.iadd, 1) := by decide +kernel
theorem dX8_fills_75 : decode cX8_fills 75 = .ok (.iaload, 1) := by decide +kernel
theorem dX8_fills_76 : decode cX8_fills 76 = .ok (.iadd, 1) := by decide +kernel
theorem dX8_fills_77 : decode cX8_fills 77 = .ok (.istore_n 2, 1) := by decide +kernel
theorem dX8_fills_78 : decode cX8_fills 78 = .ok (.aload_n 0, 1) := by decide +kernel
theorem dX8_fills_79 : decode cX8_fills 79 = .ok (.getfield 7, 3) := by decide +kernel
theorem dX8_fills_82 : decode cX8_fills 82 = .ok (.bipush 123, 2) := by decide +kernel
theorem dX8_fills_84 : decode cX8_fills 84 = .ok (.iload_n 1, 1) := by decide +kernel
theorem dX8_fills_85 : decode cX8_fills 85 = .ok (.iadd, 1) := by decide +kernel
theorem dX8_fills_86 : decode cX8_fills 86 = .ok (.iaload, 1) := by decide +kernel
theorem dX8_fills_87 : decode cX8_fills 87 = .ok (.istore_n 3, 1) := by decide +kernel
theorem dX8_fills_88 : decode cX8_fills 88 = .ok (.iload_n 3, 1) := by decide +kernel
theorem dX8_fills_89 : decode cX8_fills 89 = .ok (.aload_n 0, 1) := by decide +kernel
theorem dX8_fills_90 : decode cX8_fills 90 = .ok (.getfield 7, 3) := by decide +kernel
theorem dX8_fills_93 : decode cX8_fills 93 = .ok (.iconst 0, 1) := by decide +kernel
theorem dX8_fills_94 : decode cX8_fills 94 = .ok (.iaload, 1) := by decide +kernel
theorem dX8_fills_95 : decode cX8_fills 95 = .ok (.if_icmp .ge 37, 3) := by decide +kernel
theorem dX8_fills_98 : decode cX8_fills 98 = .ok (.aload_n 0, 1) := by decide +kernel
theorem dX8_fills_99 : decode cX8_fills 99 = .ok (.getfield 29, 3) := by decide +kernel
theorem dX8_fills_102 : decode cX8_fills 102 = .ok (.bipush 48, 2) := by decide +kernel
theorem dX8_fills_104 : decode cX8_fills 104 = .ok (.aload_n 0, 1) := by decide +kernel
theorem dX8_fills_105 : decode cX8_fills 105 = .ok (.getfield 7, 3) := by decide +kernel
theorem dX8_fills_108 : decode cX8_fills 108 = .ok (.iconst 3, 1) := by decide +kernel
theorem dX8_fills_109 : decode cX8_fills 109 = .ok (.iload_n 1, 1) := by decide +kernel
theorem dX8_fills_110 : decode cX8_fills 110 = .ok (.iadd, 1) := by decide +kernel
theorem dX8_fills_111 : decode cX8_fills 111 = .ok (.iaload, 1) := by decide +kernel
theorem dX8_fills_112 : decode cX8_fills 112 = .ok (.imul, 1) := by decide +kernel
theorem dX8_fills_113 : decode cX8_fills 113 = .ok (.iload_n 3, 1) := by decide +kernel
theorem dX8_fills_114 : decode cX8_fills 114 = .ok (.iadd, 1) := by decide +kernel
theorem dX8_fills_115 : decode cX8_fills 115 = .ok (.iload_n 3, 1) := by decide +kernel
theorem dX8_fills_116 : decode cX8_fills 116 = .ok (.iload_n 2, 1) := by decide +kernel
theorem dX8_fills_117 : decode cX8_fills 117 = .ok (.if_icmp .ge 7, 3) := by decide +kernel
theorem dX8_fills_120 : decode cX8_fills 120 = .ok (.iload_n 1, 1) := by decide +kernel
theorem dX8_fills_121 : decode cX8_fills 121 = .ok (.goto 4, 3) := by decide +kernel
theorem dX8_fills_124 : decode cX8_fills 124 = .ok (.iconst (-1), 1) := by decide +kernel
theorem dX8_fills_125 : decode cX8_fills 125 = .ok (.iastore, 1) := by decide +kernel
theorem dX8_fills_126 : decode cX8_fills 126 = .ok (.iinc 3 1, 3) := by decide +kernel
theorem dX8_fills_129 : decode cX8_fills 129 = .ok (.goto (-41), 3) := by decide +kernel
theorem dX8_fills_132 : decode cX8_fills 132 = .ok (.iinc 1 1, 3) := by decide +kernel
theorem dX8_fills_135 : decode cX8_fills 135 = .ok (.goto (-111), 3) := by decide +kernel
theorem dX8_fills_138 : decode cX8_fills 138 = .ok (.return_, 1) := by decide +kernel
theorem dX8_covering_0 : decode cX8_covering 0 = .ok (.aload_n 0, 1) := by decide +kernel
theorem dX8_covering_1 : decode cX8_covering 1 = .ok (.getfield 29, 3) := by decide +kernel
theorem dX8_covering_4 : decode cX8_covering 4 = .ok (.bipush 48, 2) := by decide +kernel
theorem dX8_covering_6 : decode cX8_covering 6 = .ok (.iload_n 1, 1) := by decide +kernel
theorem dX8_covering_7 : decode cX8_covering 7 = .ok (.imul, 1) := by decide +kernel
theorem dX8_covering_8 : decode cX8_covering 8 = .ok (.iload_n 2, 1) := by decide +kernel
theorem dX8_covering_9 : decode cX8_covering 9 = .ok (.iadd, 1) := by decide +kernel
theorem dX8_covering_10 : decode cX8_covering 10 = .ok (.iaload, 1) := by decide +kernel
theorem dX8_covering_11 : decode cX8_covering 11 = .ok (.ireturn, 1) := by decide +kernel
theorem dX8_isFree_0 : decode cX8_isFree 0 = .ok (.aload_n 0, 1) := by decide +kernel
theorem dX8_isFree_1 : decode cX8_isFree 1 = .ok (.invokevirtual 40, 3) := by decide +kernel
theorem dX8_isFree_4 : decode cX8_isFree 4 = .ok (.aload_n 0, 1) := by decide +kernel
theorem dX8_isFree_5 : decode cX8_isFree 5 = .ok (.iload_n 1, 1) := by decide +kernel
theorem dX8_isFree_6 : decode cX8_isFree 6 = .ok (.iload_n 2, 1) := by decide +kernel
theorem dX8_isFree_7 : decode cX8_isFree 7 = .ok (.invokevirtual 43, 3) := by decide +kernel
theorem dX8_isFree_10 : decode cX8_isFree 10 = .ok (.istore 4, 2) := by decide +kernel
theorem dX8_isFree_12 : decode cX8_isFree 12 = .ok (.iload 4, 2) := by decide +kernel
theorem dX8_isFree_14 : decode cX8_isFree 14 = .ok (.ifCond .lt 18, 3) := by decide +kernel
theorem dX8_isFree_17 : decode cX8_isFree 17 = .ok (.aload_n 0, 1) := by decide +kernel
theorem dX8_isFree_18 : decode cX8_isFree 18 = .ok (.getfield 7, 3) := by decide +kernel
theorem dX8_isFree_21 : decode cX8_isFree 21 = .ok (.sipush 243, 3) := by decide +kernel
theorem dX8_isFree_24 : decode cX8_isFree 24 = .ok (.iload 4, 2) := by decide +kernel
theorem dX8_isFree_26 : decode cX8_isFree 26 = .ok (.iadd, 1) := by decide +kernel
theorem dX8_isFree_27 : decode cX8_isFree 27 = .ok (.iaload, 1) := by decide +kernel
theorem dX8_isFree_28 : decode cX8_isFree 28 = .ok (.iconst 1, 1) := by decide +kernel
theorem dX8_isFree_29 : decode cX8_isFree 29 = .ok (.if_icmp .ne 7, 3) := by decide +kernel
theorem dX8_isFree_32 : decode cX8_isFree 32 = .ok (.iconst 1, 1) := by decide +kernel
theorem dX8_isFree_33 : decode cX8_isFree 33 = .ok (.goto 4, 3) := by decide +kernel
theorem dX8_isFree_36 : decode cX8_isFree 36 = .ok (.iconst 0, 1) := by decide +kernel
theorem dX8_isFree_37 : decode cX8_isFree 37 = .ok (.istore 5, 2) := by decide +kernel
theorem dX8_isFree_39 : decode cX8_isFree 39 = .ok (.iconst 0, 1) := by decide +kernel
theorem dX8_isFree_40 : decode cX8_isFree 40 = .ok (.istore 6, 2) := by decide +kernel
theorem dX8_isFree_42 : decode cX8_isFree 42 = .ok (.iload 6, 2) := by decide +kernel
theorem dX8_isFree_44 : decode cX8_isFree 44 = .ok (.aload_n 0, 1) := by decide +kernel
theorem dX8_isFree_45 : decode cX8_isFree 45 = .ok (.getfield 7, 3) := by decide +kernel
theorem dX8_isFree_48 : decode cX8_isFree 48 = .ok (.iconst 2, 1) := by decide +kernel
theorem dX8_isFree_49 : decode cX8_isFree 49 = .ok (.iaload, 1) := by decide +kernel
theorem dX8_isFree_50 : decode cX8_isFree 50 = .ok (.if_icmp .ge 56, 3) := by decide +kernel
theorem dX8_isFree_53 : decode cX8_isFree 53 = .ok (.iload 5, 2) := by decide +kernel
theorem dX8_isFree_55 : decode cX8_isFree 55 = .ok (.ifCond .eq 42, 3) := by decide +kernel
theorem dX8_isFree_58 : decode cX8_isFree 58 = .ok (.aload_n 0, 1) := by decide +kernel
theorem dX8_isFree_59 : decode cX8_isFree 59 = .ok (.getfield 7, 3) := by decide +kernel
theorem dX8_isFree_62 : decode cX8_isFree 62 = .ok (.iconst 3, 1) := by decide +kernel
theorem dX8_isFree_63 : decode cX8_isFree 63 = .ok (.iload 6, 2) := by decide +kernel
theorem dX8_isFree_65 : decode cX8_isFree 65 = .ok (.iadd, 1) := by decide +kernel
theorem dX8_isFree_66 : decode cX8_isFree 66 = .ok (.iaload, 1) := by decide +kernel
theorem dX8_isFree_67 : decode cX8_isFree 67 = .ok (.iload_n 1, 1) := by decide +kernel
theorem dX8_isFree_68 : decode cX8_isFree 68 = .ok (.if_icmp .ne 25, 3) := by decide +kernel
theorem dX8_isFree_71 : decode cX8_isFree 71 = .ok (.aload_n 0, 1) := by decide +kernel
theorem dX8_isFree_72 : decode cX8_isFree 72 = .ok (.getfield 7, 3) := by decide +kernel
theorem dX8_isFree_75 : decode cX8_isFree 75 = .ok (.bipush 123, 2) := by decide +kernel
theorem dX8_isFree_77 : decode cX8_isFree 77 = .ok (.iload 6, 2) := by decide +kernel
theorem dX8_isFree_79 : decode cX8_isFree 79 = .ok (.iadd, 1) := by decide +kernel
theorem dX8_isFree_80 : decode cX8_isFree 80 = .ok (.iaload, 1) := by decide +kernel
theorem dX8_isFree_81 : decode cX8_isFree 81 = .ok (.iload_n 2, 1) := by decide +kernel
theorem dX8_isFree_82 : decode cX8_isFree 82 = .ok (.iload_n 2, 1) := by decide +kernel
theorem dX8_isFree_83 : decode cX8_isFree 83 = .ok (.iload_n 3, 1) := by decide +kernel
theorem dX8_isFree_84 : decode cX8_isFree 84 = .ok (.iadd, 1) := by decide +kernel
theorem dX8_isFree_85 : decode cX8_isFree 85 = .ok (.iconst 1, 1) := by decide +kernel
theorem dX8_isFree_86 : decode cX8_isFree 86 = .ok (.isub, 1) := by decide +kernel
theorem dX8_isFree_87 : decode cX8_isFree 87 = .ok (.invokestatic 32, 3) := by decide +kernel
theorem dX8_isFree_90 : decode cX8_isFree 90 = .ok (.ifCond .ne 7, 3) := by decide +kernel
theorem dX8_isFree_93 : decode cX8_isFree 93 = .ok (.iconst 1, 1) := by decide +kernel
theorem dX8_isFree_94 : decode cX8_isFree 94 = .ok (.goto 4, 3) := by decide +kernel
theorem dX8_isFree_97 : decode cX8_isFree 97 = .ok (.iconst 0, 1) := by decide +kernel
theorem dX8_isFree_98 : decode cX8_isFree 98 = .ok (.istore 5, 2) := by decide +kernel
theorem dX8_isFree_100 : decode cX8_isFree 100 = .ok (.iinc 6 1, 3) := by decide +kernel
theorem dX8_isFree_103 : decode cX8_isFree 103 = .ok (.goto (-61), 3) := by decide +kernel
theorem dX8_isFree_106 : decode cX8_isFree 106 = .ok (.iload 5, 2) := by decide +kernel
theorem dX8_isFree_108 : decode cX8_isFree 108 = .ok (.ireturn, 1) := by decide +kernel
theorem dX8_puts_0 : decode cX8_puts 0 = .ok (.aload_n 0, 1) := by decide +kernel
theorem dX8_puts_1 : decode cX8_puts 1 = .ok (.getfield 7, 3) := by decide +kernel
theorem dX8_puts_4 : decode cX8_puts 4 = .ok (.iconst 2, 1) := by decide +kernel
theorem dX8_puts_5 : decode cX8_puts 5 = .ok (.iaload, 1) := by decide +kernel
theorem dX8_puts_6 : decode cX8_puts 6 = .ok (.istore 7, 2) := by decide +kernel
theorem dX8_puts_8 : decode cX8_puts 8 = .ok (.iload 7, 2) := by decide +kernel
theorem dX8_puts_10 : decode cX8_puts 10 = .ok (.ifCond .le 95, 3) := by decide +kernel
theorem dX8_puts_13 : decode cX8_puts 13 = .ok (.aload_n 0, 1) := by decide +kernel
theorem dX8_puts_14 : decode cX8_puts 14 = .ok (.getfield 7, 3) := by decide +kernel
theorem dX8_puts_17 : decode cX8_puts 17 = .ok (.bipush 123, 2) := by decide +kernel
theorem dX8_puts_19 : decode cX8_puts 19 = .ok (.iload 7, 2) := by decide +kernel
theorem dX8_puts_21 : decode cX8_puts 21 = .ok (.iadd, 1) := by decide +kernel
theorem dX8_puts_22 : decode cX8_puts 22 = .ok (.iconst 1, 1) := by decide +kernel
theorem dX8_puts_23 : decode cX8_puts 23 = .ok (.isub, 1) := by decide +kernel
theorem dX8_puts_24 : decode cX8_puts 24 = .ok (.iaload, 1) := by decide +kernel
theorem dX8_puts_25 : decode cX8_puts 25 = .ok (.iload_n 2, 1) := by decide +kernel
theorem dX8_puts_26 : decode cX8_puts 26 = .ok (.if_icmp .gt 34, 3) := by decide +kernel
theorem dX8_puts_29 : decode cX8_puts 29 = .ok (.aload_n 0, 1) := by decide +kernel
theorem dX8_puts_30 : decode cX8_puts 30 = .ok (.getfield 7, 3) := by decide +kernel
theorem dX8_puts_33 : decode cX8_puts 33 = .ok (.bipush 123, 2) := by decide +kernel
theorem dX8_puts_35 : decode cX8_puts 35 = .ok (.iload 7, 2) := by decide +kernel
theorem dX8_puts_37 : decode cX8_puts 37 = .ok (.iadd, 1) := by decide +kernel
theorem dX8_puts_38 : decode cX8_puts 38 = .ok (.iconst 1, 1) := by decide +kernel
theorem dX8_puts_39 : decode cX8_puts 39 = .ok (.isub, 1) := by decide +kernel
theorem dX8_puts_40 : decode cX8_puts 40 = .ok (.iaload, 1) := by decide +kernel
theorem dX8_puts_41 : decode cX8_puts 41 = .ok (.iload_n 2, 1) := by decide +kernel
theorem dX8_puts_42 : decode cX8_puts 42 = .ok (.if_icmp .ne 63, 3) := by decide +kernel
theorem dX8_puts_45 : decode cX8_puts 45 = .ok (.aload_n 0, 1) := by decide +kernel
theorem dX8_puts_46 : decode cX8_puts 46 = .ok (.getfield 7, 3) := by decide +kernel
theorem dX8_puts_49 : decode cX8_puts 49 = .ok (.iconst 3, 1) := by decide +kernel
theorem dX8_puts_50 : decode cX8_puts 50 = .ok (.iload 7, 2) := by decide +kernel
theorem dX8_puts_52 : decode cX8_puts 52 = .ok (.iadd, 1) := by decide +kernel
theorem dX8_puts_53 : decode cX8_puts 53 = .ok (.iconst 1, 1) := by decide +kernel
theorem dX8_puts_54 : decode cX8_puts 54 = .ok (.isub, 1) := by decide +kernel
theorem dX8_puts_55 : decode cX8_puts 55 = .ok (.iaload, 1) := by decide +kernel
theorem dX8_puts_56 : decode cX8_puts 56 = .ok (.iload_n 1, 1) := by decide +kernel
theorem dX8_puts_57 : decode cX8_puts 57 = .ok (.if_icmp .le 48, 3) := by decide +kernel
theorem dX8_puts_60 : decode cX8_puts 60 = .ok (.iconst 3, 1) := by decide +kernel
theorem dX8_puts_61 : decode cX8_puts 61 = .ok (.istore 8, 2) := by decide +kernel
theorem dX8_puts_63 : decode cX8_puts 63 = .ok (.iload 8, 2) := by decide +kernel
theorem dX8_puts_65 : decode cX8_puts 65 = .ok (.sipush 723, 3) := by decide +kernel
theorem dX8_puts_68 : decode cX8_puts 68 = .ok (.if_icmp .ge 31, 3) := by decide +kernel
theorem dX8_puts_71 : decode cX8_puts 71 = .ok (.aload_n 0, 1) := by decide +kernel
theorem dX8_puts_72 : decode cX8_puts 72 = .ok (.getfield 7, 3) := by decide +kernel
theorem dX8_puts_75 : decode cX8_puts 75 = .ok (.iload 8, 2) := by decide +kernel
theorem dX8_puts_77 : decode cX8_puts 77 = .ok (.iload 7, 2) := by decide +kernel
theorem dX8_puts_79 : decode cX8_puts 79 = .ok (.iadd, 1) := by decide +kernel
theorem dX8_puts_80 : decode cX8_puts 80 = .ok (.aload_n 0, 1) := by decide +kernel
theorem dX8_puts_81 : decode cX8_puts 81 = .ok (.getfield 7, 3) := by decide +kernel
theorem dX8_puts_84 : decode cX8_puts 84 = .ok (.iload 8, 2) := by decide +kernel
theorem dX8_puts_86 : decode cX8_puts 86 = .ok (.iload 7, 2) := by decide +kernel
theorem dX8_puts_88 : decode cX8_puts 88 = .ok (.iadd, 1) := by decide +kernel
theorem dX8_puts_89 : decode cX8_puts 89 = .ok (.iconst 1, 1) := by decide +kernel
theorem dX8_puts_90 : decode cX8_puts 90 = .ok (.isub, 1) := by decide +kernel
theorem dX8_puts_91 : decode cX8_puts 91 = .ok (.iaload, 1) := by decide +kernel
theorem dX8_puts_92 : decode cX8_puts 92 = .ok (.iastore, 1) := by decide +kernel
theorem dX8_puts_93 : decode cX8_puts 93 = .ok (.iinc 8 120, 3) := by decide +kernel
theorem dX8_puts_96 : decode cX8_puts 96 = .ok (.goto (-33), 3) := by decide +kernel
theorem dX8_puts_99 : decode cX8_puts 99 = .ok (.iinc 7 (-1), 3) := by decide +kernel
theorem dX8_puts_102 : decode cX8_puts 102 = .ok (.goto (-94), 3) := by decide +kernel
theorem dX8_puts_105 : decode cX8_puts 105 = .ok (.aload_n 0, 1) := by decide +kernel
theorem dX8_puts_106 : decode cX8_puts 106 = .ok (.getfield 7, 3) := by decide +kernel
theorem dX8_puts_109 : decode cX8_puts 109 = .ok (.iconst 3, 1) := by decide +kernel
theorem dX8_puts_110 : decode cX8_puts 110 = .ok (.iload 7, 2) := by decide +kernel
theorem dX8_puts_112 : decode cX8_puts 112 = .ok (.iadd, 1) := by decide +kernel
theorem dX8_puts_113 : decode cX8_puts 113 = .ok (.iload_n 1, 1) := by decide +kernel
theorem dX8_puts_114 : decode cX8_puts 114 = .ok (.iastore, 1) := by decide +kernel
theorem dX8_puts_115 : decode cX8_puts 115 = .ok (.aload_n 0, 1) := by decide +kernel
theorem dX8_puts_116 : decode cX8_puts 116 = .ok (.getfield 7, 3) := by decide +kernel
theorem dX8_puts_119 : decode cX8_puts 119 = .ok (.bipush 123, 2) := by decide +kernel
theorem dX8_puts_121 : decode cX8_puts 121 = .ok (.iload 7, 2) := by decide +kernel
theorem dX8_puts_123 : decode cX8_puts 123 = .ok (.iadd, 1) := by decide +kernel
theorem dX8_puts_124 : decode cX8_puts 124 = .ok (.iload_n 2, 1) := by decide +kernel
theorem dX8_puts_125 : decode cX8_puts 125 = .ok (.iastore, 1) := by decide +kernel
theorem dX8_puts_126 : decode cX8_puts 126 = .ok (.aload_n 0, 1) := by decide +kernel
theorem dX8_puts_127 : decode cX8_puts 127 = .ok (.getfield 7, 3) := by decide +kernel
theorem dX8_puts_130 : decode cX8_puts 130 = .ok (.sipush 243, 3) := by decide +kernel
theorem dX8_puts_133 : decode cX8_puts 133 = .ok (.iload 7, 2) := by decide +kernel
theorem dX8_puts_135 : decode cX8_puts 135 = .ok (.iadd, 1) := by decide +kernel
theorem dX8_puts_136 : decode cX8_puts 136 = .ok (.iload_n 3, 1) := by decide +kernel
theorem dX8_puts_137 : decode cX8_puts 137 = .ok (.iastore, 1) := by decide +kernel
theorem dX8_puts_138 : decode cX8_puts 138 = .ok (.aload_n 0, 1) := by decide +kernel
theorem dX8_puts_139 : decode cX8_puts 139 = .ok (.getfield 7, 3) := by decide +kernel
theorem dX8_puts_142 : decode cX8_puts 142 = .ok (.sipush 363, 3) := by decide +kernel
theorem dX8_puts_145 : decode cX8_puts 145 = .ok (.iload 7, 2) := by decide +kernel
theorem dX8_puts_147 : decode cX8_puts 147 = .ok (.iadd, 1) := by decide +kernel
theorem dX8_puts_148 : decode cX8_puts 148 = .ok (.iload 4, 2) := by decide +kernel
theorem dX8_puts_150 : decode cX8_puts 150 = .ok (.iastore, 1) := by decide +kernel
theorem dX8_puts_151 : decode cX8_puts 151 = .ok (.aload_n 0, 1) := by decide +kernel
theorem dX8_puts_152 : decode cX8_puts 152 = .ok (.getfield 7, 3) := by decide +kernel
theorem dX8_puts_155 : decode cX8_puts 155 = .ok (.sipush 483, 3) := by decide +kernel
theorem dX8_puts_158 : decode cX8_puts 158 = .ok (.iload 7, 2) := by decide +kernel
theorem dX8_puts_160 : decode cX8_puts 160 = .ok (.iadd, 1) := by decide +kernel
theorem dX8_puts_161 : decode cX8_puts 161 = .ok (.iload 5, 2) := by decide +kernel
theorem dX8_puts_163 : decode cX8_puts 163 = .ok (.iastore, 1) := by decide +kernel
theorem dX8_puts_164 : decode cX8_puts 164 = .ok (.aload_n 0, 1) := by decide +kernel
theorem dX8_puts_165 : decode cX8_puts 165 = .ok (.getfield 7, 3) := by decide +kernel
theorem dX8_puts_168 : decode cX8_puts 168 = .ok (.sipush 603, 3) := by decide +kernel
theorem dX8_puts_171 : decode cX8_puts 171 = .ok (.iload 7, 2) := by decide +kernel
theorem dX8_puts_173 : decode cX8_puts 173 = .ok (.iadd, 1) := by decide +kernel
theorem dX8_puts_174 : decode cX8_puts 174 = .ok (.iload 6, 2) := by decide +kernel
theorem dX8_puts_176 : decode cX8_puts 176 = .ok (.iastore, 1) := by decide +kernel
theorem dX8_puts_177 : decode cX8_puts 177 = .ok (.aload_n 0, 1) := by decide +kernel
theorem dX8_puts_178 : decode cX8_puts 178 = .ok (.getfield 7, 3) := by decide +kernel
theorem dX8_puts_181 : decode cX8_puts 181 = .ok (.iconst 2, 1) := by decide +kernel
theorem dX8_puts_182 : decode cX8_puts 182 = .ok (.dup2, 1) := by decide +kernel
theorem dX8_puts_183 : decode cX8_puts 183 = .ok (.iaload, 1) := by decide +kernel
theorem dX8_puts_184 : decode cX8_puts 184 = .ok (.iconst 1, 1) := by decide +kernel
theorem dX8_puts_185 : decode cX8_puts 185 = .ok (.iadd, 1) := by decide +kernel
theorem dX8_puts_186 : decode cX8_puts 186 = .ok (.iastore, 1) := by decide +kernel
theorem dX8_puts_187 : decode cX8_puts 187 = .ok (.iload 7, 2) := by decide +kernel
theorem dX8_puts_189 : decode cX8_puts 189 = .ok (.ireturn, 1) := by decide +kernel
theorem dX8_adds_0 : decode cX8_adds 0 = .ok (.aload_n 0, 1) := by decide +kernel
theorem dX8_adds_1 : decode cX8_adds 1 = .ok (.iload_n 1, 1) := by decide +kernel
theorem dX8_adds_2 : decode cX8_adds 2 = .ok (.iload_n 2, 1) := by decide +kernel
theorem dX8_adds_3 : decode cX8_adds 3 = .ok (.iload_n 3, 1) := by decide +kernel
theorem dX8_adds_4 : decode cX8_adds 4 = .ok (.iconst 1, 1) := by decide +kernel
theorem dX8_adds_5 : decode cX8_adds 5 = .ok (.if_icmp .ne 7, 3) := by decide +kernel
theorem dX8_adds_8 : decode cX8_adds 8 = .ok (.iconst 1, 1) := by decide +kernel
theorem dX8_adds_9 : decode cX8_adds 9 = .ok (.goto 5, 3) := by decide +kernel
theorem dX8_adds_12 : decode cX8_adds 12 = .ok (.iload 4, 2) := by decide +kernel
theorem dX8_adds_14 : decode cX8_adds 14 = .ok (.invokevirtual 47, 3) := by decide +kernel
theorem dX8_adds_17 : decode cX8_adds 17 = .ok (.ifCond .ne 7, 3) := by decide +kernel
theorem dX8_adds_20 : decode cX8_adds 20 = .ok (.sipush (-1002), 3) := by decide +kernel
theorem dX8_adds_23 : decode cX8_adds 23 = .ok (.ireturn, 1) := by decide +kernel
theorem dX8_adds_24 : decode cX8_adds 24 = .ok (.aload_n 0, 1) := by decide +kernel
theorem dX8_adds_25 : decode cX8_adds 25 = .ok (.getfield 7, 3) := by decide +kernel
theorem dX8_adds_28 : decode cX8_adds 28 = .ok (.iconst 2, 1) := by decide +kernel
theorem dX8_adds_29 : decode cX8_adds 29 = .ok (.iaload, 1) := by decide +kernel
theorem dX8_adds_30 : decode cX8_adds 30 = .ok (.bipush 60, 2) := by decide +kernel
theorem dX8_adds_32 : decode cX8_adds 32 = .ok (.if_icmp .ne 7, 3) := by decide +kernel
theorem dX8_adds_35 : decode cX8_adds 35 = .ok (.sipush (-1003), 3) := by decide +kernel
theorem dX8_adds_38 : decode cX8_adds 38 = .ok (.ireturn, 1) := by decide +kernel
theorem dX8_adds_39 : decode cX8_adds 39 = .ok (.aload_n 0, 1) := by decide +kernel
theorem dX8_adds_40 : decode cX8_adds 40 = .ok (.invokevirtual 50, 3) := by decide +kernel
theorem dX8_adds_43 : decode cX8_adds 43 = .ok (.aload_n 0, 1) := by decide +kernel
theorem dX8_adds_44 : decode cX8_adds 44 = .ok (.iload_n 1, 1) := by decide +kernel
theorem dX8_adds_45 : decode cX8_adds 45 = .ok (.iload_n 2, 1) := by decide +kernel
theorem dX8_adds_46 : decode cX8_adds 46 = .ok (.iload_n 3, 1) := by decide +kernel
theorem dX8_adds_47 : decode cX8_adds 47 = .ok (.iload 4, 2) := by decide +kernel
theorem dX8_adds_49 : decode cX8_adds 49 = .ok (.iload 5, 2) := by decide +kernel
theorem dX8_adds_51 : decode cX8_adds 51 = .ok (.iload 6, 2) := by decide +kernel
theorem dX8_adds_53 : decode cX8_adds 53 = .ok (.invokevirtual 53, 3) := by decide +kernel
theorem dX8_adds_56 : decode cX8_adds 56 = .ok (.ireturn, 1) := by decide +kernel
theorem dX8_isSpan_0 : decode cX8_isSpan 0 = .ok (.aload_n 0, 1) := by decide +kernel
theorem dX8_isSpan_1 : decode cX8_isSpan 1 = .ok (.iload_n 1, 1) := by decide +kernel
theorem dX8_isSpan_2 : decode cX8_isSpan 2 = .ok (.invokevirtual 57, 3) := by decide +kernel
theorem dX8_isSpan_5 : decode cX8_isSpan 5 = .ok (.ifCond .eq 23, 3) := by decide +kernel
theorem dX8_isSpan_8 : decode cX8_isSpan 8 = .ok (.iload_n 2, 1) := by decide +kernel
theorem dX8_isSpan_9 : decode cX8_isSpan 9 = .ok (.iconst 1, 1) := by decide +kernel
theorem dX8_isSpan_10 : decode cX8_isSpan 10 = .ok (.aload_n 0, 1) := by decide +kernel
theorem dX8_isSpan_11 : decode cX8_isSpan 11 = .ok (.getfield 7, 3) := by decide +kernel
theorem dX8_isSpan_14 : decode cX8_isSpan 14 = .ok (.iconst 0, 1) := by decide +kernel
theorem dX8_isSpan_15 : decode cX8_isSpan 15 = .ok (.iaload, 1) := by decide +kernel
theorem dX8_isSpan_16 : decode cX8_isSpan 16 = .ok (.iload_n 1, 1) := by decide +kernel
theorem dX8_isSpan_17 : decode cX8_isSpan 17 = .ok (.isub, 1) := by decide +kernel
theorem dX8_isSpan_18 : decode cX8_isSpan 18 = .ok (.invokestatic 32, 3) := by decide +kernel
theorem dX8_isSpan_21 : decode cX8_isSpan 21 = .ok (.ifCond .eq 7, 3) := by decide +kernel
theorem dX8_isSpan_24 : decode cX8_isSpan 24 = .ok (.iconst 1, 1) := by decide +kernel
theorem dX8_isSpan_25 : decode cX8_isSpan 25 = .ok (.goto 4, 3) := by decide +kernel
theorem dX8_isSpan_28 : decode cX8_isSpan 28 = .ok (.iconst 0, 1) := by decide +kernel
theorem dX8_isSpan_29 : decode cX8_isSpan 29 = .ok (.ireturn, 1) := by decide +kernel
theorem dX8_reset_0 : decode cX8_reset 0 = .ok (.iload_n 1, 1) := by decide +kernel
theorem dX8_reset_1 : decode cX8_reset 1 = .ok (.iconst 4, 1) := by decide +kernel
theorem dX8_reset_2 : decode cX8_reset 2 = .ok (.bipush 48, 2) := by decide +kernel
theorem dX8_reset_4 : decode cX8_reset 4 = .ok (.invokestatic 32, 3) := by decide +kernel
theorem dX8_reset_7 : decode cX8_reset 7 = .ok (.ifCond .ne 7, 3) := by decide +kernel
theorem dX8_reset_10 : decode cX8_reset 10 = .ok (.sipush (-1001), 3) := by decide +kernel
theorem dX8_reset_13 : decode cX8_reset 13 = .ok (.ireturn, 1) := by decide +kernel
theorem dX8_reset_14 : decode cX8_reset 14 = .ok (.aload_n 0, 1) := by decide +kernel
theorem dX8_reset_15 : decode cX8_reset 15 = .ok (.invokevirtual 50, 3) := by decide +kernel
theorem dX8_reset_18 : decode cX8_reset 18 = .ok (.aload_n 0, 1) := by decide +kernel
theorem dX8_reset_19 : decode cX8_reset 19 = .ok (.getfield 7, 3) := by decide +kernel
theorem dX8_reset_22 : decode cX8_reset 22 = .ok (.iconst 0, 1) := by decide +kernel
theorem dX8_reset_23 : decode cX8_reset 23 = .ok (.iaload, 1) := by decide +kernel
theorem dX8_reset_24 : decode cX8_reset 24 = .ok (.istore_n 2, 1) := by decide +kernel
theorem dX8_reset_25 : decode cX8_reset 25 = .ok (.aload_n 0, 1) := by decide +kernel
theorem dX8_reset_26 : decode cX8_reset 26 = .ok (.getfield 7, 3) := by decide +kernel
theorem dX8_reset_29 : decode cX8_reset 29 = .ok (.iconst 0, 1) := by decide +kernel
theorem dX8_reset_30 : decode cX8_reset 30 = .ok (.iload_n 1, 1) := by decide +kernel
theorem dX8_reset_31 : decode cX8_reset 31 = .ok (.iastore, 1) := by decide +kernel
theorem dX8_reset_32 : decode cX8_reset 32 = .ok (.aload_n 0, 1) := by decide +kernel
theorem dX8_reset_33 : decode cX8_reset 33 = .ok (.getfield 7, 3) := by decide +kernel
theorem dX8_reset_36 : decode cX8_reset 36 = .ok (.iconst 2, 1) := by decide +kernel
theorem dX8_reset_37 : decode cX8_reset 37 = .ok (.iconst 0, 1) := by decide +kernel
theorem dX8_reset_38 : decode cX8_reset 38 = .ok (.iastore, 1) := by decide +kernel
theorem dX8_reset_39 : decode cX8_reset 39 = .ok (.iload_n 2, 1) := by decide +kernel
theorem dX8_reset_40 : decode cX8_reset 40 = .ok (.ireturn, 1) := by decide +kernel
theorem dX8_addMove_0 : decode cX8_addMove 0 = .ok (.iload_n 1, 1) := by decide +kernel
theorem dX8_addMove_1 : decode cX8_addMove 1 = .ok (.iconst 0, 1) := by decide +kernel
theorem dX8_addMove_2 : decode cX8_addMove 2 = .ok (.iconst 5, 1) := by decide +kernel
theorem dX8_addMove_3 : decode cX8_addMove 3 = .ok (.invokestatic 32, 3) := by decide +kernel
theorem dX8_addMove_6 : decode cX8_addMove 6 = .ok (.ifCond .eq 33, 3) := by decide +kernel
theorem dX8_addMove_9 : decode cX8_addMove 9 = .ok (.aload_n 0, 1) := by decide +kernel
theorem dX8_addMove_10 : decode cX8_addMove 10 = .ok (.iload_n 2, 1) := by decide +kernel
theorem dX8_addMove_11 : decode cX8_addMove 11 = .ok (.iload_n 3, 1) := by decide +kernel
theorem dX8_addMove_12 : decode cX8_addMove 12 = .ok (.invokevirtual 61, 3) := by decide +kernel
theorem dX8_addMove_15 : decode cX8_addMove 15 = .ok (.ifCond .eq 24, 3) := by decide +kernel
theorem dX8_addMove_18 : decode cX8_addMove 18 = .ok (.iload 4, 2) := by decide +kernel
theorem dX8_addMove_20 : decode cX8_addMove 20 = .ok (.iconst 0, 1) := by decide +kernel
theorem dX8_addMove_21 : decode cX8_addMove 21 = .ok (.bipush 8, 2) := by decide +kernel
theorem dX8_addMove_23 : decode cX8_addMove 23 = .ok (.invokestatic 32, 3) := by decide +kernel
theorem dX8_addMove_26 : decode cX8_addMove 26 = .ok (.ifCond .eq 13, 3) := by decide +kernel
theorem dX8_addMove_29 : decode cX8_addMove 29 = .ok (.iload 5, 2) := by decide +kernel
theorem dX8_addMove_31 : decode cX8_addMove 31 = .ok (.iconst 0, 1) := by decide +kernel
theorem dX8_addMove_32 : decode cX8_addMove 32 = .ok (.iconst 2, 1) := by decide +kernel
theorem dX8_addMove_33 : decode cX8_addMove 33 = .ok (.invokestatic 32, 3) := by decide +kernel
theorem dX8_addMove_36 : decode cX8_addMove 36 = .ok (.ifCond .ne 7, 3) := by decide +kernel
theorem dX8_addMove_39 : decode cX8_addMove 39 = .ok (.sipush (-1001), 3) := by decide +kernel
theorem dX8_addMove_42 : decode cX8_addMove 42 = .ok (.ireturn, 1) := by decide +kernel
theorem dX8_addMove_43 : decode cX8_addMove 43 = .ok (.aload_n 0, 1) := by decide +kernel
theorem dX8_addMove_44 : decode cX8_addMove 44 = .ok (.iload_n 1, 1) := by decide +kernel
theorem dX8_addMove_45 : decode cX8_addMove 45 = .ok (.iload_n 2, 1) := by decide +kernel
theorem dX8_addMove_46 : decode cX8_addMove 46 = .ok (.iconst 0, 1) := by decide +kernel
theorem dX8_addMove_47 : decode cX8_addMove 47 = .ok (.iload_n 3, 1) := by decide +kernel
theorem dX8_addMove_48 : decode cX8_addMove 48 = .ok (.iload 4, 2) := by decide +kernel
theorem dX8_addMove_50 : decode cX8_addMove 50 = .ok (.iload 5, 2) := by decide +kernel
theorem dX8_addMove_52 : decode cX8_addMove 52 = .ok (.invokevirtual 65, 3) := by decide +kernel
theorem dX8_addMove_55 : decode cX8_addMove 55 = .ok (.ireturn, 1) := by decide +kernel
theorem dX8_addHold_0 : decode cX8_addHold 0 = .ok (.iload_n 1, 1) := by decide +kernel
theorem dX8_addHold_1 : decode cX8_addHold 1 = .ok (.invokestatic 68, 3) := by decide +kernel
theorem dX8_addHold_4 : decode cX8_addHold 4 = .ok (.ifCond .eq 24, 3) := by decide +kernel
theorem dX8_addHold_7 : decode cX8_addHold 7 = .ok (.aload_n 0, 1) := by decide +kernel
theorem dX8_addHold_8 : decode cX8_addHold 8 = .ok (.iload_n 2, 1) := by decide +kernel
theorem dX8_addHold_9 : decode cX8_addHold 9 = .ok (.invokevirtual 57, 3) := by decide +kernel
theorem dX8_addHold_12 : decode cX8_addHold 12 = .ok (.ifCond .eq 16, 3) := by decide +kernel
theorem dX8_addHold_15 : decode cX8_addHold 15 = .ok (.aload_n 0, 1) := by decide +kernel
theorem dX8_addHold_16 : decode cX8_addHold 16 = .ok (.iload_n 1, 1) := by decide +kernel
theorem dX8_addHold_17 : decode cX8_addHold 17 = .ok (.iload_n 2, 1) := by decide +kernel
theorem dX8_addHold_18 : decode cX8_addHold 18 = .ok (.iconst 1, 1) := by decide +kernel
theorem dX8_addHold_19 : decode cX8_addHold 19 = .ok (.iconst 0, 1) := by decide +kernel
theorem dX8_addHold_20 : decode cX8_addHold 20 = .ok (.iconst 0, 1) := by decide +kernel
theorem dX8_addHold_21 : decode cX8_addHold 21 = .ok (.iconst 0, 1) := by decide +kernel
theorem dX8_addHold_22 : decode cX8_addHold 22 = .ok (.invokevirtual 65, 3) := by decide +kernel
theorem dX8_addHold_25 : decode cX8_addHold 25 = .ok (.goto 6, 3) := by decide +kernel
theorem dX8_addHold_28 : decode cX8_addHold 28 = .ok (.sipush (-1001), 3) := by decide +kernel
theorem dX8_addHold_31 : decode cX8_addHold 31 = .ok (.ireturn, 1) := by decide +kernel
theorem dX8_addTurn_0 : decode cX8_addTurn 0 = .ok (.aload_n 0, 1) := by decide +kernel
theorem dX8_addTurn_1 : decode cX8_addTurn 1 = .ok (.iload_n 1, 1) := by decide +kernel
theorem dX8_addTurn_2 : decode cX8_addTurn 2 = .ok (.iload_n 2, 1) := by decide +kernel
theorem dX8_addTurn_3 : decode cX8_addTurn 3 = .ok (.invokevirtual 61, 3) := by decide +kernel
theorem dX8_addTurn_6 : decode cX8_addTurn 6 = .ok (.ifCond .eq 32, 3) := by decide +kernel
theorem dX8_addTurn_9 : decode cX8_addTurn 9 = .ok (.iload_n 3, 1) := by decide +kernel
theorem dX8_addTurn_10 : decode cX8_addTurn 10 = .ok (.bipush (-8), 2) := by decide +kernel
theorem dX8_addTurn_12 : decode cX8_addTurn 12 = .ok (.bipush 8, 2) := by decide +kernel
theorem dX8_addTurn_14 : decode cX8_addTurn 14 = .ok (.invokestatic 32, 3) := by decide +kernel
theorem dX8_addTurn_17 : decode cX8_addTurn 17 = .ok (.ifCond .eq 21, 3) := by decide +kernel
theorem dX8_addTurn_20 : decode cX8_addTurn 20 = .ok (.iload_n 3, 1) := by decide +kernel
theorem dX8_addTurn_21 : decode cX8_addTurn 21 = .ok (.ifCond .eq 17, 3) := by decide +kernel
theorem dX8_addTurn_24 : decode cX8_addTurn 24 = .ok (.aload_n 0, 1) := by decide +kernel
theorem dX8_addTurn_25 : decode cX8_addTurn 25 = .ok (.bipush 6, 2) := by decide +kernel
theorem dX8_addTurn_27 : decode cX8_addTurn 27 = .ok (.iload_n 1, 1) := by decide +kernel
theorem dX8_addTurn_28 : decode cX8_addTurn 28 = .ok (.iconst 2, 1) := by decide +kernel
theorem dX8_addTurn_29 : decode cX8_addTurn 29 = .ok (.iload_n 2, 1) := by decide +kernel
theorem dX8_addTurn_30 : decode cX8_addTurn 30 = .ok (.iload_n 3, 1) := by decide +kernel
theorem dX8_addTurn_31 : decode cX8_addTurn 31 = .ok (.iconst 0, 1) := by decide +kernel
theorem dX8_addTurn_32 : decode cX8_addTurn 32 = .ok (.invokevirtual 65, 3) := by decide +kernel
theorem dX8_addTurn_35 : decode cX8_addTurn 35 = .ok (.goto 6, 3) := by decide +kernel
theorem dX8_addTurn_38 : decode cX8_addTurn 38 = .ok (.sipush (-1001), 3) := by decide +kernel
theorem dX8_addTurn_41 : decode cX8_addTurn 41 = .ok (.ireturn, 1) := by decide +kernel
theorem dX8_addRelease_0 : decode cX8_addRelease 0 = .ok (.iload_n 1, 1) := by decide +kernel
theorem dX8_addRelease_1 : decode cX8_addRelease 1 = .ok (.invokestatic 68, 3) := by decide +kernel
theorem dX8_addRelease_4 : decode cX8_addRelease 4 = .ok (.ifCond .eq 25, 3) := by decide +kernel
theorem dX8_addRelease_7 : decode cX8_addRelease 7 = .ok (.aload_n 0, 1) := by decide +kernel
theorem dX8_addRelease_8 : decode cX8_addRelease 8 = .ok (.iload_n 2, 1) := by decide +kernel
theorem dX8_addRelease_9 : decode cX8_addRelease 9 = .ok (.iload_n 3, 1) := by decide +kernel
theorem dX8_addRelease_10 : decode cX8_addRelease 10 = .ok (.invokevirtual 61, 3) := by decide +kernel
theorem dX8_addRelease_13 : decode cX8_addRelease 13 = .ok (.ifCond .eq 16, 3) := by decide +kernel
theorem dX8_addRelease_16 : decode cX8_addRelease 16 = .ok (.aload_n 0, 1) := by decide +kernel
theorem dX8_addRelease_17 : decode cX8_addRelease 17 = .ok (.iload_n 1, 1) := by decide +kernel
theorem dX8_addRelease_18 : decode cX8_addRelease 18 = .ok (.iload_n 2, 1) := by decide +kernel
theorem dX8_addRelease_19 : decode cX8_addRelease 19 = .ok (.iconst 3, 1) := by decide +kernel
theorem dX8_addRelease_20 : decode cX8_addRelease 20 = .ok (.iload_n 3, 1) := by decide +kernel
theorem dX8_addRelease_21 : decode cX8_addRelease 21 = .ok (.iconst 0, 1) := by decide +kernel
theorem dX8_addRelease_22 : decode cX8_addRelease 22 = .ok (.iconst 0, 1) := by decide +kernel
theorem dX8_addRelease_23 : decode cX8_addRelease 23 = .ok (.invokevirtual 65, 3) := by decide +kernel
theorem dX8_addRelease_26 : decode cX8_addRelease 26 = .ok (.goto 6, 3) := by decide +kernel
theorem dX8_addRelease_29 : decode cX8_addRelease 29 = .ok (.sipush (-1001), 3) := by decide +kernel
theorem dX8_addRelease_32 : decode cX8_addRelease 32 = .ok (.ireturn, 1) := by decide +kernel
theorem dX8_removeSign_0 : decode cX8_removeSign 0 = .ok (.aload_n 0, 1) := by decide +kernel
theorem dX8_removeSign_1 : decode cX8_removeSign 1 = .ok (.iload_n 1, 1) := by decide +kernel
theorem dX8_removeSign_2 : decode cX8_removeSign 2 = .ok (.invokevirtual 71, 3) := by decide +kernel
theorem dX8_removeSign_5 : decode cX8_removeSign 5 = .ok (.ifCond .ne 7, 3) := by decide +kernel
theorem dX8_removeSign_8 : decode cX8_removeSign 8 = .ok (.sipush (-1001), 3) := by decide +kernel
theorem dX8_removeSign_11 : decode cX8_removeSign 11 = .ok (.ireturn, 1) := by decide +kernel
theorem dX8_removeSign_12 : decode cX8_removeSign 12 = .ok (.aload_n 0, 1) := by decide +kernel
theorem dX8_removeSign_13 : decode cX8_removeSign 13 = .ok (.invokevirtual 50, 3) := by decide +kernel
theorem dX8_removeSign_16 : decode cX8_removeSign 16 = .ok (.aload_n 0, 1) := by decide +kernel
theorem dX8_removeSign_17 : decode cX8_removeSign 17 = .ok (.getfield 7, 3) := by decide +kernel
theorem dX8_removeSign_20 : decode cX8_removeSign 20 = .ok (.iconst 2, 1) := by decide +kernel
theorem dX8_removeSign_21 : decode cX8_removeSign 21 = .ok (.dup2, 1) := by decide +kernel
theorem dX8_removeSign_22 : decode cX8_removeSign 22 = .ok (.iaload, 1) := by decide +kernel
theorem dX8_removeSign_23 : decode cX8_removeSign 23 = .ok (.iconst 1, 1) := by decide +kernel
theorem dX8_removeSign_24 : decode cX8_removeSign 24 = .ok (.isub, 1) := by decide +kernel
theorem dX8_removeSign_25 : decode cX8_removeSign 25 = .ok (.iastore, 1) := by decide +kernel
theorem dX8_removeSign_26 : decode cX8_removeSign 26 = .ok (.iload_n 1, 1) := by decide +kernel
theorem dX8_removeSign_27 : decode cX8_removeSign 27 = .ok (.istore_n 2, 1) := by decide +kernel
theorem dX8_removeSign_28 : decode cX8_removeSign 28 = .ok (.iload_n 2, 1) := by decide +kernel
theorem dX8_removeSign_29 : decode cX8_removeSign 29 = .ok (.aload_n 0, 1) := by decide +kernel
theorem dX8_removeSign_30 : decode cX8_removeSign 30 = .ok (.getfield 7, 3) := by decide +kernel
theorem dX8_removeSign_33 : decode cX8_removeSign 33 = .ok (.iconst 2, 1) := by decide +kernel
theorem dX8_removeSign_34 : decode cX8_removeSign 34 = .ok (.iaload, 1) := by decide +kernel
theorem dX8_removeSign_35 : decode cX8_removeSign 35 = .ok (.if_icmp .ge 42, 3) := by decide +kernel
theorem dX8_removeSign_38 : decode cX8_removeSign 38 = .ok (.iconst 3, 1) := by decide +kernel
theorem dX8_removeSign_39 : decode cX8_removeSign 39 = .ok (.istore_n 3, 1) := by decide +kernel
theorem dX8_removeSign_40 : decode cX8_removeSign 40 = .ok (.iload_n 3, 1) := by decide +kernel
theorem dX8_removeSign_41 : decode cX8_removeSign 41 = .ok (.sipush 723, 3) := by decide +kernel
theorem dX8_removeSign_44 : decode cX8_removeSign 44 = .ok (.if_icmp .ge 27, 3) := by decide +kernel
theorem dX8_removeSign_47 : decode cX8_removeSign 47 = .ok (.aload_n 0, 1) := by decide +kernel
theorem dX8_removeSign_48 : decode cX8_removeSign 48 = .ok (.getfield 7, 3) := by decide +kernel
theorem dX8_removeSign_51 : decode cX8_removeSign 51 = .ok (.iload_n 3, 1) := by decide +kernel
theorem dX8_removeSign_52 : decode cX8_removeSign 52 = .ok (.iload_n 2, 1) := by decide +kernel
theorem dX8_removeSign_53 : decode cX8_removeSign 53 = .ok (.iadd, 1) := by decide +kernel
theorem dX8_removeSign_54 : decode cX8_removeSign 54 = .ok (.aload_n 0, 1) := by decide +kernel
theorem dX8_removeSign_55 : decode cX8_removeSign 55 = .ok (.getfield 7, 3) := by decide +kernel
theorem dX8_removeSign_58 : decode cX8_removeSign 58 = .ok (.iload_n 3, 1) := by decide +kernel
theorem dX8_removeSign_59 : decode cX8_removeSign 59 = .ok (.iload_n 2, 1) := by decide +kernel
theorem dX8_removeSign_60 : decode cX8_removeSign 60 = .ok (.iadd, 1) := by decide +kernel
theorem dX8_removeSign_61 : decode cX8_removeSign 61 = .ok (.iconst 1, 1) := by decide +kernel
theorem dX8_removeSign_62 : decode cX8_removeSign 62 = .ok (.iadd, 1) := by decide +kernel
theorem dX8_removeSign_63 : decode cX8_removeSign 63 = .ok (.iaload, 1) := by decide +kernel
theorem dX8_removeSign_64 : decode cX8_removeSign 64 = .ok (.iastore, 1) := by decide +kernel
theorem dX8_removeSign_65 : decode cX8_removeSign 65 = .ok (.iinc 3 120, 3) := by decide +kernel
theorem dX8_removeSign_68 : decode cX8_removeSign 68 = .ok (.goto (-28), 3) := by decide +kernel
theorem dX8_removeSign_71 : decode cX8_removeSign 71 = .ok (.iinc 2 1, 3) := by decide +kernel
theorem dX8_removeSign_74 : decode cX8_removeSign 74 = .ok (.goto (-46), 3) := by decide +kernel
theorem dX8_removeSign_77 : decode cX8_removeSign 77 = .ok (.aload_n 0, 1) := by decide +kernel
theorem dX8_removeSign_78 : decode cX8_removeSign 78 = .ok (.getfield 7, 3) := by decide +kernel
theorem dX8_removeSign_81 : decode cX8_removeSign 81 = .ok (.iconst 2, 1) := by decide +kernel
theorem dX8_removeSign_82 : decode cX8_removeSign 82 = .ok (.iaload, 1) := by decide +kernel
theorem dX8_removeSign_83 : decode cX8_removeSign 83 = .ok (.ireturn, 1) := by decide +kernel
theorem dX8_turnedColumn_0 : decode cX8_turnedColumn 0 = .ok (.iload_n 0, 1) := by decide +kernel
theorem dX8_turnedColumn_1 : decode cX8_turnedColumn 1 = .ok (.bipush 6, 2) := by decide +kernel
theorem dX8_turnedColumn_3 : decode cX8_turnedColumn 3 = .ok (.if_icmp .ne 8, 3) := by decide +kernel
theorem dX8_turnedColumn_6 : decode cX8_turnedColumn 6 = .ok (.bipush 6, 2) := by decide +kernel
theorem dX8_turnedColumn_8 : decode cX8_turnedColumn 8 = .ok (.goto 18, 3) := by decide +kernel
theorem dX8_turnedColumn_11 : decode cX8_turnedColumn 11 = .ok (.iload_n 0, 1) := by decide +kernel
theorem dX8_turnedColumn_12 : decode cX8_turnedColumn 12 = .ok (.iconst 2, 1) := by decide +kernel
theorem dX8_turnedColumn_13 : decode cX8_turnedColumn 13 = .ok (.irem, 1) := by decide +kernel
theorem dX8_turnedColumn_14 : decode cX8_turnedColumn 14 = .ok (.ifCond .ne 9, 3) := by decide +kernel
theorem dX8_turnedColumn_17 : decode cX8_turnedColumn 17 = .ok (.iload_n 0, 1) := by decide +kernel
theorem dX8_turnedColumn_18 : decode cX8_turnedColumn 18 = .ok (.iconst 1, 1) := by decide +kernel
theorem dX8_turnedColumn_19 : decode cX8_turnedColumn 19 = .ok (.iadd, 1) := by decide +kernel
theorem dX8_turnedColumn_20 : decode cX8_turnedColumn 20 = .ok (.goto 6, 3) := by decide +kernel
theorem dX8_turnedColumn_23 : decode cX8_turnedColumn 23 = .ok (.iload_n 0, 1) := by decide +kernel
theorem dX8_turnedColumn_24 : decode cX8_turnedColumn 24 = .ok (.iconst 1, 1) := by decide +kernel
theorem dX8_turnedColumn_25 : decode cX8_turnedColumn 25 = .ok (.isub, 1) := by decide +kernel
theorem dX8_turnedColumn_26 : decode cX8_turnedColumn 26 = .ok (.ireturn, 1) := by decide +kernel
theorem dX8_turnedWay_0 : decode cX8_turnedWay 0 = .ok (.iload_n 0, 1) := by decide +kernel
theorem dX8_turnedWay_1 : decode cX8_turnedWay 1 = .ok (.iconst 2, 1) := by decide +kernel
theorem dX8_turnedWay_2 : decode cX8_turnedWay 2 = .ok (.if_icmp .ne 8, 3) := by decide +kernel
theorem dX8_turnedWay_5 : decode cX8_turnedWay 5 = .ok (.iload_n 1, 1) := by decide +kernel
theorem dX8_turnedWay_6 : decode cX8_turnedWay 6 = .ok (.ineg, 1) := by decide +kernel
theorem dX8_turnedWay_7 : decode cX8_turnedWay 7 = .ok (.goto 16, 3) := by decide +kernel
theorem dX8_turnedWay_10 : decode cX8_turnedWay 10 = .ok (.iload_n 1, 1) := by decide +kernel
theorem dX8_turnedWay_11 : decode cX8_turnedWay 11 = .ok (.iconst 1, 1) := by decide +kernel
theorem dX8_turnedWay_12 : decode cX8_turnedWay 12 = .ok (.if_icmp .le 10, 3) := by decide +kernel
theorem dX8_turnedWay_15 : decode cX8_turnedWay 15 = .ok (.bipush 10, 2) := by decide +kernel
theorem dX8_turnedWay_17 : decode cX8_turnedWay 17 = .ok (.iload_n 1, 1) := by decide +kernel
theorem dX8_turnedWay_18 : decode cX8_turnedWay 18 = .ok (.isub, 1) := by decide +kernel
theorem dX8_turnedWay_19 : decode cX8_turnedWay 19 = .ok (.goto 4, 3) := by decide +kernel
theorem dX8_turnedWay_22 : decode cX8_turnedWay 22 = .ok (.iload_n 1, 1) := by decide +kernel
theorem dX8_turnedWay_23 : decode cX8_turnedWay 23 = .ok (.ireturn, 1) := by decide +kernel
theorem dX8_collects_0 : decode cX8_collects 0 = .ok (.iconst 0, 1) := by decide +kernel
theorem dX8_collects_1 : decode cX8_collects 1 = .ok (.istore 6, 2) := by decide +kernel
theorem dX8_collects_3 : decode cX8_collects 3 = .ok (.iconst 0, 1) := by decide +kernel
theorem dX8_collects_4 : decode cX8_collects 4 = .ok (.istore 7, 2) := by decide +kernel
theorem dX8_collects_6 : decode cX8_collects 6 = .ok (.iload 7, 2) := by decide +kernel
theorem dX8_collects_8 : decode cX8_collects 8 = .ok (.aload_n 0, 1) := by decide +kernel
theorem dX8_collects_9 : decode cX8_collects 9 = .ok (.getfield 7, 3) := by decide +kernel
theorem dX8_collects_12 : decode cX8_collects 12 = .ok (.iconst 2, 1) := by decide +kernel
theorem dX8_collects_13 : decode cX8_collects 13 = .ok (.iaload, 1) := by decide +kernel
theorem dX8_collects_14 : decode cX8_collects 14 = .ok (.if_icmp .ge 397, 3) := by decide +kernel
theorem dX8_collects_17 : decode cX8_collects 17 = .ok (.aload_n 0, 1) := by decide +kernel
theorem dX8_collects_18 : decode cX8_collects 18 = .ok (.getfield 7, 3) := by decide +kernel
theorem dX8_collects_21 : decode cX8_collects 21 = .ok (.sipush 243, 3) := by decide +kernel
theorem dX8_collects_24 : decode cX8_collects 24 = .ok (.iload 7, 2) := by decide +kernel
theorem dX8_collects_26 : decode cX8_collects 26 = .ok (.iadd, 1) := by decide +kernel
theorem dX8_collects_27 : decode cX8_collects 27 = .ok (.iaload, 1) := by decide +kernel
theorem dX8_collects_28 : decode cX8_collects 28 = .ok (.istore 8, 2) := by decide +kernel
theorem dX8_collects_30 : decode cX8_collects 30 = .ok (.aload_n 0, 1) := by decide +kernel
theorem dX8_collects_31 : decode cX8_collects 31 = .ok (.getfield 7, 3) := by decide +kernel
theorem dX8_collects_34 : decode cX8_collects 34 = .ok (.bipush 123, 2) := by decide +kernel
theorem dX8_collects_36 : decode cX8_collects 36 = .ok (.iload 7, 2) := by decide +kernel
theorem dX8_collects_38 : decode cX8_collects 38 = .ok (.iadd, 1) := by decide +kernel
theorem dX8_collects_39 : decode cX8_collects 39 = .ok (.iaload, 1) := by decide +kernel
theorem dX8_collects_40 : decode cX8_collects 40 = .ok (.iload_n 1, 1) := by decide +kernel
theorem dX8_collects_41 : decode cX8_collects 41 = .ok (.iload_n 2, 1) := by decide +kernel
theorem dX8_collects_42 : decode cX8_collects 42 = .ok (.iconst 1, 1) := by decide +kernel
theorem dX8_collects_43 : decode cX8_collects 43 = .ok (.isub, 1) := by decide +kernel
theorem dX8_collects_44 : decode cX8_collects 44 = .ok (.invokestatic 32, 3) := by decide +kernel
theorem dX8_collects_47 : decode cX8_collects 47 = .ok (.ifCond .eq 358, 3) := by decide +kernel
theorem dX8_collects_50 : decode cX8_collects 50 = .ok (.iload 8, 2) := by decide +kernel
theorem dX8_collects_52 : decode cX8_collects 52 = .ok (.iconst 1, 1) := by decide +kernel
theorem dX8_collects_53 : decode cX8_collects 53 = .ok (.if_icmp .eq 13, 3) := by decide +kernel
theorem dX8_collects_56 : decode cX8_collects 56 = .ok (.aload_n 0, 1) := by decide +kernel
theorem dX8_collects_57 : decode cX8_collects 57 = .ok (.iload 7, 2) := by decide +kernel
theorem dX8_collects_59 : decode cX8_collects 59 = .ok (.invokevirtual 74, 3) := by decide +kernel
theorem dX8_collects_62 : decode cX8_collects 62 = .ok (.iload_n 2, 1) := by decide +kernel
theorem dX8_collects_63 : decode cX8_collects 63 = .ok (.if_icmp .gt 342, 3) := by decide +kernel
theorem dX8_collects_66 : decode cX8_collects 66 = .ok (.iload 8, 2) := by decide +kernel
theorem dX8_collects_68 : decode cX8_collects 68 = .ok (.iconst 1, 1) := by decide +kernel
theorem dX8_collects_69 : decode cX8_collects 69 = .ok (.if_icmp .ne 18, 3) := by decide +kernel
theorem dX8_collects_72 : decode cX8_collects 72 = .ok (.aload_n 0, 1) := by decide +kernel
theorem dX8_collects_73 : decode cX8_collects 73 = .ok (.getfield 7, 3) := by decide +kernel
theorem dX8_collects_76 : decode cX8_collects 76 = .ok (.bipush 123, 2) := by decide +kernel
theorem dX8_collects_78 : decode cX8_collects 78 = .ok (.iload 7, 2) := by decide +kernel
theorem dX8_collects_80 : decode cX8_collects 80 = .ok (.iadd, 1) := by decide +kernel
theorem dX8_collects_81 : decode cX8_collects 81 = .ok (.iaload, 1) := by decide +kernel
theorem dX8_collects_82 : decode cX8_collects 82 = .ok (.iconst 1, 1) := by decide +kernel
theorem dX8_collects_83 : decode cX8_collects 83 = .ok (.iadd, 1) := by decide +kernel
theorem dX8_collects_84 : decode cX8_collects 84 = .ok (.goto 9, 3) := by decide +kernel
theorem dX8_collects_87 : decode cX8_collects 87 = .ok (.aload_n 0, 1) := by decide +kernel
theorem dX8_collects_88 : decode cX8_collects 88 = .ok (.iload 7, 2) := by decide +kernel
theorem dX8_collects_90 : decode cX8_collects 90 = .ok (.invokevirtual 74, 3) := by decide +kernel
theorem dX8_collects_93 : decode cX8_collects 93 = .ok (.istore 9, 2) := by decide +kernel
theorem dX8_collects_95 : decode cX8_collects 95 = .ok (.iload 4, 2) := by decide +kernel
theorem dX8_collects_97 : decode cX8_collects 97 = .ok (.ifCond .eq 18, 3) := by decide +kernel
theorem dX8_collects_100 : decode cX8_collects 100 = .ok (.aload_n 0, 1) := by decide +kernel
theorem dX8_collects_101 : decode cX8_collects 101 = .ok (.getfield 7, 3) := by decide +kernel
theorem dX8_collects_104 : decode cX8_collects 104 = .ok (.iconst 3, 1) := by decide +kernel
theorem dX8_collects_105 : decode cX8_collects 105 = .ok (.iload 7, 2) := by decide +kernel
theorem dX8_collects_107 : decode cX8_collects 107 = .ok (.iadd, 1) := by decide +kernel
theorem dX8_collects_108 : decode cX8_collects 108 = .ok (.iaload, 1) := by decide +kernel
theorem dX8_collects_109 : decode cX8_collects 109 = .ok (.invokestatic 78, 3) := by decide +kernel
theorem dX8_collects_112 : decode cX8_collects 112 = .ok (.goto 12, 3) := by decide +kernel
theorem dX8_collects_115 : decode cX8_collects 115 = .ok (.aload_n 0, 1) := by decide +kernel
theorem dX8_collects_116 : decode cX8_collects 116 = .ok (.getfield 7, 3) := by decide +kernel
theorem dX8_collects_119 : decode cX8_collects 119 = .ok (.iconst 3, 1) := by decide +kernel
theorem dX8_collects_120 : decode cX8_collects 120 = .ok (.iload 7, 2) := by decide +kernel
theorem dX8_collects_122 : decode cX8_collects 122 = .ok (.iadd, 1) := by decide +kernel
theorem dX8_collects_123 : decode cX8_collects 123 = .ok (.iaload, 1) := by decide +kernel
theorem dX8_collects_124 : decode cX8_collects 124 = .ok (.istore 10, 2) := by decide +kernel
theorem dX8_collects_126 : decode cX8_collects 126 = .ok (.iload 5, 2) := by decide +kernel
theorem dX8_collects_128 : decode cX8_collects 128 = .ok (.ifCond .eq 12, 3) := by decide +kernel
theorem dX8_collects_131 : decode cX8_collects 131 = .ok (.iload_n 3, 1) := by decide +kernel
theorem dX8_collects_132 : decode cX8_collects 132 = .ok (.iload_n 2, 1) := by decide +kernel
theorem dX8_collects_133 : decode cX8_collects 133 = .ok (.iadd, 1) := by decide +kernel
theorem dX8_collects_134 : decode cX8_collects 134 = .ok (.iload 9, 2) := by decide +kernel
theorem dX8_collects_136 : decode cX8_collects 136 = .ok (.isub, 1) := by decide +kernel
theorem dX8_collects_137 : decode cX8_collects 137 = .ok (.goto 17, 3) := by decide +kernel
theorem dX8_collects_140 : decode cX8_collects 140 = .ok (.iload_n 3, 1) := by decide +kernel
theorem dX8_collects_141 : decode cX8_collects 141 = .ok (.aload_n 0, 1) := by decide +kernel
theorem dX8_collects_142 : decode cX8_collects 142 = .ok (.getfield 7, 3) := by decide +kernel
theorem dX8_collects_145 : decode cX8_collects 145 = .ok (.bipush 123, 2) := by decide +kernel
theorem dX8_collects_147 : decode cX8_collects 147 = .ok (.iload 7, 2) := by decide +kernel
theorem dX8_collects_149 : decode cX8_collects 149 = .ok (.iadd, 1) := by decide +kernel
theorem dX8_collects_150 : decode cX8_collects 150 = .ok (.iaload, 1) := by decide +kernel
theorem dX8_collects_151 : decode cX8_collects 151 = .ok (.iadd, 1) := by decide +kernel
theorem dX8_collects_152 : decode cX8_collects 152 = .ok (.iload_n 1, 1) := by decide +kernel
theorem dX8_collects_153 : decode cX8_collects 153 = .ok (.isub, 1) := by decide +kernel
theorem dX8_collects_154 : decode cX8_collects 154 = .ok (.istore 11, 2) := by decide +kernel
theorem dX8_collects_156 : decode cX8_collects 156 = .ok (.iload 4, 2) := by decide +kernel
theorem dX8_collects_158 : decode cX8_collects 158 = .ok (.ifCond .eq 22, 3) := by decide +kernel
theorem dX8_collects_161 : decode cX8_collects 161 = .ok (.iload 8, 2) := by decide +kernel
theorem dX8_collects_163 : decode cX8_collects 163 = .ok (.aload_n 0, 1) := by decide +kernel
theorem dX8_collects_164 : decode cX8_collects 164 = .ok (.getfield 7, 3) := by decide +kernel
theorem dX8_collects_167 : decode cX8_collects 167 = .ok (.sipush 483, 3) := by decide +kernel
theorem dX8_collects_170 : decode cX8_collects 170 = .ok (.iload 7, 2) := by decide +kernel
theorem dX8_collects_172 : decode cX8_collects 172 = .ok (.iadd, 1) := by decide +kernel
theorem dX8_collects_173 : decode cX8_collects 173 = .ok (.iaload, 1) := by decide +kernel
theorem dX8_collects_174 : decode cX8_collects 174 = .ok (.invokestatic 81, 3) := by decide +kernel
theorem dX8_collects_177 : decode cX8_collects 177 = .ok (.goto 14, 3) := by decide +kernel
theorem dX8_collects_180 : decode cX8_collects 180 = .ok (.aload_n 0, 1) := by decide +kernel
theorem dX8_collects_181 : decode cX8_collects 181 = .ok (.getfield 7, 3) := by decide +kernel
theorem dX8_collects_184 : decode cX8_collects 184 = .ok (.sipush 483, 3) := by decide +kernel
theorem dX8_collects_187 : decode cX8_collects 187 = .ok (.iload 7, 2) := by decide +kernel
theorem dX8_collects_189 : decode cX8_collects 189 = .ok (.iadd, 1) := by decide +kernel
theorem dX8_collects_190 : decode cX8_collects 190 = .ok (.iaload, 1) := by decide +kernel
theorem dX8_collects_191 : decode cX8_collects 191 = .ok (.istore 12, 2) := by decide +kernel
theorem dX8_collects_193 : decode cX8_collects 193 = .ok (.iload 6, 2) := by decide +kernel
theorem dX8_collects_195 : decode cX8_collects 195 = .ok (.istore 13, 2) := by decide +kernel
theorem dX8_collects_197 : decode cX8_collects 197 = .ok (.iload 13, 2) := by decide +kernel
theorem dX8_collects_199 : decode cX8_collects 199 = .ok (.ifCond .le 96, 3) := by decide +kernel
theorem dX8_collects_202 : decode cX8_collects 202 = .ok (.aload_n 0, 1) := by decide +kernel
theorem dX8_collects_203 : decode cX8_collects 203 = .ok (.getfield 26, 3) := by decide +kernel
theorem dX8_collects_206 : decode cX8_collects 206 = .ok (.bipush 60, 2) := by decide +kernel
theorem dX8_collects_208 : decode cX8_collects 208 = .ok (.iload 13, 2) := by decide +kernel
theorem dX8_collects_210 : decode cX8_collects 210 = .ok (.iadd, 1) := by decide +kernel
theorem dX8_collects_211 : decode cX8_collects 211 = .ok (.iconst 1, 1) := by decide +kernel
theorem dX8_collects_212 : decode cX8_collects 212 = .ok (.isub, 1) := by decide +kernel
theorem dX8_collects_213 : decode cX8_collects 213 = .ok (.iaload, 1) := by decide +kernel
theorem dX8_collects_214 : decode cX8_collects 214 = .ok (.iload 11, 2) := by decide +kernel
theorem dX8_collects_216 : decode cX8_collects 216 = .ok (.if_icmp .gt 34, 3) := by decide +kernel
theorem dX8_collects_219 : decode cX8_collects 219 = .ok (.aload_n 0, 1) := by decide +kernel
theorem dX8_collects_220 : decode cX8_collects 220 = .ok (.getfield 26, 3) := by decide +kernel
theorem dX8_collects_223 : decode cX8_collects 223 = .ok (.bipush 60, 2) := by decide +kernel
theorem dX8_collects_225 : decode cX8_collects 225 = .ok (.iload 13, 2) := by decide +kernel
theorem dX8_collects_227 : decode cX8_collects 227 = .ok (.iadd, 1) := by decide +kernel
theorem dX8_collects_228 : decode cX8_collects 228 = .ok (.iconst 1, 1) := by decide +kernel
theorem dX8_collects_229 : decode cX8_collects 229 = .ok (.isub, 1) := by decide +kernel
theorem dX8_collects_230 : decode cX8_collects 230 = .ok (.iaload, 1) := by decide +kernel
theorem dX8_collects_231 : decode cX8_collects 231 = .ok (.iload 11, 2) := by decide +kernel
theorem dX8_collects_233 : decode cX8_collects 233 = .ok (.if_icmp .ne 62, 3) := by decide +kernel
theorem dX8_collects_236 : decode cX8_collects 236 = .ok (.aload_n 0, 1) := by decide +kernel
theorem dX8_collects_237 : decode cX8_collects 237 = .ok (.getfield 26, 3) := by decide +kernel
theorem dX8_collects_240 : decode cX8_collects 240 = .ok (.iload 13, 2) := by decide +kernel
theorem dX8_collects_242 : decode cX8_collects 242 = .ok (.iconst 1, 1) := by decide +kernel
theorem dX8_collects_243 : decode cX8_collects 243 = .ok (.isub, 1) := by decide +kernel
theorem dX8_collects_244 : decode cX8_collects 244 = .ok (.iaload, 1) := by decide +kernel
theorem dX8_collects_245 : decode cX8_collects 245 = .ok (.iload 10, 2) := by decide +kernel
theorem dX8_collects_247 : decode cX8_collects 247 = .ok (.if_icmp .le 48, 3) := by decide +kernel
theorem dX8_collects_250 : decode cX8_collects 250 = .ok (.iconst 0, 1) := by decide +kernel
theorem dX8_collects_251 : decode cX8_collects 251 = .ok (.istore 14, 2) := by decide +kernel
theorem dX8_collects_253 : decode cX8_collects 253 = .ok (.iload 14, 2) := by decide +kernel
theorem dX8_collects_255 : decode cX8_collects 255 = .ok (.sipush 360, 3) := by decide +kernel
theorem dX8_collects_258 : decode cX8_collects 258 = .ok (.if_icmp .ge 31, 3) := by decide +kernel
theorem dX8_collects_261 : decode cX8_collects 261 = .ok (.aload_n 0, 1) := by decide +kernel
theorem dX8_collects_262 : decode cX8_collects 262 = .ok (.getfield 26, 3) := by decide +kernel
theorem dX8_collects_265 : decode cX8_collects 265 = .ok (.iload 14, 2) := by decide +kernel
theorem dX8_collects_267 : decode cX8_collects 267 = .ok (.iload 13, 2) := by decide +kernel
theorem dX8_collects_269 : decode cX8_collects 269 = .ok (.iadd, 1) := by decide +kernel
theorem dX8_collects_270 : decode cX8_collects 270 = .ok (.aload_n 0, 1) := by decide +kernel
theorem dX8_collects_271 : decode cX8_collects 271 = .ok (.getfield 26, 3) := by decide +kernel
theorem dX8_collects_274 : decode cX8_collects 274 = .ok (.iload 14, 2) := by decide +kernel
theorem dX8_collects_276 : decode cX8_collects 276 = .ok (.iload 13, 2) := by decide +kernel
theorem dX8_collects_278 : decode cX8_collects 278 = .ok (.iadd, 1) := by decide +kernel
theorem dX8_collects_279 : decode cX8_collects 279 = .ok (.iconst 1, 1) := by decide +kernel
theorem dX8_collects_280 : decode cX8_collects 280 = .ok (.isub, 1) := by decide +kernel
theorem dX8_collects_281 : decode cX8_collects 281 = .ok (.iaload, 1) := by decide +kernel
theorem dX8_collects_282 : decode cX8_collects 282 = .ok (.iastore, 1) := by decide +kernel
theorem dX8_collects_283 : decode cX8_collects 283 = .ok (.iinc 14 60, 3) := by decide +kernel
theorem dX8_collects_286 : decode cX8_collects 286 = .ok (.goto (-33), 3) := by decide +kernel
theorem dX8_collects_289 : decode cX8_collects 289 = .ok (.iinc 13 (-1), 3) := by decide +kernel
theorem dX8_collects_292 : decode cX8_collects 292 = .ok (.goto (-95), 3) := by decide +kernel
theorem dX8_collects_295 : decode cX8_collects 295 = .ok (.aload_n 0, 1) := by decide +kernel
theorem dX8_collects_296 : decode cX8_collects 296 = .ok (.getfield 26, 3) := by decide +kernel
theorem dX8_collects_299 : decode cX8_collects 299 = .ok (.iload 13, 2) := by decide +kernel
theorem dX8_collects_301 : decode cX8_collects 301 = .ok (.iload 10, 2) := by decide +kernel
theorem dX8_collects_303 : decode cX8_collects 303 = .ok (.iastore, 1) := by decide +kernel
theorem dX8_collects_304 : decode cX8_collects 304 = .ok (.aload_n 0, 1) := by decide +kernel
theorem dX8_collects_305 : decode cX8_collects 305 = .ok (.getfield 26, 3) := by decide +kernel
theorem dX8_collects_308 : decode cX8_collects 308 = .ok (.bipush 60, 2) := by decide +kernel
theorem dX8_collects_310 : decode cX8_collects 310 = .ok (.iload 13, 2) := by decide +kernel
theorem dX8_collects_312 : decode cX8_collects 312 = .ok (.iadd, 1) := by decide +kernel
theorem dX8_collects_313 : decode cX8_collects 313 = .ok (.iload 11, 2) := by decide +kernel
theorem dX8_collects_315 : decode cX8_collects 315 = .ok (.iastore, 1) := by decide +kernel
theorem dX8_collects_316 : decode cX8_collects 316 = .ok (.aload_n 0, 1) := by decide +kernel
theorem dX8_collects_317 : decode cX8_collects 317 = .ok (.getfield 26, 3) := by decide +kernel
theorem dX8_collects_320 : decode cX8_collects 320 = .ok (.bipush 120, 2) := by decide +kernel
theorem dX8_collects_322 : decode cX8_collects 322 = .ok (.iload 13, 2) := by decide +kernel
theorem dX8_collects_324 : decode cX8_collects 324 = .ok (.iadd, 1) := by decide +kernel
theorem dX8_collects_325 : decode cX8_collects 325 = .ok (.iload 8, 2) := by decide +kernel
theorem dX8_collects_327 : decode cX8_collects 327 = .ok (.iastore, 1) := by decide +kernel
theorem dX8_collects_328 : decode cX8_collects 328 = .ok (.aload_n 0, 1) := by decide +kernel
theorem dX8_collects_329 : decode cX8_collects 329 = .ok (.getfield 26, 3) := by decide +kernel
theorem dX8_collects_332 : decode cX8_collects 332 = .ok (.sipush 180, 3) := by decide +kernel
theorem dX8_collects_335 : decode cX8_collects 335 = .ok (.iload 13, 2) := by decide +kernel
theorem dX8_collects_337 : decode cX8_collects 337 = .ok (.iadd, 1) := by decide +kernel
theorem dX8_collects_338 : decode cX8_collects 338 = .ok (.aload_n 0, 1) := by decide +kernel
theorem dX8_collects_339 : decode cX8_collects 339 = .ok (.getfield 7, 3) := by decide +kernel
theorem dX8_collects_342 : decode cX8_collects 342 = .ok (.sipush 363, 3) := by decide +kernel
theorem dX8_collects_345 : decode cX8_collects 345 = .ok (.iload 7, 2) := by decide +kernel
theorem dX8_collects_347 : decode cX8_collects 347 = .ok (.iadd, 1) := by decide +kernel
theorem dX8_collects_348 : decode cX8_collects 348 = .ok (.iaload, 1) := by decide +kernel
theorem dX8_collects_349 : decode cX8_collects 349 = .ok (.iastore, 1) := by decide +kernel
theorem dX8_collects_350 : decode cX8_collects 350 = .ok (.aload_n 0, 1) := by decide +kernel
theorem dX8_collects_351 : decode cX8_collects 351 = .ok (.getfield 26, 3) := by decide +kernel
theorem dX8_collects_354 : decode cX8_collects 354 = .ok (.sipush 240, 3) := by decide +kernel
theorem dX8_collects_357 : decode cX8_collects 357 = .ok (.iload 13, 2) := by decide +kernel
theorem dX8_collects_359 : decode cX8_collects 359 = .ok (.iadd, 1) := by decide +kernel
theorem dX8_collects_360 : decode cX8_collects 360 = .ok (.iload 5, 2) := by decide +kernel
theorem dX8_collects_362 : decode cX8_collects 362 = .ok (.ifCond .eq 15, 3) := by decide +kernel
theorem dX8_collects_365 : decode cX8_collects 365 = .ok (.iload 8, 2) := by decide +kernel
theorem dX8_collects_367 : decode cX8_collects 367 = .ok (.iconst 2, 1) := by decide +kernel
theorem dX8_collects_368 : decode cX8_collects 368 = .ok (.if_icmp .ne 9, 3) := by decide +kernel
theorem dX8_collects_371 : decode cX8_collects 371 = .ok (.iload 12, 2) := by decide +kernel
theorem dX8_collects_373 : decode cX8_collects 373 = .ok (.ineg, 1) := by decide +kernel
theorem dX8_collects_374 : decode cX8_collects 374 = .ok (.goto 5, 3) := by decide +kernel
theorem dX8_collects_377 : decode cX8_collects 377 = .ok (.iload 12, 2) := by decide +kernel
theorem dX8_collects_379 : decode cX8_collects 379 = .ok (.iastore, 1) := by decide +kernel
theorem dX8_collects_380 : decode cX8_collects 380 = .ok (.aload_n 0, 1) := by decide +kernel
theorem dX8_collects_381 : decode cX8_collects 381 = .ok (.getfield 26, 3) := by decide +kernel
theorem dX8_collects_384 : decode cX8_collects 384 = .ok (.sipush 300, 3) := by decide +kernel
theorem dX8_collects_387 : decode cX8_collects 387 = .ok (.iload 13, 2) := by decide +kernel
theorem dX8_collects_389 : decode cX8_collects 389 = .ok (.iadd, 1) := by decide +kernel
theorem dX8_collects_390 : decode cX8_collects 390 = .ok (.aload_n 0, 1) := by decide +kernel
theorem dX8_collects_391 : decode cX8_collects 391 = .ok (.getfield 7, 3) := by decide +kernel
theorem dX8_collects_394 : decode cX8_collects 394 = .ok (.sipush 603, 3) := by decide +kernel
theorem dX8_collects_397 : decode cX8_collects 397 = .ok (.iload 7, 2) := by decide +kernel
theorem dX8_collects_399 : decode cX8_collects 399 = .ok (.iadd, 1) := by decide +kernel
theorem dX8_collects_400 : decode cX8_collects 400 = .ok (.iaload, 1) := by decide +kernel
theorem dX8_collects_401 : decode cX8_collects 401 = .ok (.iastore, 1) := by decide +kernel
theorem dX8_collects_402 : decode cX8_collects 402 = .ok (.iinc 6 1, 3) := by decide +kernel
theorem dX8_collects_405 : decode cX8_collects 405 = .ok (.iinc 7 1, 3) := by decide +kernel
theorem dX8_collects_408 : decode cX8_collects 408 = .ok (.goto (-402), 3) := by decide +kernel
theorem dX8_collects_411 : decode cX8_collects 411 = .ok (.iload 6, 2) := by decide +kernel
theorem dX8_collects_413 : decode cX8_collects 413 = .ok (.ireturn, 1) := by decide +kernel
theorem dX8_copyPhrase_0 : decode cX8_copyPhrase 0 = .ok (.aload_n 0, 1) := by decide +kernel
theorem dX8_copyPhrase_1 : decode cX8_copyPhrase 1 = .ok (.iload_n 1, 1) := by decide +kernel
theorem dX8_copyPhrase_2 : decode cX8_copyPhrase 2 = .ok (.invokevirtual 57, 3) := by decide +kernel
theorem dX8_copyPhrase_5 : decode cX8_copyPhrase 5 = .ok (.ifCond .eq 47, 3) := by decide +kernel
theorem dX8_copyPhrase_8 : decode cX8_copyPhrase 8 = .ok (.iload_n 2, 1) := by decide +kernel
theorem dX8_copyPhrase_9 : decode cX8_copyPhrase 9 = .ok (.iload_n 1, 1) := by decide +kernel
theorem dX8_copyPhrase_10 : decode cX8_copyPhrase 10 = .ok (.iconst 1, 1) := by decide +kernel
theorem dX8_copyPhrase_11 : decode cX8_copyPhrase 11 = .ok (.iadd, 1) := by decide +kernel
theorem dX8_copyPhrase_12 : decode cX8_copyPhrase 12 = .ok (.aload_n 0, 1) := by decide +kernel
theorem dX8_copyPhrase_13 : decode cX8_copyPhrase 13 = .ok (.getfield 7, 3) := by decide +kernel
theorem dX8_copyPhrase_16 : decode cX8_copyPhrase 16 = .ok (.iconst 0, 1) := by decide +kernel
theorem dX8_copyPhrase_17 : decode cX8_copyPhrase 17 = .ok (.iaload, 1) := by decide +kernel
theorem dX8_copyPhrase_18 : decode cX8_copyPhrase 18 = .ok (.invokestatic 32, 3) := by decide +kernel
theorem dX8_copyPhrase_21 : decode cX8_copyPhrase 21 = .ok (.ifCond .eq 31, 3) := by decide +kernel
theorem dX8_copyPhrase_24 : decode cX8_copyPhrase 24 = .ok (.aload_n 0, 1) := by decide +kernel
theorem dX8_copyPhrase_25 : decode cX8_copyPhrase 25 = .ok (.iload_n 3, 1) := by decide +kernel
theorem dX8_copyPhrase_26 : decode cX8_copyPhrase 26 = .ok (.invokevirtual 57, 3) := by decide +kernel
theorem dX8_copyPhrase_29 : decode cX8_copyPhrase 29 = .ok (.ifCond .eq 23, 3) := by decide +kernel
theorem dX8_copyPhrase_32 : decode cX8_copyPhrase 32 = .ok (.iload 4, 2) := by decide +kernel
theorem dX8_copyPhrase_34 : decode cX8_copyPhrase 34 = .ok (.iconst 0, 1) := by decide +kernel
theorem dX8_copyPhrase_35 : decode cX8_copyPhrase 35 = .ok (.iconst 1, 1) := by decide +kernel
theorem dX8_copyPhrase_36 : decode cX8_copyPhrase 36 = .ok (.invokestatic 32, 3) := by decide +kernel
theorem dX8_copyPhrase_39 : decode cX8_copyPhrase 39 = .ok (.ifCond .eq 13, 3) := by decide +kernel
theorem dX8_copyPhrase_42 : decode cX8_copyPhrase 42 = .ok (.iload 5, 2) := by decide +kernel
theorem dX8_copyPhrase_44 : decode cX8_copyPhrase 44 = .ok (.iconst 0, 1) := by decide +kernel
theorem dX8_copyPhrase_45 : decode cX8_copyPhrase 45 = .ok (.iconst 1, 1) := by decide +kernel
theorem dX8_copyPhrase_46 : decode cX8_copyPhrase 46 = .ok (.invokestatic 32, 3) := by decide +kernel
theorem dX8_copyPhrase_49 : decode cX8_copyPhrase 49 = .ok (.ifCond .ne 7, 3) := by decide +kernel
theorem dX8_copyPhrase_52 : decode cX8_copyPhrase 52 = .ok (.sipush (-1001), 3) := by decide +kernel
theorem dX8_copyPhrase_55 : decode cX8_copyPhrase 55 = .ok (.ireturn, 1) := by decide +kernel
theorem dX8_copyPhrase_56 : decode cX8_copyPhrase 56 = .ok (.aload_n 0, 1) := by decide +kernel
theorem dX8_copyPhrase_57 : decode cX8_copyPhrase 57 = .ok (.iload_n 1, 1) := by decide +kernel
theorem dX8_copyPhrase_58 : decode cX8_copyPhrase 58 = .ok (.iload_n 2, 1) := by decide +kernel
theorem dX8_copyPhrase_59 : decode cX8_copyPhrase 59 = .ok (.iload_n 3, 1) := by decide +kernel
theorem dX8_copyPhrase_60 : decode cX8_copyPhrase 60 = .ok (.iload 4, 2) := by decide +kernel
theorem dX8_copyPhrase_62 : decode cX8_copyPhrase 62 = .ok (.iconst 1, 1) := by decide +kernel
theorem dX8_copyPhrase_63 : decode cX8_copyPhrase 63 = .ok (.if_icmp .ne 7, 3) := by decide +kernel
theorem dX8_copyPhrase_66 : decode cX8_copyPhrase 66 = .ok (.iconst 1, 1) := by decide +kernel
theorem dX8_copyPhrase_67 : decode cX8_copyPhrase 67 = .ok (.goto 4, 3) := by decide +kernel
theorem dX8_copyPhrase_70 : decode cX8_copyPhrase 70 = .ok (.iconst 0, 1) := by decide +kernel
theorem dX8_copyPhrase_71 : decode cX8_copyPhrase 71 = .ok (.iload 5, 2) := by decide +kernel
theorem dX8_copyPhrase_73 : decode cX8_copyPhrase 73 = .ok (.iconst 1, 1) := by decide +kernel
theorem dX8_copyPhrase_74 : decode cX8_copyPhrase 74 = .ok (.if_icmp .ne 7, 3) := by decide +kernel
theorem dX8_copyPhrase_77 : decode cX8_copyPhrase 77 = .ok (.iconst 1, 1) := by decide +kernel
theorem dX8_copyPhrase_78 : decode cX8_copyPhrase 78 = .ok (.goto 4, 3) := by decide +kernel
theorem dX8_copyPhrase_81 : decode cX8_copyPhrase 81 = .ok (.iconst 0, 1) := by decide +kernel
theorem dX8_copyPhrase_82 : decode cX8_copyPhrase 82 = .ok (.invokevirtual 84, 3) := by decide +kernel
theorem dX8_copyPhrase_85 : decode cX8_copyPhrase 85 = .ok (.istore 6, 2) := by decide +kernel
theorem dX8_copyPhrase_87 : decode cX8_copyPhrase 87 = .ok (.iconst 0, 1) := by decide +kernel
theorem dX8_copyPhrase_88 : decode cX8_copyPhrase 88 = .ok (.istore 7, 2) := by decide +kernel
theorem dX8_copyPhrase_90 : decode cX8_copyPhrase 90 = .ok (.iload 7, 2) := by decide +kernel
theorem dX8_copyPhrase_92 : decode cX8_copyPhrase 92 = .ok (.sipush 723, 3) := by decide +kernel
theorem dX8_copyPhrase_95 : decode cX8_copyPhrase 95 = .ok (.if_icmp .ge 23, 3) := by decide +kernel
theorem dX8_copyPhrase_98 : decode cX8_copyPhrase 98 = .ok (.aload_n 0, 1) := by decide +kernel
theorem dX8_copyPhrase_99 : decode cX8_copyPhrase 99 = .ok (.getfield 16, 3) := by decide +kernel
theorem dX8_copyPhrase_102 : decode cX8_copyPhrase 102 = .ok (.iload 7, 2) := by decide +kernel
theorem dX8_copyPhrase_104 : decode cX8_copyPhrase 104 = .ok (.aload_n 0, 1) := by decide +kernel
theorem dX8_copyPhrase_105 : decode cX8_copyPhrase 105 = .ok (.getfield 7, 3) := by decide +kernel
theorem dX8_copyPhrase_108 : decode cX8_copyPhrase 108 = .ok (.iload 7, 2) := by decide +kernel
theorem dX8_copyPhrase_110 : decode cX8_copyPhrase 110 = .ok (.iaload, 1) := by decide +kernel
theorem dX8_copyPhrase_111 : decode cX8_copyPhrase 111 = .ok (.iastore, 1) := by decide +kernel
theorem dX8_copyPhrase_112 : decode cX8_copyPhrase 112 = .ok (.iinc 7 1, 3) := by decide +kernel
theorem dX8_copyPhrase_115 : decode cX8_copyPhrase 115 = .ok (.goto (-25), 3) := by decide +kernel
theorem dX8_copyPhrase_118 : decode cX8_copyPhrase 118 = .ok (.iconst 1, 1) := by decide +kernel
theorem dX8_copyPhrase_119 : decode cX8_copyPhrase 119 = .ok (.istore 7, 2) := by decide +kernel
theorem dX8_copyPhrase_121 : decode cX8_copyPhrase 121 = .ok (.iconst 0, 1) := by decide +kernel
theorem dX8_copyPhrase_122 : decode cX8_copyPhrase 122 = .ok (.istore 8, 2) := by decide +kernel
theorem dX8_copyPhrase_124 : decode cX8_copyPhrase 124 = .ok (.iload 8, 2) := by decide +kernel
theorem dX8_copyPhrase_126 : decode cX8_copyPhrase 126 = .ok (.iload 6, 2) := by decide +kernel
theorem dX8_copyPhrase_128 : decode cX8_copyPhrase 128 = .ok (.if_icmp .ge 170, 3) := by decide +kernel
theorem dX8_copyPhrase_131 : decode cX8_copyPhrase 131 = .ok (.iload 7, 2) := by decide +kernel
theorem dX8_copyPhrase_133 : decode cX8_copyPhrase 133 = .ok (.ifCond .eq 165, 3) := by decide +kernel
theorem dX8_copyPhrase_136 : decode cX8_copyPhrase 136 = .ok (.aload_n 0, 1) := by decide +kernel
theorem dX8_copyPhrase_137 : decode cX8_copyPhrase 137 = .ok (.getfield 26, 3) := by decide +kernel
theorem dX8_copyPhrase_140 : decode cX8_copyPhrase 140 = .ok (.bipush 120, 2) := by decide +kernel
theorem dX8_copyPhrase_142 : decode cX8_copyPhrase 142 = .ok (.iload 8, 2) := by decide +kernel
theorem dX8_copyPhrase_144 : decode cX8_copyPhrase 144 = .ok (.iadd, 1) := by decide +kernel
theorem dX8_copyPhrase_145 : decode cX8_copyPhrase 145 = .ok (.iaload, 1) := by decide +kernel
theorem dX8_copyPhrase_146 : decode cX8_copyPhrase 146 = .ok (.iconst 1, 1) := by decide +kernel
theorem dX8_copyPhrase_147 : decode cX8_copyPhrase 147 = .ok (.if_icmp .ne 7, 3) := by decide +kernel
theorem dX8_copyPhrase_150 : decode cX8_copyPhrase 150 = .ok (.iconst 1, 1) := by decide +kernel
theorem dX8_copyPhrase_151 : decode cX8_copyPhrase 151 = .ok (.goto 14, 3) := by decide +kernel
theorem dX8_copyPhrase_154 : decode cX8_copyPhrase 154 = .ok (.aload_n 0, 1) := by decide +kernel
theorem dX8_copyPhrase_155 : decode cX8_copyPhrase 155 = .ok (.getfield 26, 3) := by decide +kernel
theorem dX8_copyPhrase_158 : decode cX8_copyPhrase 158 = .ok (.sipush 180, 3) := by decide +kernel
theorem dX8_copyPhrase_161 : decode cX8_copyPhrase 161 = .ok (.iload 8, 2) := by decide +kernel
theorem dX8_copyPhrase_163 : decode cX8_copyPhrase 163 = .ok (.iadd, 1) := by decide +kernel
theorem dX8_copyPhrase_164 : decode cX8_copyPhrase 164 = .ok (.iaload, 1) := by decide +kernel
theorem dX8_copyPhrase_165 : decode cX8_copyPhrase 165 = .ok (.istore 9, 2) := by decide +kernel
theorem dX8_copyPhrase_167 : decode cX8_copyPhrase 167 = .ok (.aload_n 0, 1) := by decide +kernel
theorem dX8_copyPhrase_168 : decode cX8_copyPhrase 168 = .ok (.getfield 26, 3) := by decide +kernel
theorem dX8_copyPhrase_171 : decode cX8_copyPhrase 171 = .ok (.bipush 60, 2) := by decide +kernel
theorem dX8_copyPhrase_173 : decode cX8_copyPhrase 173 = .ok (.iload 8, 2) := by decide +kernel
theorem dX8_copyPhrase_175 : decode cX8_copyPhrase 175 = .ok (.iadd, 1) := by decide +kernel
theorem dX8_copyPhrase_176 : decode cX8_copyPhrase 176 = .ok (.iaload, 1) := by decide +kernel
theorem dX8_copyPhrase_177 : decode cX8_copyPhrase 177 = .ok (.iload 9, 2) := by decide +kernel
theorem dX8_copyPhrase_179 : decode cX8_copyPhrase 179 = .ok (.iadd, 1) := by decide +kernel
theorem dX8_copyPhrase_180 : decode cX8_copyPhrase 180 = .ok (.aload_n 0, 1) := by decide +kernel
theorem dX8_copyPhrase_181 : decode cX8_copyPhrase 181 = .ok (.getfield 7, 3) := by decide +kernel
theorem dX8_copyPhrase_184 : decode cX8_copyPhrase 184 = .ok (.iconst 0, 1) := by decide +kernel
theorem dX8_copyPhrase_185 : decode cX8_copyPhrase 185 = .ok (.iaload, 1) := by decide +kernel
theorem dX8_copyPhrase_186 : decode cX8_copyPhrase 186 = .ok (.if_icmp .gt 33, 3) := by decide +kernel
theorem dX8_copyPhrase_189 : decode cX8_copyPhrase 189 = .ok (.aload_n 0, 1) := by decide +kernel
theorem dX8_copyPhrase_190 : decode cX8_copyPhrase 190 = .ok (.aload_n 0, 1) := by decide +kernel
theorem dX8_copyPhrase_191 : decode cX8_copyPhrase 191 = .ok (.getfield 26, 3) := by decide +kernel
theorem dX8_copyPhrase_194 : decode cX8_copyPhrase 194 = .ok (.iload 8, 2) := by decide +kernel
theorem dX8_copyPhrase_196 : decode cX8_copyPhrase 196 = .ok (.iaload, 1) := by decide +kernel
theorem dX8_copyPhrase_197 : decode cX8_copyPhrase 197 = .ok (.aload_n 0, 1) := by decide +kernel
theorem dX8_copyPhrase_198 : decode cX8_copyPhrase 198 = .ok (.getfield 26, 3) := by decide +kernel
theorem dX8_copyPhrase_201 : decode cX8_copyPhrase 201 = .ok (.bipush 60, 2) := by decide +kernel
theorem dX8_copyPhrase_203 : decode cX8_copyPhrase 203 = .ok (.iload 8, 2) := by decide +kernel
theorem dX8_copyPhrase_205 : decode cX8_copyPhrase 205 = .ok (.iadd, 1) := by decide +kernel
theorem dX8_copyPhrase_206 : decode cX8_copyPhrase 206 = .ok (.iaload, 1) := by decide +kernel
theorem dX8_copyPhrase_207 : decode cX8_copyPhrase 207 = .ok (.iload 9, 2) := by decide +kernel
theorem dX8_copyPhrase_209 : decode cX8_copyPhrase 209 = .ok (.invokevirtual 47, 3) := by decide +kernel
theorem dX8_copyPhrase_212 : decode cX8_copyPhrase 212 = .ok (.ifCond .eq 7, 3) := by decide +kernel
theorem dX8_copyPhrase_215 : decode cX8_copyPhrase 215 = .ok (.iconst 1, 1) := by decide +kernel
theorem dX8_copyPhrase_216 : decode cX8_copyPhrase 216 = .ok (.goto 4, 3) := by decide +kernel
theorem dX8_copyPhrase_219 : decode cX8_copyPhrase 219 = .ok (.iconst 0, 1) := by decide +kernel
theorem dX8_copyPhrase_220 : decode cX8_copyPhrase 220 = .ok (.istore 7, 2) := by decide +kernel
theorem dX8_copyPhrase_222 : decode cX8_copyPhrase 222 = .ok (.iload 7, 2) := by decide +kernel
theorem dX8_copyPhrase_224 : decode cX8_copyPhrase 224 = .ok (.ifCond .eq 68, 3) := by decide +kernel
theorem dX8_copyPhrase_227 : decode cX8_copyPhrase 227 = .ok (.aload_n 0, 1) := by decide +kernel
theorem dX8_copyPhrase_228 : decode cX8_copyPhrase 228 = .ok (.aload_n 0, 1) := by decide +kernel
theorem dX8_copyPhrase_229 : decode cX8_copyPhrase 229 = .ok (.getfield 26, 3) := by decide +kernel
theorem dX8_copyPhrase_232 : decode cX8_copyPhrase 232 = .ok (.iload 8, 2) := by decide +kernel
theorem dX8_copyPhrase_234 : decode cX8_copyPhrase 234 = .ok (.iaload, 1) := by decide +kernel
theorem dX8_copyPhrase_235 : decode cX8_copyPhrase 235 = .ok (.aload_n 0, 1) := by decide +kernel
theorem dX8_copyPhrase_236 : decode cX8_copyPhrase 236 = .ok (.getfield 26, 3) := by decide +kernel
theorem dX8_copyPhrase_239 : decode cX8_copyPhrase 239 = .ok (.bipush 60, 2) := by decide +kernel
theorem dX8_copyPhrase_241 : decode cX8_copyPhrase 241 = .ok (.iload 8, 2) := by decide +kernel
theorem dX8_copyPhrase_243 : decode cX8_copyPhrase 243 = .ok (.iadd, 1) := by decide +kernel
theorem dX8_copyPhrase_244 : decode cX8_copyPhrase 244 = .ok (.iaload, 1) := by decide +kernel
theorem dX8_copyPhrase_245 : decode cX8_copyPhrase 245 = .ok (.aload_n 0, 1) := by decide +kernel
theorem dX8_copyPhrase_246 : decode cX8_copyPhrase 246 = .ok (.getfield 26, 3) := by decide +kernel
theorem dX8_copyPhrase_249 : decode cX8_copyPhrase 249 = .ok (.bipush 120, 2) := by decide +kernel
theorem dX8_copyPhrase_251 : decode cX8_copyPhrase 251 = .ok (.iload 8, 2) := by decide +kernel
theorem dX8_copyPhrase_253 : decode cX8_copyPhrase 253 = .ok (.iadd, 1) := by decide +kernel
theorem dX8_copyPhrase_254 : decode cX8_copyPhrase 254 = .ok (.iaload, 1) := by decide +kernel
theorem dX8_copyPhrase_255 : decode cX8_copyPhrase 255 = .ok (.aload_n 0, 1) := by decide +kernel
theorem dX8_copyPhrase_256 : decode cX8_copyPhrase 256 = .ok (.getfield 26, 3) := by decide +kernel
theorem dX8_copyPhrase_259 : decode cX8_copyPhrase 259 = .ok (.sipush 180, 3) := by decide +kernel
theorem dX8_copyPhrase_262 : decode cX8_copyPhrase 262 = .ok (.iload 8, 2) := by decide +kernel
theorem dX8_copyPhrase_264 : decode cX8_copyPhrase 264 = .ok (.iadd, 1) := by decide +kernel
theorem dX8_copyPhrase_265 : decode cX8_copyPhrase 265 = .ok (.iaload, 1) := by decide +kernel
theorem dX8_copyPhrase_266 : decode cX8_copyPhrase 266 = .ok (.aload_n 0, 1) := by decide +kernel
theorem dX8_copyPhrase_267 : decode cX8_copyPhrase 267 = .ok (.getfield 26, 3) := by decide +kernel
theorem dX8_copyPhrase_270 : decode cX8_copyPhrase 270 = .ok (.sipush 240, 3) := by decide +kernel
theorem dX8_copyPhrase_273 : decode cX8_copyPhrase 273 = .ok (.iload 8, 2) := by decide +kernel
theorem dX8_copyPhrase_275 : decode cX8_copyPhrase 275 = .ok (.iadd, 1) := by decide +kernel
theorem dX8_copyPhrase_276 : decode cX8_copyPhrase 276 = .ok (.iaload, 1) := by decide +kernel
theorem dX8_copyPhrase_277 : decode cX8_copyPhrase 277 = .ok (.aload_n 0, 1) := by decide +kernel
theorem dX8_copyPhrase_278 : decode cX8_copyPhrase 278 = .ok (.getfield 26, 3) := by decide +kernel
theorem dX8_copyPhrase_281 : decode cX8_copyPhrase 281 = .ok (.sipush 300, 3) := by decide +kernel
theorem dX8_copyPhrase_284 : decode cX8_copyPhrase 284 = .ok (.iload 8, 2) := by decide +kernel
theorem dX8_copyPhrase_286 : decode cX8_copyPhrase 286 = .ok (.iadd, 1) := by decide +kernel
theorem dX8_copyPhrase_287 : decode cX8_copyPhrase 287 = .ok (.iaload, 1) := by decide +kernel
theorem dX8_copyPhrase_288 : decode cX8_copyPhrase 288 = .ok (.invokevirtual 53, 3) := by decide +kernel
theorem dX8_copyPhrase_291 : decode cX8_copyPhrase 291 = .ok (.pop, 1) := by decide +kernel
theorem dX8_copyPhrase_292 : decode cX8_copyPhrase 292 = .ok (.iinc 8 1, 3) := by decide +kernel
theorem dX8_copyPhrase_295 : decode cX8_copyPhrase 295 = .ok (.goto (-171), 3) := by decide +kernel
theorem dX8_copyPhrase_298 : decode cX8_copyPhrase 298 = .ok (.aload_n 0, 1) := by decide +kernel
theorem dX8_copyPhrase_299 : decode cX8_copyPhrase 299 = .ok (.getfield 7, 3) := by decide +kernel
theorem dX8_copyPhrase_302 : decode cX8_copyPhrase 302 = .ok (.iconst 2, 1) := by decide +kernel
theorem dX8_copyPhrase_303 : decode cX8_copyPhrase 303 = .ok (.iaload, 1) := by decide +kernel
theorem dX8_copyPhrase_304 : decode cX8_copyPhrase 304 = .ok (.bipush 60, 2) := by decide +kernel
theorem dX8_copyPhrase_306 : decode cX8_copyPhrase 306 = .ok (.if_icmp .le 7, 3) := by decide +kernel
theorem dX8_copyPhrase_309 : decode cX8_copyPhrase 309 = .ok (.iconst 1, 1) := by decide +kernel
theorem dX8_copyPhrase_310 : decode cX8_copyPhrase 310 = .ok (.goto 4, 3) := by decide +kernel
theorem dX8_copyPhrase_313 : decode cX8_copyPhrase 313 = .ok (.iconst 0, 1) := by decide +kernel
theorem dX8_copyPhrase_314 : decode cX8_copyPhrase 314 = .ok (.istore 8, 2) := by decide +kernel
theorem dX8_copyPhrase_316 : decode cX8_copyPhrase 316 = .ok (.iconst 0, 1) := by decide +kernel
theorem dX8_copyPhrase_317 : decode cX8_copyPhrase 317 = .ok (.istore 9, 2) := by decide +kernel
theorem dX8_copyPhrase_319 : decode cX8_copyPhrase 319 = .ok (.iload 9, 2) := by decide +kernel
theorem dX8_copyPhrase_321 : decode cX8_copyPhrase 321 = .ok (.sipush 723, 3) := by decide +kernel
theorem dX8_copyPhrase_324 : decode cX8_copyPhrase 324 = .ok (.if_icmp .ge 41, 3) := by decide +kernel
theorem dX8_copyPhrase_327 : decode cX8_copyPhrase 327 = .ok (.aload_n 0, 1) := by decide +kernel
theorem dX8_copyPhrase_328 : decode cX8_copyPhrase 328 = .ok (.getfield 7, 3) := by decide +kernel
theorem dX8_copyPhrase_331 : decode cX8_copyPhrase 331 = .ok (.iload 9, 2) := by decide +kernel
theorem dX8_copyPhrase_333 : decode cX8_copyPhrase 333 = .ok (.iaload, 1) := by decide +kernel
theorem dX8_copyPhrase_334 : decode cX8_copyPhrase 334 = .ok (.istore 10, 2) := by decide +kernel
theorem dX8_copyPhrase_336 : decode cX8_copyPhrase 336 = .ok (.aload_n 0, 1) := by decide +kernel
theorem dX8_copyPhrase_337 : decode cX8_copyPhrase 337 = .ok (.getfield 7, 3) := by decide +kernel
theorem dX8_copyPhrase_340 : decode cX8_copyPhrase 340 = .ok (.iload 9, 2) := by decide +kernel
theorem dX8_copyPhrase_342 : decode cX8_copyPhrase 342 = .ok (.aload_n 0, 1) := by decide +kernel
theorem dX8_copyPhrase_343 : decode cX8_copyPhrase 343 = .ok (.getfield 16, 3) := by decide +kernel
theorem dX8_copyPhrase_346 : decode cX8_copyPhrase 346 = .ok (.iload 9, 2) := by decide +kernel
theorem dX8_copyPhrase_348 : decode cX8_copyPhrase 348 = .ok (.iaload, 1) := by decide +kernel
theorem dX8_copyPhrase_349 : decode cX8_copyPhrase 349 = .ok (.iastore, 1) := by decide +kernel
theorem dX8_copyPhrase_350 : decode cX8_copyPhrase 350 = .ok (.aload_n 0, 1) := by decide +kernel
theorem dX8_copyPhrase_351 : decode cX8_copyPhrase 351 = .ok (.getfield 16, 3) := by decide +kernel
theorem dX8_copyPhrase_354 : decode cX8_copyPhrase 354 = .ok (.iload 9, 2) := by decide +kernel
theorem dX8_copyPhrase_356 : decode cX8_copyPhrase 356 = .ok (.iload 10, 2) := by decide +kernel
theorem dX8_copyPhrase_358 : decode cX8_copyPhrase 358 = .ok (.iastore, 1) := by decide +kernel
theorem dX8_copyPhrase_359 : decode cX8_copyPhrase 359 = .ok (.iinc 9 1, 3) := by decide +kernel
theorem dX8_copyPhrase_362 : decode cX8_copyPhrase 362 = .ok (.goto (-43), 3) := by decide +kernel
theorem dX8_copyPhrase_365 : decode cX8_copyPhrase 365 = .ok (.iload 7, 2) := by decide +kernel
theorem dX8_copyPhrase_367 : decode cX8_copyPhrase 367 = .ok (.ifCond .eq 8, 3) := by decide +kernel
theorem dX8_copyPhrase_370 : decode cX8_copyPhrase 370 = .ok (.iload 8, 2) := by decide +kernel
theorem dX8_copyPhrase_372 : decode cX8_copyPhrase 372 = .ok (.ifCond .eq 18, 3) := by decide +kernel
theorem dX8_copyPhrase_375 : decode cX8_copyPhrase 375 = .ok (.iload 7, 2) := by decide +kernel
theorem dX8_copyPhrase_377 : decode cX8_copyPhrase 377 = .ok (.ifCond .eq 9, 3) := by decide +kernel
theorem dX8_copyPhrase_380 : decode cX8_copyPhrase 380 = .ok (.sipush (-1003), 3) := by decide +kernel
theorem dX8_copyPhrase_383 : decode cX8_copyPhrase 383 = .ok (.goto 6, 3) := by decide +kernel
theorem dX8_copyPhrase_386 : decode cX8_copyPhrase 386 = .ok (.sipush (-1002), 3) := by decide +kernel
theorem dX8_copyPhrase_389 : decode cX8_copyPhrase 389 = .ok (.ireturn, 1) := by decide +kernel
theorem dX8_copyPhrase_390 : decode cX8_copyPhrase 390 = .ok (.aload_n 0, 1) := by decide +kernel
theorem dX8_copyPhrase_391 : decode cX8_copyPhrase 391 = .ok (.invokevirtual 50, 3) := by decide +kernel
theorem dX8_copyPhrase_394 : decode cX8_copyPhrase 394 = .ok (.iconst 0, 1) := by decide +kernel
theorem dX8_copyPhrase_395 : decode cX8_copyPhrase 395 = .ok (.istore 9, 2) := by decide +kernel
theorem dX8_copyPhrase_397 : decode cX8_copyPhrase 397 = .ok (.iload 9, 2) := by decide +kernel
theorem dX8_copyPhrase_399 : decode cX8_copyPhrase 399 = .ok (.sipush 723, 3) := by decide +kernel
theorem dX8_copyPhrase_402 : decode cX8_copyPhrase 402 = .ok (.if_icmp .ge 23, 3) := by decide +kernel
theorem dX8_copyPhrase_405 : decode cX8_copyPhrase 405 = .ok (.aload_n 0, 1) := by decide +kernel
theorem dX8_copyPhrase_406 : decode cX8_copyPhrase 406 = .ok (.getfield 7, 3) := by decide +kernel
theorem dX8_copyPhrase_409 : decode cX8_copyPhrase 409 = .ok (.iload 9, 2) := by decide +kernel
theorem dX8_copyPhrase_411 : decode cX8_copyPhrase 411 = .ok (.aload_n 0, 1) := by decide +kernel
theorem dX8_copyPhrase_412 : decode cX8_copyPhrase 412 = .ok (.getfield 16, 3) := by decide +kernel
theorem dX8_copyPhrase_415 : decode cX8_copyPhrase 415 = .ok (.iload 9, 2) := by decide +kernel
theorem dX8_copyPhrase_417 : decode cX8_copyPhrase 417 = .ok (.iaload, 1) := by decide +kernel
theorem dX8_copyPhrase_418 : decode cX8_copyPhrase 418 = .ok (.iastore, 1) := by decide +kernel
theorem dX8_copyPhrase_419 : decode cX8_copyPhrase 419 = .ok (.iinc 9 1, 3) := by decide +kernel
theorem dX8_copyPhrase_422 : decode cX8_copyPhrase 422 = .ok (.goto (-25), 3) := by decide +kernel
theorem dX8_copyPhrase_425 : decode cX8_copyPhrase 425 = .ok (.iload 6, 2) := by decide +kernel
theorem dX8_copyPhrase_427 : decode cX8_copyPhrase 427 = .ok (.ireturn, 1) := by decide +kernel
theorem dX8_setLeap_0 : decode cX8_setLeap 0 = .ok (.iload_n 1, 1) := by decide +kernel
theorem dX8_setLeap_1 : decode cX8_setLeap 1 = .ok (.iconst 0, 1) := by decide +kernel
theorem dX8_setLeap_2 : decode cX8_setLeap 2 = .ok (.bipush 8, 2) := by decide +kernel
theorem dX8_setLeap_4 : decode cX8_setLeap 4 = .ok (.invokestatic 32, 3) := by decide +kernel
theorem dX8_setLeap_7 : decode cX8_setLeap 7 = .ok (.ifCond .ne 7, 3) := by decide +kernel
theorem dX8_setLeap_10 : decode cX8_setLeap 10 = .ok (.sipush (-1001), 3) := by decide +kernel
theorem dX8_setLeap_13 : decode cX8_setLeap 13 = .ok (.ireturn, 1) := by decide +kernel
theorem dX8_setLeap_14 : decode cX8_setLeap 14 = .ok (.aload_n 0, 1) := by decide +kernel
theorem dX8_setLeap_15 : decode cX8_setLeap 15 = .ok (.invokevirtual 50, 3) := by decide +kernel
theorem dX8_setLeap_18 : decode cX8_setLeap 18 = .ok (.aload_n 0, 1) := by decide +kernel
theorem dX8_setLeap_19 : decode cX8_setLeap 19 = .ok (.getfield 7, 3) := by decide +kernel
theorem dX8_setLeap_22 : decode cX8_setLeap 22 = .ok (.iconst 1, 1) := by decide +kernel
theorem dX8_setLeap_23 : decode cX8_setLeap 23 = .ok (.iaload, 1) := by decide +kernel
theorem dX8_setLeap_24 : decode cX8_setLeap 24 = .ok (.istore_n 2, 1) := by decide +kernel
theorem dX8_setLeap_25 : decode cX8_setLeap 25 = .ok (.aload_n 0, 1) := by decide +kernel
theorem dX8_setLeap_26 : decode cX8_setLeap 26 = .ok (.getfield 7, 3) := by decide +kernel
theorem dX8_setLeap_29 : decode cX8_setLeap 29 = .ok (.iconst 1, 1) := by decide +kernel
theorem dX8_setLeap_30 : decode cX8_setLeap 30 = .ok (.iload_n 1, 1) := by decide +kernel
theorem dX8_setLeap_31 : decode cX8_setLeap 31 = .ok (.iastore, 1) := by decide +kernel
theorem dX8_setLeap_32 : decode cX8_setLeap 32 = .ok (.iload_n 2, 1) := by decide +kernel
theorem dX8_setLeap_33 : decode cX8_setLeap 33 = .ok (.ireturn, 1) := by decide +kernel
theorem dX8_undo_0 : decode cX8_undo 0 = .ok (.aload_n 0, 1) := by decide +kernel
theorem dX8_undo_1 : decode cX8_undo 1 = .ok (.getfield 36, 3) := by decide +kernel
theorem dX8_undo_4 : decode cX8_undo 4 = .ok (.ifCond .ne 7, 3) := by decide +kernel
theorem dX8_undo_7 : decode cX8_undo 7 = .ok (.sipush (-1002), 3) := by decide +kernel
theorem dX8_undo_10 : decode cX8_undo 10 = .ok (.ireturn, 1) := by decide +kernel
theorem dX8_undo_11 : decode cX8_undo 11 = .ok (.aload_n 0, 1) := by decide +kernel
theorem dX8_undo_12 : decode cX8_undo 12 = .ok (.dup, 1) := by decide +kernel
theorem dX8_undo_13 : decode cX8_undo 13 = .ok (.getfield 36, 3) := by decide +kernel
theorem dX8_undo_16 : decode cX8_undo 16 = .ok (.iconst 1, 1) := by decide +kernel
theorem dX8_undo_17 : decode cX8_undo 17 = .ok (.isub, 1) := by decide +kernel
theorem dX8_undo_18 : decode cX8_undo 18 = .ok (.putfield 36, 3) := by decide +kernel
theorem dX8_undo_21 : decode cX8_undo 21 = .ok (.iconst 0, 1) := by decide +kernel
theorem dX8_undo_22 : decode cX8_undo 22 = .ok (.istore_n 1, 1) := by decide +kernel
theorem dX8_undo_23 : decode cX8_undo 23 = .ok (.iload_n 1, 1) := by decide +kernel
theorem dX8_undo_24 : decode cX8_undo 24 = .ok (.sipush 723, 3) := by decide +kernel
theorem dX8_undo_27 : decode cX8_undo 27 = .ok (.if_icmp .ge 30, 3) := by decide +kernel
theorem dX8_undo_30 : decode cX8_undo 30 = .ok (.aload_n 0, 1) := by decide +kernel
theorem dX8_undo_31 : decode cX8_undo 31 = .ok (.getfield 7, 3) := by decide +kernel
theorem dX8_undo_34 : decode cX8_undo 34 = .ok (.iload_n 1, 1) := by decide +kernel
theorem dX8_undo_35 : decode cX8_undo 35 = .ok (.aload_n 0, 1) := by decide +kernel
theorem dX8_undo_36 : decode cX8_undo 36 = .ok (.getfield 13, 3) := by decide +kernel
theorem dX8_undo_39 : decode cX8_undo 39 = .ok (.sipush 723, 3) := by decide +kernel
theorem dX8_undo_42 : decode cX8_undo 42 = .ok (.aload_n 0, 1) := by decide +kernel
theorem dX8_undo_43 : decode cX8_undo 43 = .ok (.getfield 36, 3) := by decide +kernel
theorem dX8_undo_46 : decode cX8_undo 46 = .ok (.imul, 1) := by decide +kernel
theorem dX8_undo_47 : decode cX8_undo 47 = .ok (.iload_n 1, 1) := by decide +kernel
theorem dX8_undo_48 : decode cX8_undo 48 = .ok (.iadd, 1) := by decide +kernel
theorem dX8_undo_49 : decode cX8_undo 49 = .ok (.iaload, 1) := by decide +kernel
theorem dX8_undo_50 : decode cX8_undo 50 = .ok (.iastore, 1) := by decide +kernel
theorem dX8_undo_51 : decode cX8_undo 51 = .ok (.iinc 1 1, 3) := by decide +kernel
theorem dX8_undo_54 : decode cX8_undo 54 = .ok (.goto (-31), 3) := by decide +kernel
theorem dX8_undo_57 : decode cX8_undo 57 = .ok (.aload_n 0, 1) := by decide +kernel
theorem dX8_undo_58 : decode cX8_undo 58 = .ok (.getfield 36, 3) := by decide +kernel
theorem dX8_undo_61 : decode cX8_undo 61 = .ok (.ireturn, 1) := by decide +kernel
theorem dX8_count_0 : decode cX8_count 0 = .ok (.iload_n 1, 1) := by decide +kernel
theorem dX8_count_1 : decode cX8_count 1 = .ok (.tableswitch 66 0 4 #[35, 42, 49, 56, 61], 35) := by decide +kernel
theorem dX8_count_36 : decode cX8_count 36 = .ok (.aload_n 0, 1) := by decide +kernel
theorem dX8_count_37 : decode cX8_count 37 = .ok (.getfield 7, 3) := by decide +kernel
theorem dX8_count_40 : decode cX8_count 40 = .ok (.iconst 0, 1) := by decide +kernel
theorem dX8_count_41 : decode cX8_count 41 = .ok (.iaload, 1) := by decide +kernel
theorem dX8_count_42 : decode cX8_count 42 = .ok (.ireturn, 1) := by decide +kernel
theorem dX8_count_43 : decode cX8_count 43 = .ok (.aload_n 0, 1) := by decide +kernel
theorem dX8_count_44 : decode cX8_count 44 = .ok (.getfield 7, 3) := by decide +kernel
theorem dX8_count_47 : decode cX8_count 47 = .ok (.iconst 2, 1) := by decide +kernel
theorem dX8_count_48 : decode cX8_count 48 = .ok (.iaload, 1) := by decide +kernel
theorem dX8_count_49 : decode cX8_count 49 = .ok (.ireturn, 1) := by decide +kernel
theorem dX8_count_50 : decode cX8_count 50 = .ok (.aload_n 0, 1) := by decide +kernel
theorem dX8_count_51 : decode cX8_count 51 = .ok (.getfield 7, 3) := by decide +kernel
theorem dX8_count_54 : decode cX8_count 54 = .ok (.iconst 1, 1) := by decide +kernel
theorem dX8_count_55 : decode cX8_count 55 = .ok (.iaload, 1) := by decide +kernel
theorem dX8_count_56 : decode cX8_count 56 = .ok (.ireturn, 1) := by decide +kernel
theorem dX8_count_57 : decode cX8_count 57 = .ok (.aload_n 0, 1) := by decide +kernel
theorem dX8_count_58 : decode cX8_count 58 = .ok (.getfield 36, 3) := by decide +kernel
theorem dX8_count_61 : decode cX8_count 61 = .ok (.ireturn, 1) := by decide +kernel
theorem dX8_count_62 : decode cX8_count 62 = .ok (.aload_n 0, 1) := by decide +kernel
theorem dX8_count_63 : decode cX8_count 63 = .ok (.getfield 88, 3) := by decide +kernel
theorem dX8_count_66 : decode cX8_count 66 = .ok (.ireturn, 1) := by decide +kernel
theorem dX8_count_67 : decode cX8_count 67 = .ok (.sipush (-1001), 3) := by decide +kernel
theorem dX8_count_70 : decode cX8_count 70 = .ok (.ireturn, 1) := by decide +kernel
theorem dX8_sign_0 : decode cX8_sign 0 = .ok (.aload_n 0, 1) := by decide +kernel
theorem dX8_sign_1 : decode cX8_sign 1 = .ok (.iload_n 1, 1) := by decide +kernel
theorem dX8_sign_2 : decode cX8_sign 2 = .ok (.invokevirtual 71, 3) := by decide +kernel
theorem dX8_sign_5 : decode cX8_sign 5 = .ok (.ifCond .ne 7, 3) := by decide +kernel
theorem dX8_sign_8 : decode cX8_sign 8 = .ok (.sipush (-1001), 3) := by decide +kernel
theorem dX8_sign_11 : decode cX8_sign 11 = .ok (.ireturn, 1) := by decide +kernel
theorem dX8_sign_12 : decode cX8_sign 12 = .ok (.aload_n 0, 1) := by decide +kernel
theorem dX8_sign_13 : decode cX8_sign 13 = .ok (.getfield 7, 3) := by decide +kernel
theorem dX8_sign_16 : decode cX8_sign 16 = .ok (.sipush 243, 3) := by decide +kernel
theorem dX8_sign_19 : decode cX8_sign 19 = .ok (.iload_n 1, 1) := by decide +kernel
theorem dX8_sign_20 : decode cX8_sign 20 = .ok (.iadd, 1) := by decide +kernel
theorem dX8_sign_21 : decode cX8_sign 21 = .ok (.iaload, 1) := by decide +kernel
theorem dX8_sign_22 : decode cX8_sign 22 = .ok (.istore_n 3, 1) := by decide +kernel
theorem dX8_sign_23 : decode cX8_sign 23 = .ok (.iload_n 2, 1) := by decide +kernel
theorem dX8_sign_24 : decode cX8_sign 24 = .ok (.tableswitch 135 0 6 #[44, 53, 63, 69, 71, 92, 113], 44) := by decide +kernel
theorem dX8_sign_68 : decode cX8_sign 68 = .ok (.aload_n 0, 1) := by decide +kernel
theorem dX8_sign_69 : decode cX8_sign 69 = .ok (.getfield 7, 3) := by decide +kernel
theorem dX8_sign_72 : decode cX8_sign 72 = .ok (.iconst 3, 1) := by decide +kernel
theorem dX8_sign_73 : decode cX8_sign 73 = .ok (.iload_n 1, 1) := by decide +kernel
theorem dX8_sign_74 : decode cX8_sign 74 = .ok (.iadd, 1) := by decide +kernel
theorem dX8_sign_75 : decode cX8_sign 75 = .ok (.iaload, 1) := by decide +kernel
theorem dX8_sign_76 : decode cX8_sign 76 = .ok (.ireturn, 1) := by decide +kernel
theorem dX8_sign_77 : decode cX8_sign 77 = .ok (.aload_n 0, 1) := by decide +kernel
theorem dX8_sign_78 : decode cX8_sign 78 = .ok (.getfield 7, 3) := by decide +kernel
theorem dX8_sign_81 : decode cX8_sign 81 = .ok (.bipush 123, 2) := by decide +kernel
theorem dX8_sign_83 : decode cX8_sign 83 = .ok (.iload_n 1, 1) := by decide +kernel
theorem dX8_sign_84 : decode cX8_sign 84 = .ok (.iadd, 1) := by decide +kernel
theorem dX8_sign_85 : decode cX8_sign 85 = .ok (.iaload, 1) := by decide +kernel
theorem dX8_sign_86 : decode cX8_sign 86 = .ok (.ireturn, 1) := by decide +kernel
theorem dX8_sign_87 : decode cX8_sign 87 = .ok (.aload_n 0, 1) := by decide +kernel
theorem dX8_sign_88 : decode cX8_sign 88 = .ok (.iload_n 1, 1) := by decide +kernel
theorem dX8_sign_89 : decode cX8_sign 89 = .ok (.invokevirtual 74, 3) := by decide +kernel
theorem dX8_sign_92 : decode cX8_sign 92 = .ok (.ireturn, 1) := by decide +kernel
theorem dX8_sign_93 : decode cX8_sign 93 = .ok (.iload_n 3, 1) := by decide +kernel
theorem dX8_sign_94 : decode cX8_sign 94 = .ok (.ireturn, 1) := by decide +kernel
theorem dX8_sign_95 : decode cX8_sign 95 = .ok (.iload_n 3, 1) := by decide +kernel
theorem dX8_sign_96 : decode cX8_sign 96 = .ok (.ifCond .ne 16, 3) := by decide +kernel
theorem dX8_sign_99 : decode cX8_sign 99 = .ok (.aload_n 0, 1) := by decide +kernel
theorem dX8_sign_100 : decode cX8_sign 100 = .ok (.getfield 7, 3) := by decide +kernel
theorem dX8_sign_103 : decode cX8_sign 103 = .ok (.sipush 483, 3) := by decide +kernel
theorem dX8_sign_106 : decode cX8_sign 106 = .ok (.iload_n 1, 1) := by decide +kernel
theorem dX8_sign_107 : decode cX8_sign 107 = .ok (.iadd, 1) := by decide +kernel
theorem dX8_sign_108 : decode cX8_sign 108 = .ok (.iaload, 1) := by decide +kernel
theorem dX8_sign_109 : decode cX8_sign 109 = .ok (.goto 6, 3) := by decide +kernel
theorem dX8_sign_112 : decode cX8_sign 112 = .ok (.sipush (-1004), 3) := by decide +kernel
theorem dX8_sign_115 : decode cX8_sign 115 = .ok (.ireturn, 1) := by decide +kernel
theorem dX8_sign_116 : decode cX8_sign 116 = .ok (.iload_n 3, 1) := by decide +kernel
theorem dX8_sign_117 : decode cX8_sign 117 = .ok (.ifCond .ne 16, 3) := by decide +kernel
theorem dX8_sign_120 : decode cX8_sign 120 = .ok (.aload_n 0, 1) := by decide +kernel
theorem dX8_sign_121 : decode cX8_sign 121 = .ok (.getfield 7, 3) := by decide +kernel
theorem dX8_sign_124 : decode cX8_sign 124 = .ok (.sipush 603, 3) := by decide +kernel
theorem dX8_sign_127 : decode cX8_sign 127 = .ok (.iload_n 1, 1) := by decide +kernel
theorem dX8_sign_128 : decode cX8_sign 128 = .ok (.iadd, 1) := by decide +kernel
theorem dX8_sign_129 : decode cX8_sign 129 = .ok (.iaload, 1) := by decide +kernel
theorem dX8_sign_130 : decode cX8_sign 130 = .ok (.goto 6, 3) := by decide +kernel
theorem dX8_sign_133 : decode cX8_sign 133 = .ok (.sipush (-1004), 3) := by decide +kernel
theorem dX8_sign_136 : decode cX8_sign 136 = .ok (.ireturn, 1) := by decide +kernel
theorem dX8_sign_137 : decode cX8_sign 137 = .ok (.iload_n 3, 1) := by decide +kernel
theorem dX8_sign_138 : decode cX8_sign 138 = .ok (.iconst 2, 1) := by decide +kernel
theorem dX8_sign_139 : decode cX8_sign 139 = .ok (.if_icmp .ne 16, 3) := by decide +kernel
theorem dX8_sign_142 : decode cX8_sign 142 = .ok (.aload_n 0, 1) := by decide +kernel
theorem dX8_sign_143 : decode cX8_sign 143 = .ok (.getfield 7, 3) := by decide +kernel
theorem dX8_sign_146 : decode cX8_sign 146 = .ok (.sipush 483, 3) := by decide +kernel
theorem dX8_sign_149 : decode cX8_sign 149 = .ok (.iload_n 1, 1) := by decide +kernel
theorem dX8_sign_150 : decode cX8_sign 150 = .ok (.iadd, 1) := by decide +kernel
theorem dX8_sign_151 : decode cX8_sign 151 = .ok (.iaload, 1) := by decide +kernel
theorem dX8_sign_152 : decode cX8_sign 152 = .ok (.goto 6, 3) := by decide +kernel
theorem dX8_sign_155 : decode cX8_sign 155 = .ok (.sipush (-1004), 3) := by decide +kernel
theorem dX8_sign_158 : decode cX8_sign 158 = .ok (.ireturn, 1) := by decide +kernel
theorem dX8_sign_159 : decode cX8_sign 159 = .ok (.sipush (-1001), 3) := by decide +kernel
theorem dX8_sign_162 : decode cX8_sign 162 = .ok (.ireturn, 1) := by decide +kernel
theorem dX8_signAt_0 : decode cX8_signAt 0 = .ok (.iload_n 1, 1) := by decide +kernel
theorem dX8_signAt_1 : decode cX8_signAt 1 = .ok (.invokestatic 68, 3) := by decide +kernel
theorem dX8_signAt_4 : decode cX8_signAt 4 = .ok (.ifCond .eq 11, 3) := by decide +kernel
theorem dX8_signAt_7 : decode cX8_signAt 7 = .ok (.aload_n 0, 1) := by decide +kernel
theorem dX8_signAt_8 : decode cX8_signAt 8 = .ok (.iload_n 2, 1) := by decide +kernel
theorem dX8_signAt_9 : decode cX8_signAt 9 = .ok (.invokevirtual 57, 3) := by decide +kernel
theorem dX8_signAt_12 : decode cX8_signAt 12 = .ok (.ifCond .ne 7, 3) := by decide +kernel
theorem dX8_signAt_15 : decode cX8_signAt 15 = .ok (.sipush (-1001), 3) := by decide +kernel
theorem dX8_signAt_18 : decode cX8_signAt 18 = .ok (.ireturn, 1) := by decide +kernel
theorem dX8_signAt_19 : decode cX8_signAt 19 = .ok (.aload_n 0, 1) := by decide +kernel
theorem dX8_signAt_20 : decode cX8_signAt 20 = .ok (.invokevirtual 40, 3) := by decide +kernel
theorem dX8_signAt_23 : decode cX8_signAt 23 = .ok (.aload_n 0, 1) := by decide +kernel
theorem dX8_signAt_24 : decode cX8_signAt 24 = .ok (.iload_n 1, 1) := by decide +kernel
theorem dX8_signAt_25 : decode cX8_signAt 25 = .ok (.iload_n 2, 1) := by decide +kernel
theorem dX8_signAt_26 : decode cX8_signAt 26 = .ok (.invokevirtual 43, 3) := by decide +kernel
theorem dX8_signAt_29 : decode cX8_signAt 29 = .ok (.istore_n 3, 1) := by decide +kernel
theorem dX8_signAt_30 : decode cX8_signAt 30 = .ok (.iload_n 3, 1) := by decide +kernel
theorem dX8_signAt_31 : decode cX8_signAt 31 = .ok (.ifCond .ge 9, 3) := by decide +kernel
theorem dX8_signAt_34 : decode cX8_signAt 34 = .ok (.sipush (-1004), 3) := by decide +kernel
theorem dX8_signAt_37 : decode cX8_signAt 37 = .ok (.goto 4, 3) := by decide +kernel
theorem dX8_signAt_40 : decode cX8_signAt 40 = .ok (.iload_n 3, 1) := by decide +kernel
theorem dX8_signAt_41 : decode cX8_signAt 41 = .ok (.ireturn, 1) := by decide +kernel
theorem dX8_isBearing_0 : decode cX8_isBearing 0 = .ok (.aload_n 0, 1) := by decide +kernel
theorem dX8_isBearing_1 : decode cX8_isBearing 1 = .ok (.iload_n 1, 1) := by decide +kernel
theorem dX8_isBearing_2 : decode cX8_isBearing 2 = .ok (.iload_n 2, 1) := by decide +kernel
theorem dX8_isBearing_3 : decode cX8_isBearing 3 = .ok (.invokevirtual 43, 3) := by decide +kernel
theorem dX8_isBearing_6 : decode cX8_isBearing 6 = .ok (.istore_n 3, 1) := by decide +kernel
theorem dX8_isBearing_7 : decode cX8_isBearing 7 = .ok (.iload_n 3, 1) := by decide +kernel
theorem dX8_isBearing_8 : decode cX8_isBearing 8 = .ok (.ifCond .lt 21, 3) := by decide +kernel
theorem dX8_isBearing_11 : decode cX8_isBearing 11 = .ok (.aload_n 0, 1) := by decide +kernel
theorem dX8_isBearing_12 : decode cX8_isBearing 12 = .ok (.getfield 7, 3) := by decide +kernel
theorem dX8_isBearing_15 : decode cX8_isBearing 15 = .ok (.sipush 243, 3) := by decide +kernel
theorem dX8_isBearing_18 : decode cX8_isBearing 18 = .ok (.iload_n 3, 1) := by decide +kernel
theorem dX8_isBearing_19 : decode cX8_isBearing 19 = .ok (.iadd, 1) := by decide +kernel
theorem dX8_isBearing_20 : decode cX8_isBearing 20 = .ok (.iaload, 1) := by decide +kernel
theorem dX8_isBearing_21 : decode cX8_isBearing 21 = .ok (.iconst 1, 1) := by decide +kernel
theorem dX8_isBearing_22 : decode cX8_isBearing 22 = .ok (.if_icmp .gt 7, 3) := by decide +kernel
theorem dX8_isBearing_25 : decode cX8_isBearing 25 = .ok (.iconst 1, 1) := by decide +kernel
theorem dX8_isBearing_26 : decode cX8_isBearing 26 = .ok (.goto 4, 3) := by decide +kernel
theorem dX8_isBearing_29 : decode cX8_isBearing 29 = .ok (.iconst 0, 1) := by decide +kernel
theorem dX8_isBearing_30 : decode cX8_isBearing 30 = .ok (.ireturn, 1) := by decide +kernel
theorem dX8_feet_0 : decode cX8_feet 0 = .ok (.aload_n 0, 1) := by decide +kernel
theorem dX8_feet_1 : decode cX8_feet 1 = .ok (.iconst 0, 1) := by decide +kernel
theorem dX8_feet_2 : decode cX8_feet 2 = .ok (.iload_n 1, 1) := by decide +kernel
theorem dX8_feet_3 : decode cX8_feet 3 = .ok (.invokevirtual 91, 3) := by decide +kernel
theorem dX8_feet_6 : decode cX8_feet 6 = .ok (.ifCond .eq 7, 3) := by decide +kernel
theorem dX8_feet_9 : decode cX8_feet 9 = .ok (.iconst 1, 1) := by decide +kernel
theorem dX8_feet_10 : decode cX8_feet 10 = .ok (.goto 4, 3) := by decide +kernel
theorem dX8_feet_13 : decode cX8_feet 13 = .ok (.iconst 0, 1) := by decide +kernel
theorem dX8_feet_14 : decode cX8_feet 14 = .ok (.aload_n 0, 1) := by decide +kernel
theorem dX8_feet_15 : decode cX8_feet 15 = .ok (.iconst 1, 1) := by decide +kernel
theorem dX8_feet_16 : decode cX8_feet 16 = .ok (.iload_n 1, 1) := by decide +kernel
theorem dX8_feet_17 : decode cX8_feet 17 = .ok (.invokevirtual 91, 3) := by decide +kernel
theorem dX8_feet_20 : decode cX8_feet 20 = .ok (.ifCond .eq 7, 3) := by decide +kernel
theorem dX8_feet_23 : decode cX8_feet 23 = .ok (.iconst 2, 1) := by decide +kernel
theorem dX8_feet_24 : decode cX8_feet 24 = .ok (.goto 4, 3) := by decide +kernel
theorem dX8_feet_27 : decode cX8_feet 27 = .ok (.iconst 0, 1) := by decide +kernel
theorem dX8_feet_28 : decode cX8_feet 28 = .ok (.iadd, 1) := by decide +kernel
theorem dX8_feet_29 : decode cX8_feet 29 = .ok (.ireturn, 1) := by decide +kernel
theorem dX8_isTwice_0 : decode cX8_isTwice 0 = .ok (.aload_n 0, 1) := by decide +kernel
theorem dX8_isTwice_1 : decode cX8_isTwice 1 = .ok (.iconst 2, 1) := by decide +kernel
theorem dX8_isTwice_2 : decode cX8_isTwice 2 = .ok (.iload_n 1, 1) := by decide +kernel
theorem dX8_isTwice_3 : decode cX8_isTwice 3 = .ok (.iadd, 1) := by decide +kernel
theorem dX8_isTwice_4 : decode cX8_isTwice 4 = .ok (.iload_n 2, 1) := by decide +kernel
theorem dX8_isTwice_5 : decode cX8_isTwice 5 = .ok (.invokevirtual 43, 3) := by decide +kernel
theorem dX8_isTwice_8 : decode cX8_isTwice 8 = .ok (.istore_n 3, 1) := by decide +kernel
theorem dX8_isTwice_9 : decode cX8_isTwice 9 = .ok (.iload_n 3, 1) := by decide +kernel
theorem dX8_isTwice_10 : decode cX8_isTwice 10 = .ok (.ifCond .lt 29, 3) := by decide +kernel
theorem dX8_isTwice_13 : decode cX8_isTwice 13 = .ok (.aload_n 0, 1) := by decide +kernel
theorem dX8_isTwice_14 : decode cX8_isTwice 14 = .ok (.getfield 7, 3) := by decide +kernel
theorem dX8_isTwice_17 : decode cX8_isTwice 17 = .ok (.sipush 243, 3) := by decide +kernel
theorem dX8_isTwice_20 : decode cX8_isTwice 20 = .ok (.iload_n 3, 1) := by decide +kernel
theorem dX8_isTwice_21 : decode cX8_isTwice 21 = .ok (.iadd, 1) := by decide +kernel
theorem dX8_isTwice_22 : decode cX8_isTwice 22 = .ok (.iaload, 1) := by decide +kernel
theorem dX8_isTwice_23 : decode cX8_isTwice 23 = .ok (.ifCond .ne 16, 3) := by decide +kernel
theorem dX8_isTwice_26 : decode cX8_isTwice 26 = .ok (.aload_n 0, 1) := by decide +kernel
theorem dX8_isTwice_27 : decode cX8_isTwice 27 = .ok (.iload_n 1, 1) := by decide +kernel
theorem dX8_isTwice_28 : decode cX8_isTwice 28 = .ok (.iload_n 2, 1) := by decide +kernel
theorem dX8_isTwice_29 : decode cX8_isTwice 29 = .ok (.invokevirtual 91, 3) := by decide +kernel
theorem dX8_isTwice_32 : decode cX8_isTwice 32 = .ok (.ifCond .eq 7, 3) := by decide +kernel
theorem dX8_isTwice_35 : decode cX8_isTwice 35 = .ok (.iconst 1, 1) := by decide +kernel
theorem dX8_isTwice_36 : decode cX8_isTwice 36 = .ok (.goto 4, 3) := by decide +kernel
theorem dX8_isTwice_39 : decode cX8_isTwice 39 = .ok (.iconst 0, 1) := by decide +kernel
theorem dX8_isTwice_40 : decode cX8_isTwice 40 = .ok (.ireturn, 1) := by decide +kernel
theorem dX8_twice_0 : decode cX8_twice 0 = .ok (.aload_n 0, 1) := by decide +kernel
theorem dX8_twice_1 : decode cX8_twice 1 = .ok (.iconst 0, 1) := by decide +kernel
theorem dX8_twice_2 : decode cX8_twice 2 = .ok (.iload_n 1, 1) := by decide +kernel
theorem dX8_twice_3 : decode cX8_twice 3 = .ok (.invokevirtual 94, 3) := by decide +kernel
theorem dX8_twice_6 : decode cX8_twice 6 = .ok (.ifCond .eq 7, 3) := by decide +kernel
theorem dX8_twice_9 : decode cX8_twice 9 = .ok (.iconst 1, 1) := by decide +kernel
theorem dX8_twice_10 : decode cX8_twice 10 = .ok (.goto 4, 3) := by decide +kernel
theorem dX8_twice_13 : decode cX8_twice 13 = .ok (.iconst 0, 1) := by decide +kernel
theorem dX8_twice_14 : decode cX8_twice 14 = .ok (.aload_n 0, 1) := by decide +kernel
theorem dX8_twice_15 : decode cX8_twice 15 = .ok (.iconst 1, 1) := by decide +kernel
theorem dX8_twice_16 : decode cX8_twice 16 = .ok (.iload_n 1, 1) := by decide +kernel
theorem dX8_twice_17 : decode cX8_twice 17 = .ok (.invokevirtual 94, 3) := by decide +kernel
theorem dX8_twice_20 : decode cX8_twice 20 = .ok (.ifCond .eq 7, 3) := by decide +kernel
theorem dX8_twice_23 : decode cX8_twice 23 = .ok (.iconst 2, 1) := by decide +kernel
theorem dX8_twice_24 : decode cX8_twice 24 = .ok (.goto 4, 3) := by decide +kernel
theorem dX8_twice_27 : decode cX8_twice 27 = .ok (.iconst 0, 1) := by decide +kernel
theorem dX8_twice_28 : decode cX8_twice 28 = .ok (.iadd, 1) := by decide +kernel
theorem dX8_twice_29 : decode cX8_twice 29 = .ok (.ireturn, 1) := by decide +kernel
theorem dX8_flight_0 : decode cX8_flight 0 = .ok (.aload_n 0, 1) := by decide +kernel
theorem dX8_flight_1 : decode cX8_flight 1 = .ok (.iload_n 1, 1) := by decide +kernel
theorem dX8_flight_2 : decode cX8_flight 2 = .ok (.invokevirtual 97, 3) := by decide +kernel
theorem dX8_flight_5 : decode cX8_flight 5 = .ok (.ifCond .eq 5, 3) := by decide +kernel
theorem dX8_flight_8 : decode cX8_flight 8 = .ok (.iconst 0, 1) := by decide +kernel
theorem dX8_flight_9 : decode cX8_flight 9 = .ok (.ireturn, 1) := by decide +kernel
theorem dX8_flight_10 : decode cX8_flight 10 = .ok (.iconst 1, 1) := by decide +kernel
theorem dX8_flight_11 : decode cX8_flight 11 = .ok (.istore_n 2, 1) := by decide +kernel
theorem dX8_flight_12 : decode cX8_flight 12 = .ok (.iload_n 1, 1) := by decide +kernel
theorem dX8_flight_13 : decode cX8_flight 13 = .ok (.iconst 1, 1) := by decide +kernel
theorem dX8_flight_14 : decode cX8_flight 14 = .ok (.isub, 1) := by decide +kernel
theorem dX8_flight_15 : decode cX8_flight 15 = .ok (.istore_n 3, 1) := by decide +kernel
theorem dX8_flight_16 : decode cX8_flight 16 = .ok (.iload_n 3, 1) := by decide +kernel
theorem dX8_flight_17 : decode cX8_flight 17 = .ok (.ifCond .lt 20, 3) := by decide +kernel
theorem dX8_flight_20 : decode cX8_flight 20 = .ok (.aload_n 0, 1) := by decide +kernel
theorem dX8_flight_21 : decode cX8_flight 21 = .ok (.iload_n 3, 1) := by decide +kernel
theorem dX8_flight_22 : decode cX8_flight 22 = .ok (.invokevirtual 97, 3) := by decide +kernel
theorem dX8_flight_25 : decode cX8_flight 25 = .ok (.ifCond .ne 12, 3) := by decide +kernel
theorem dX8_flight_28 : decode cX8_flight 28 = .ok (.iinc 2 1, 3) := by decide +kernel
theorem dX8_flight_31 : decode cX8_flight 31 = .ok (.iinc 3 (-1), 3) := by decide +kernel
theorem dX8_flight_34 : decode cX8_flight 34 = .ok (.goto (-18), 3) := by decide +kernel
theorem dX8_flight_37 : decode cX8_flight 37 = .ok (.iload_n 1, 1) := by decide +kernel
theorem dX8_flight_38 : decode cX8_flight 38 = .ok (.iconst 1, 1) := by decide +kernel
theorem dX8_flight_39 : decode cX8_flight 39 = .ok (.iadd, 1) := by decide +kernel
theorem dX8_flight_40 : decode cX8_flight 40 = .ok (.istore_n 3, 1) := by decide +kernel
theorem dX8_flight_41 : decode cX8_flight 41 = .ok (.iload_n 3, 1) := by decide +kernel
theorem dX8_flight_42 : decode cX8_flight 42 = .ok (.aload_n 0, 1) := by decide +kernel
theorem dX8_flight_43 : decode cX8_flight 43 = .ok (.getfield 7, 3) := by decide +kernel
theorem dX8_flight_46 : decode cX8_flight 46 = .ok (.iconst 0, 1) := by decide +kernel
theorem dX8_flight_47 : decode cX8_flight 47 = .ok (.iaload, 1) := by decide +kernel
theorem dX8_flight_48 : decode cX8_flight 48 = .ok (.if_icmp .ge 20, 3) := by decide +kernel
theorem dX8_flight_51 : decode cX8_flight 51 = .ok (.aload_n 0, 1) := by decide +kernel
theorem dX8_flight_52 : decode cX8_flight 52 = .ok (.iload_n 3, 1) := by decide +kernel
theorem dX8_flight_53 : decode cX8_flight 53 = .ok (.invokevirtual 97, 3) := by decide +kernel
theorem dX8_flight_56 : decode cX8_flight 56 = .ok (.ifCond .ne 12, 3) := by decide +kernel
theorem dX8_flight_59 : decode cX8_flight 59 = .ok (.iinc 2 1, 3) := by decide +kernel
theorem dX8_flight_62 : decode cX8_flight 62 = .ok (.iinc 3 1, 3) := by decide +kernel
theorem dX8_flight_65 : decode cX8_flight 65 = .ok (.goto (-24), 3) := by decide +kernel
theorem dX8_flight_68 : decode cX8_flight 68 = .ok (.iload_n 2, 1) := by decide +kernel
theorem dX8_flight_69 : decode cX8_flight 69 = .ok (.ireturn, 1) := by decide +kernel
theorem dX8_isWrong_0 : decode cX8_isWrong 0 = .ok (.aload_n 0, 1) := by decide +kernel
theorem dX8_isWrong_1 : decode cX8_isWrong 1 = .ok (.iload_n 1, 1) := by decide +kernel
theorem dX8_isWrong_2 : decode cX8_isWrong 2 = .ok (.invokevirtual 100, 3) := by decide +kernel
theorem dX8_isWrong_5 : decode cX8_isWrong 5 = .ok (.ifCond .ne 17, 3) := by decide +kernel
theorem dX8_isWrong_8 : decode cX8_isWrong 8 = .ok (.aload_n 0, 1) := by decide +kernel
theorem dX8_isWrong_9 : decode cX8_isWrong 9 = .ok (.iload_n 1, 1) := by decide +kernel
theorem dX8_isWrong_10 : decode cX8_isWrong 10 = .ok (.invokevirtual 103, 3) := by decide +kernel
theorem dX8_isWrong_13 : decode cX8_isWrong 13 = .ok (.aload_n 0, 1) := by decide +kernel
theorem dX8_isWrong_14 : decode cX8_isWrong 14 = .ok (.getfield 7, 3) := by decide +kernel
theorem dX8_isWrong_17 : decode cX8_isWrong 17 = .ok (.iconst 1, 1) := by decide +kernel
theorem dX8_isWrong_18 : decode cX8_isWrong 18 = .ok (.iaload, 1) := by decide +kernel
theorem dX8_isWrong_19 : decode cX8_isWrong 19 = .ok (.if_icmp .le 7, 3) := by decide +kernel
theorem dX8_isWrong_22 : decode cX8_isWrong 22 = .ok (.iconst 1, 1) := by decide +kernel
theorem dX8_isWrong_23 : decode cX8_isWrong 23 = .ok (.goto 4, 3) := by decide +kernel
theorem dX8_isWrong_26 : decode cX8_isWrong 26 = .ok (.iconst 0, 1) := by decide +kernel
theorem dX8_isWrong_27 : decode cX8_isWrong 27 = .ok (.ireturn, 1) := by decide +kernel
theorem dX8_bears_0 : decode cX8_bears 0 = .ok (.aload_n 0, 1) := by decide +kernel
theorem dX8_bears_1 : decode cX8_bears 1 = .ok (.invokevirtual 40, 3) := by decide +kernel
theorem dX8_bears_4 : decode cX8_bears 4 = .ok (.aload_n 0, 1) := by decide +kernel
theorem dX8_bears_5 : decode cX8_bears 5 = .ok (.iload_n 1, 1) := by decide +kernel
theorem dX8_bears_6 : decode cX8_bears 6 = .ok (.invokevirtual 57, 3) := by decide +kernel
theorem dX8_bears_9 : decode cX8_bears 9 = .ok (.ifCond .eq 11, 3) := by decide +kernel
theorem dX8_bears_12 : decode cX8_bears 12 = .ok (.aload_n 0, 1) := by decide +kernel
theorem dX8_bears_13 : decode cX8_bears 13 = .ok (.iload_n 1, 1) := by decide +kernel
theorem dX8_bears_14 : decode cX8_bears 14 = .ok (.invokevirtual 97, 3) := by decide +kernel
theorem dX8_bears_17 : decode cX8_bears 17 = .ok (.goto 6, 3) := by decide +kernel
theorem dX8_bears_20 : decode cX8_bears 20 = .ok (.sipush (-1001), 3) := by decide +kernel
theorem dX8_bears_23 : decode cX8_bears 23 = .ok (.ireturn, 1) := by decide +kernel
theorem dX8_toldTwice_0 : decode cX8_toldTwice 0 = .ok (.aload_n 0, 1) := by decide +kernel
theorem dX8_toldTwice_1 : decode cX8_toldTwice 1 = .ok (.invokevirtual 40, 3) := by decide +kernel
theorem dX8_toldTwice_4 : decode cX8_toldTwice 4 = .ok (.aload_n 0, 1) := by decide +kernel
theorem dX8_toldTwice_5 : decode cX8_toldTwice 5 = .ok (.iload_n 1, 1) := by decide +kernel
theorem dX8_toldTwice_6 : decode cX8_toldTwice 6 = .ok (.invokevirtual 57, 3) := by decide +kernel
theorem dX8_toldTwice_9 : decode cX8_toldTwice 9 = .ok (.ifCond .eq 11, 3) := by decide +kernel
theorem dX8_toldTwice_12 : decode cX8_toldTwice 12 = .ok (.aload_n 0, 1) := by decide +kernel
theorem dX8_toldTwice_13 : decode cX8_toldTwice 13 = .ok (.iload_n 1, 1) := by decide +kernel
theorem dX8_toldTwice_14 : decode cX8_toldTwice 14 = .ok (.invokevirtual 100, 3) := by decide +kernel
theorem dX8_toldTwice_17 : decode cX8_toldTwice 17 = .ok (.goto 6, 3) := by decide +kernel
theorem dX8_toldTwice_20 : decode cX8_toldTwice 20 = .ok (.sipush (-1001), 3) := by decide +kernel
theorem dX8_toldTwice_23 : decode cX8_toldTwice 23 = .ok (.ireturn, 1) := by decide +kernel
theorem dX8_isFaulty_0 : decode cX8_isFaulty 0 = .ok (.aload_n 0, 1) := by decide +kernel
theorem dX8_isFaulty_1 : decode cX8_isFaulty 1 = .ok (.invokevirtual 40, 3) := by decide +kernel
theorem dX8_isFaulty_4 : decode cX8_isFaulty 4 = .ok (.aload_n 0, 1) := by decide +kernel
theorem dX8_isFaulty_5 : decode cX8_isFaulty 5 = .ok (.iload_n 1, 1) := by decide +kernel
theorem dX8_isFaulty_6 : decode cX8_isFaulty 6 = .ok (.invokevirtual 57, 3) := by decide +kernel
theorem dX8_isFaulty_9 : decode cX8_isFaulty 9 = .ok (.ifCond .ne 9, 3) := by decide +kernel
theorem dX8_isFaulty_12 : decode cX8_isFaulty 12 = .ok (.sipush (-1001), 3) := by decide +kernel
theorem dX8_isFaulty_15 : decode cX8_isFaulty 15 = .ok (.goto 16, 3) := by decide +kernel
theorem dX8_isFaulty_18 : decode cX8_isFaulty 18 = .ok (.aload_n 0, 1) := by decide +kernel
theorem dX8_isFaulty_19 : decode cX8_isFaulty 19 = .ok (.iload_n 1, 1) := by decide +kernel
theorem dX8_isFaulty_20 : decode cX8_isFaulty 20 = .ok (.invokevirtual 106, 3) := by decide +kernel
theorem dX8_isFaulty_23 : decode cX8_isFaulty 23 = .ok (.ifCond .eq 7, 3) := by decide +kernel
theorem dX8_isFaulty_26 : decode cX8_isFaulty 26 = .ok (.iconst 1, 1) := by decide +kernel
theorem dX8_isFaulty_27 : decode cX8_isFaulty 27 = .ok (.goto 4, 3) := by decide +kernel
theorem dX8_isFaulty_30 : decode cX8_isFaulty 30 = .ok (.iconst 0, 1) := by decide +kernel
theorem dX8_isFaulty_31 : decode cX8_isFaulty 31 = .ok (.ireturn, 1) := by decide +kernel
theorem dX8_nextFault_0 : decode cX8_nextFault 0 = .ok (.aload_n 0, 1) := by decide +kernel
theorem dX8_nextFault_1 : decode cX8_nextFault 1 = .ok (.iload_n 1, 1) := by decide +kernel
theorem dX8_nextFault_2 : decode cX8_nextFault 2 = .ok (.invokevirtual 57, 3) := by decide +kernel
theorem dX8_nextFault_5 : decode cX8_nextFault 5 = .ok (.ifCond .ne 7, 3) := by decide +kernel
theorem dX8_nextFault_8 : decode cX8_nextFault 8 = .ok (.sipush (-1001), 3) := by decide +kernel
theorem dX8_nextFault_11 : decode cX8_nextFault 11 = .ok (.ireturn, 1) := by decide +kernel
theorem dX8_nextFault_12 : decode cX8_nextFault 12 = .ok (.aload_n 0, 1) := by decide +kernel
theorem dX8_nextFault_13 : decode cX8_nextFault 13 = .ok (.invokevirtual 40, 3) := by decide +kernel
theorem dX8_nextFault_16 : decode cX8_nextFault 16 = .ok (.iload_n 1, 1) := by decide +kernel
theorem dX8_nextFault_17 : decode cX8_nextFault 17 = .ok (.istore_n 2, 1) := by decide +kernel
theorem dX8_nextFault_18 : decode cX8_nextFault 18 = .ok (.iload_n 2, 1) := by decide +kernel
theorem dX8_nextFault_19 : decode cX8_nextFault 19 = .ok (.aload_n 0, 1) := by decide +kernel
theorem dX8_nextFault_20 : decode cX8_nextFault 20 = .ok (.getfield 7, 3) := by decide +kernel
theorem dX8_nextFault_23 : decode cX8_nextFault 23 = .ok (.iconst 0, 1) := by decide +kernel
theorem dX8_nextFault_24 : decode cX8_nextFault 24 = .ok (.iaload, 1) := by decide +kernel
theorem dX8_nextFault_25 : decode cX8_nextFault 25 = .ok (.if_icmp .ge 19, 3) := by decide +kernel
theorem dX8_nextFault_28 : decode cX8_nextFault 28 = .ok (.aload_n 0, 1) := by decide +kernel
theorem dX8_nextFault_29 : decode cX8_nextFault 29 = .ok (.iload_n 2, 1) := by decide +kernel
theorem dX8_nextFault_30 : decode cX8_nextFault 30 = .ok (.invokevirtual 106, 3) := by decide +kernel
theorem dX8_nextFault_33 : decode cX8_nextFault 33 = .ok (.ifCond .eq 5, 3) := by decide +kernel
theorem dX8_nextFault_36 : decode cX8_nextFault 36 = .ok (.iload_n 2, 1) := by decide +kernel
theorem dX8_nextFault_37 : decode cX8_nextFault 37 = .ok (.ireturn, 1) := by decide +kernel
theorem dX8_nextFault_38 : decode cX8_nextFault 38 = .ok (.iinc 2 1, 3) := by decide +kernel
theorem dX8_nextFault_41 : decode cX8_nextFault 41 = .ok (.goto (-23), 3) := by decide +kernel
theorem dX8_nextFault_44 : decode cX8_nextFault 44 = .ok (.sipush (-1004), 3) := by decide +kernel
theorem dX8_nextFault_47 : decode cX8_nextFault 47 = .ok (.ireturn, 1) := by decide +kernel
theorem dX8_beats_0 : decode cX8_beats 0 = .ok (.iload_n 1, 1) := by decide +kernel
theorem dX8_beats_1 : decode cX8_beats 1 = .ok (.iconst 0, 1) := by decide +kernel
theorem dX8_beats_2 : decode cX8_beats 2 = .ok (.bipush 6, 2) := by decide +kernel
theorem dX8_beats_4 : decode cX8_beats 4 = .ok (.invokestatic 32, 3) := by decide +kernel
theorem dX8_beats_7 : decode cX8_beats 7 = .ok (.ifCond .ne 7, 3) := by decide +kernel
theorem dX8_beats_10 : decode cX8_beats 10 = .ok (.sipush (-1001), 3) := by decide +kernel
theorem dX8_beats_13 : decode cX8_beats 13 = .ok (.ireturn, 1) := by decide +kernel
theorem dX8_beats_14 : decode cX8_beats 14 = .ok (.aload_n 0, 1) := by decide +kernel
theorem dX8_beats_15 : decode cX8_beats 15 = .ok (.invokevirtual 40, 3) := by decide +kernel
theorem dX8_beats_18 : decode cX8_beats 18 = .ok (.iconst 0, 1) := by decide +kernel
theorem dX8_beats_19 : decode cX8_beats 19 = .ok (.istore_n 2, 1) := by decide +kernel
theorem dX8_beats_20 : decode cX8_beats 20 = .ok (.iconst 0, 1) := by decide +kernel
theorem dX8_beats_21 : decode cX8_beats 21 = .ok (.istore_n 3, 1) := by decide +kernel
theorem dX8_beats_22 : decode cX8_beats 22 = .ok (.iconst 0, 1) := by decide +kernel
theorem dX8_beats_23 : decode cX8_beats 23 = .ok (.istore 4, 2) := by decide +kernel
theorem dX8_beats_25 : decode cX8_beats 25 = .ok (.iconst 0, 1) := by decide +kernel
theorem dX8_beats_26 : decode cX8_beats 26 = .ok (.istore 5, 2) := by decide +kernel
theorem dX8_beats_28 : decode cX8_beats 28 = .ok (.iconst 0, 1) := by decide +kernel
theorem dX8_beats_29 : decode cX8_beats 29 = .ok (.istore 6, 2) := by decide +kernel
theorem dX8_beats_31 : decode cX8_beats 31 = .ok (.iload 6, 2) := by decide +kernel
theorem dX8_beats_33 : decode cX8_beats 33 = .ok (.aload_n 0, 1) := by decide +kernel
theorem dX8_beats_34 : decode cX8_beats 34 = .ok (.getfield 7, 3) := by decide +kernel
theorem dX8_beats_37 : decode cX8_beats 37 = .ok (.iconst 0, 1) := by decide +kernel
theorem dX8_beats_38 : decode cX8_beats 38 = .ok (.iaload, 1) := by decide +kernel
theorem dX8_beats_39 : decode cX8_beats 39 = .ok (.if_icmp .ge 112, 3) := by decide +kernel
theorem dX8_beats_42 : decode cX8_beats 42 = .ok (.aload_n 0, 1) := by decide +kernel
theorem dX8_beats_43 : decode cX8_beats 43 = .ok (.iload 6, 2) := by decide +kernel
theorem dX8_beats_45 : decode cX8_beats 45 = .ok (.invokevirtual 97, 3) := by decide +kernel
theorem dX8_beats_48 : decode cX8_beats 48 = .ok (.istore 7, 2) := by decide +kernel
theorem dX8_beats_50 : decode cX8_beats 50 = .ok (.aload_n 0, 1) := by decide +kernel
theorem dX8_beats_51 : decode cX8_beats 51 = .ok (.iload 6, 2) := by decide +kernel
theorem dX8_beats_53 : decode cX8_beats 53 = .ok (.invokevirtual 103, 3) := by decide +kernel
theorem dX8_beats_56 : decode cX8_beats 56 = .ok (.istore 8, 2) := by decide +kernel
theorem dX8_beats_58 : decode cX8_beats 58 = .ok (.iload_n 2, 1) := by decide +kernel
theorem dX8_beats_59 : decode cX8_beats 59 = .ok (.iload_n 1, 1) := by decide +kernel
theorem dX8_beats_60 : decode cX8_beats 60 = .ok (.ifCond .ne 20, 3) := by decide +kernel
theorem dX8_beats_63 : decode cX8_beats 63 = .ok (.aload_n 0, 1) := by decide +kernel
theorem dX8_beats_64 : decode cX8_beats 64 = .ok (.iload 6, 2) := by decide +kernel
theorem dX8_beats_66 : decode cX8_beats 66 = .ok (.invokevirtual 106, 3) := by decide +kernel
theorem dX8_beats_69 : decode cX8_beats 69 = .ok (.ifCond .eq 7, 3) := by decide +kernel
theorem dX8_beats_72 : decode cX8_beats 72 = .ok (.iconst 1, 1) := by decide +kernel
theorem dX8_beats_73 : decode cX8_beats 73 = .ok (.goto 25, 3) := by decide +kernel
theorem dX8_beats_76 : decode cX8_beats 76 = .ok (.iconst 0, 1) := by decide +kernel
theorem dX8_beats_77 : decode cX8_beats 77 = .ok (.goto 21, 3) := by decide +kernel
theorem dX8_beats_80 : decode cX8_beats 80 = .ok (.iload_n 1, 1) := by decide +kernel
theorem dX8_beats_81 : decode cX8_beats 81 = .ok (.iconst 5, 1) := by decide +kernel
theorem dX8_beats_82 : decode cX8_beats 82 = .ok (.if_icmp .ge 15, 3) := by decide +kernel
theorem dX8_beats_85 : decode cX8_beats 85 = .ok (.iload 7, 2) := by decide +kernel
theorem dX8_beats_87 : decode cX8_beats 87 = .ok (.iload_n 1, 1) := by decide +kernel
theorem dX8_beats_88 : decode cX8_beats 88 = .ok (.iconst 1, 1) := by decide +kernel
theorem dX8_beats_89 : decode cX8_beats 89 = .ok (.isub, 1) := by decide +kernel
theorem dX8_beats_90 : decode cX8_beats 90 = .ok (.if_icmp .ne 7, 3) := by decide +kernel
theorem dX8_beats_93 : decode cX8_beats 93 = .ok (.iconst 1, 1) := by decide +kernel
theorem dX8_beats_94 : decode cX8_beats 94 = .ok (.goto 4, 3) := by decide +kernel
theorem dX8_beats_97 : decode cX8_beats 97 = .ok (.iconst 0, 1) := by decide +kernel
theorem dX8_beats_98 : decode cX8_beats 98 = .ok (.iadd, 1) := by decide +kernel
theorem dX8_beats_99 : decode cX8_beats 99 = .ok (.istore_n 2, 1) := by decide +kernel
theorem dX8_beats_100 : decode cX8_beats 100 = .ok (.iload 8, 2) := by decide +kernel
theorem dX8_beats_102 : decode cX8_beats 102 = .ok (.iload_n 3, 1) := by decide +kernel
theorem dX8_beats_103 : decode cX8_beats 103 = .ok (.if_icmp .le 8, 3) := by decide +kernel
theorem dX8_beats_106 : decode cX8_beats 106 = .ok (.iload 8, 2) := by decide +kernel
theorem dX8_beats_108 : decode cX8_beats 108 = .ok (.goto 4, 3) := by decide +kernel
theorem dX8_beats_111 : decode cX8_beats 111 = .ok (.iload_n 3, 1) := by decide +kernel
theorem dX8_beats_112 : decode cX8_beats 112 = .ok (.istore_n 3, 1) := by decide +kernel
theorem dX8_beats_113 : decode cX8_beats 113 = .ok (.iload 4, 2) := by decide +kernel
theorem dX8_beats_115 : decode cX8_beats 115 = .ok (.iload 8, 2) := by decide +kernel
theorem dX8_beats_117 : decode cX8_beats 117 = .ok (.ifCond .le 12, 3) := by decide +kernel
theorem dX8_beats_120 : decode cX8_beats 120 = .ok (.iload 5, 2) := by decide +kernel
theorem dX8_beats_122 : decode cX8_beats 122 = .ok (.ifCond .ne 7, 3) := by decide +kernel
theorem dX8_beats_125 : decode cX8_beats 125 = .ok (.iconst 1, 1) := by decide +kernel
theorem dX8_beats_126 : decode cX8_beats 126 = .ok (.goto 4, 3) := by decide +kernel
theorem dX8_beats_129 : decode cX8_beats 129 = .ok (.iconst 0, 1) := by decide +kernel
theorem dX8_beats_130 : decode cX8_beats 130 = .ok (.iadd, 1) := by decide +kernel
theorem dX8_beats_131 : decode cX8_beats 131 = .ok (.istore 4, 2) := by decide +kernel
theorem dX8_beats_133 : decode cX8_beats 133 = .ok (.iload 8, 2) := by decide +kernel
theorem dX8_beats_135 : decode cX8_beats 135 = .ok (.ifCond .le 7, 3) := by decide +kernel
theorem dX8_beats_138 : decode cX8_beats 138 = .ok (.iconst 1, 1) := by decide +kernel
theorem dX8_beats_139 : decode cX8_beats 139 = .ok (.goto 4, 3) := by decide +kernel
theorem dX8_beats_142 : decode cX8_beats 142 = .ok (.iconst 0, 1) := by decide +kernel
theorem dX8_beats_143 : decode cX8_beats 143 = .ok (.istore 5, 2) := by decide +kernel
theorem dX8_beats_145 : decode cX8_beats 145 = .ok (.iinc 6 1, 3) := by decide +kernel
theorem dX8_beats_148 : decode cX8_beats 148 = .ok (.goto (-117), 3) := by decide +kernel
theorem dX8_beats_151 : decode cX8_beats 151 = .ok (.iload_n 1, 1) := by decide +kernel
theorem dX8_beats_152 : decode cX8_beats 152 = .ok (.iconst 5, 1) := by decide +kernel
theorem dX8_beats_153 : decode cX8_beats 153 = .ok (.if_icmp .ne 7, 3) := by decide +kernel
theorem dX8_beats_156 : decode cX8_beats 156 = .ok (.iload_n 3, 1) := by decide +kernel
theorem dX8_beats_157 : decode cX8_beats 157 = .ok (.goto 15, 3) := by decide +kernel
theorem dX8_beats_160 : decode cX8_beats 160 = .ok (.iload_n 1, 1) := by decide +kernel
theorem dX8_beats_161 : decode cX8_beats 161 = .ok (.bipush 6, 2) := by decide +kernel
theorem dX8_beats_163 : decode cX8_beats 163 = .ok (.if_icmp .ne 8, 3) := by decide +kernel
theorem dX8_beats_166 : decode cX8_beats 166 = .ok (.iload 4, 2) := by decide +kernel
theorem dX8_beats_168 : decode cX8_beats 168 = .ok (.goto 4, 3) := by decide +kernel
theorem dX8_beats_171 : decode cX8_beats 171 = .ok (.iload_n 2, 1) := by decide +kernel
theorem dX8_beats_172 : decode cX8_beats 172 = .ok (.ireturn, 1) := by decide +kernel
theorem dX8_leastLeap_0 : decode cX8_leastLeap 0 = .ok (.aload_n 0, 1) := by decide +kernel
theorem dX8_leastLeap_1 : decode cX8_leastLeap 1 = .ok (.invokevirtual 40, 3) := by decide +kernel
theorem dX8_leastLeap_4 : decode cX8_leastLeap 4 = .ok (.iconst 0, 1) := by decide +kernel
theorem dX8_leastLeap_5 : decode cX8_leastLeap 5 = .ok (.istore_n 1, 1) := by decide +kernel
theorem dX8_leastLeap_6 : decode cX8_leastLeap 6 = .ok (.iload_n 1, 1) := by decide +kernel
theorem dX8_leastLeap_7 : decode cX8_leastLeap 7 = .ok (.aload_n 0, 1) := by decide +kernel
theorem dX8_leastLeap_8 : decode cX8_leastLeap 8 = .ok (.getfield 7, 3) := by decide +kernel
theorem dX8_leastLeap_11 : decode cX8_leastLeap 11 = .ok (.iconst 0, 1) := by decide +kernel
theorem dX8_leastLeap_12 : decode cX8_leastLeap 12 = .ok (.iaload, 1) := by decide +kernel
theorem dX8_leastLeap_13 : decode cX8_leastLeap 13 = .ok (.if_icmp .ge 21, 3) := by decide +kernel
theorem dX8_leastLeap_16 : decode cX8_leastLeap 16 = .ok (.aload_n 0, 1) := by decide +kernel
theorem dX8_leastLeap_17 : decode cX8_leastLeap 17 = .ok (.iload_n 1, 1) := by decide +kernel
theorem dX8_leastLeap_18 : decode cX8_leastLeap 18 = .ok (.invokevirtual 100, 3) := by decide +kernel
theorem dX8_leastLeap_21 : decode cX8_leastLeap 21 = .ok (.ifCond .eq 7, 3) := by decide +kernel
theorem dX8_leastLeap_24 : decode cX8_leastLeap 24 = .ok (.sipush (-1004), 3) := by decide +kernel
theorem dX8_leastLeap_27 : decode cX8_leastLeap 27 = .ok (.ireturn, 1) := by decide +kernel
theorem dX8_leastLeap_28 : decode cX8_leastLeap 28 = .ok (.iinc 1 1, 3) := by decide +kernel
theorem dX8_leastLeap_31 : decode cX8_leastLeap 31 = .ok (.goto (-25), 3) := by decide +kernel
theorem dX8_leastLeap_34 : decode cX8_leastLeap 34 = .ok (.aload_n 0, 1) := by decide +kernel
theorem dX8_leastLeap_35 : decode cX8_leastLeap 35 = .ok (.iconst 5, 1) := by decide +kernel
theorem dX8_leastLeap_36 : decode cX8_leastLeap 36 = .ok (.invokevirtual 109, 3) := by decide +kernel
theorem dX8_leastLeap_39 : decode cX8_leastLeap 39 = .ok (.ireturn, 1) := by decide +kernel
theorem dX8_covered_0 : decode cX8_covered 0 = .ok (.iload_n 1, 1) := by decide +kernel
theorem dX8_covered_1 : decode cX8_covered 1 = .ok (.invokestatic 68, 3) := by decide +kernel
theorem dX8_covered_4 : decode cX8_covered 4 = .ok (.ifCond .eq 12, 3) := by decide +kernel
theorem dX8_covered_7 : decode cX8_covered 7 = .ok (.iload_n 2, 1) := by decide +kernel
theorem dX8_covered_8 : decode cX8_covered 8 = .ok (.iconst (-1), 1) := by decide +kernel
theorem dX8_covered_9 : decode cX8_covered 9 = .ok (.iconst 3, 1) := by decide +kernel
theorem dX8_covered_10 : decode cX8_covered 10 = .ok (.invokestatic 32, 3) := by decide +kernel
theorem dX8_covered_13 : decode cX8_covered 13 = .ok (.ifCond .ne 7, 3) := by decide +kernel
theorem dX8_covered_16 : decode cX8_covered 16 = .ok (.sipush (-1001), 3) := by decide +kernel
theorem dX8_covered_19 : decode cX8_covered 19 = .ok (.ireturn, 1) := by decide +kernel
theorem dX8_covered_20 : decode cX8_covered 20 = .ok (.aload_n 0, 1) := by decide +kernel
theorem dX8_covered_21 : decode cX8_covered 21 = .ok (.invokevirtual 40, 3) := by decide +kernel
theorem dX8_covered_24 : decode cX8_covered 24 = .ok (.iconst 0, 1) := by decide +kernel
theorem dX8_covered_25 : decode cX8_covered 25 = .ok (.istore_n 3, 1) := by decide +kernel
theorem dX8_covered_26 : decode cX8_covered 26 = .ok (.iconst 0, 1) := by decide +kernel
theorem dX8_covered_27 : decode cX8_covered 27 = .ok (.istore 4, 2) := by decide +kernel
theorem dX8_covered_29 : decode cX8_covered 29 = .ok (.iload 4, 2) := by decide +kernel
theorem dX8_covered_31 : decode cX8_covered 31 = .ok (.aload_n 0, 1) := by decide +kernel
theorem dX8_covered_32 : decode cX8_covered 32 = .ok (.getfield 7, 3) := by decide +kernel
theorem dX8_covered_35 : decode cX8_covered 35 = .ok (.iconst 0, 1) := by decide +kernel
theorem dX8_covered_36 : decode cX8_covered 36 = .ok (.iaload, 1) := by decide +kernel
theorem dX8_covered_37 : decode cX8_covered 37 = .ok (.if_icmp .ge 51, 3) := by decide +kernel
theorem dX8_covered_40 : decode cX8_covered 40 = .ok (.aload_n 0, 1) := by decide +kernel
theorem dX8_covered_41 : decode cX8_covered 41 = .ok (.iload_n 1, 1) := by decide +kernel
theorem dX8_covered_42 : decode cX8_covered 42 = .ok (.iload 4, 2) := by decide +kernel
theorem dX8_covered_44 : decode cX8_covered 44 = .ok (.invokevirtual 43, 3) := by decide +kernel
theorem dX8_covered_47 : decode cX8_covered 47 = .ok (.istore 5, 2) := by decide +kernel
theorem dX8_covered_49 : decode cX8_covered 49 = .ok (.iload_n 3, 1) := by decide +kernel
theorem dX8_covered_50 : decode cX8_covered 50 = .ok (.iload 5, 2) := by decide +kernel
theorem dX8_covered_52 : decode cX8_covered 52 = .ok (.ifCond .lt 27, 3) := by decide +kernel
theorem dX8_covered_55 : decode cX8_covered 55 = .ok (.iload_n 2, 1) := by decide +kernel
theorem dX8_covered_56 : decode cX8_covered 56 = .ok (.iconst (-1), 1) := by decide +kernel
theorem dX8_covered_57 : decode cX8_covered 57 = .ok (.if_icmp .eq 18, 3) := by decide +kernel
theorem dX8_covered_60 : decode cX8_covered 60 = .ok (.aload_n 0, 1) := by decide +kernel
theorem dX8_covered_61 : decode cX8_covered 61 = .ok (.getfield 7, 3) := by decide +kernel
theorem dX8_covered_64 : decode cX8_covered 64 = .ok (.sipush 243, 3) := by decide +kernel
theorem dX8_covered_67 : decode cX8_covered 67 = .ok (.iload 5, 2) := by decide +kernel
theorem dX8_covered_69 : decode cX8_covered 69 = .ok (.iadd, 1) := by decide +kernel
theorem dX8_covered_70 : decode cX8_covered 70 = .ok (.iaload, 1) := by decide +kernel
theorem dX8_covered_71 : decode cX8_covered 71 = .ok (.iload_n 2, 1) := by decide +kernel
theorem dX8_covered_72 : decode cX8_covered 72 = .ok (.if_icmp .ne 7, 3) := by decide +kernel
theorem dX8_covered_75 : decode cX8_covered 75 = .ok (.iconst 1, 1) := by decide +kernel
theorem dX8_covered_76 : decode cX8_covered 76 = .ok (.goto 4, 3) := by decide +kernel
theorem dX8_covered_79 : decode cX8_covered 79 = .ok (.iconst 0, 1) := by decide +kernel
theorem dX8_covered_80 : decode cX8_covered 80 = .ok (.iadd, 1) := by decide +kernel
theorem dX8_covered_81 : decode cX8_covered 81 = .ok (.istore_n 3, 1) := by decide +kernel
theorem dX8_covered_82 : decode cX8_covered 82 = .ok (.iinc 4 1, 3) := by decide +kernel
theorem dX8_covered_85 : decode cX8_covered 85 = .ok (.goto (-56), 3) := by decide +kernel
theorem dX8_covered_88 : decode cX8_covered 88 = .ok (.iload_n 3, 1) := by decide +kernel
theorem dX8_covered_89 : decode cX8_covered 89 = .ok (.ireturn, 1) := by decide +kernel
theorem dX8_facing_0 : decode cX8_facing 0 = .ok (.iconst 0, 1) := by decide +kernel
theorem dX8_facing_1 : decode cX8_facing 1 = .ok (.istore_n 2, 1) := by decide +kernel
theorem dX8_facing_2 : decode cX8_facing 2 = .ok (.iconst 0, 1) := by decide +kernel
theorem dX8_facing_3 : decode cX8_facing 3 = .ok (.istore_n 3, 1) := by decide +kernel
theorem dX8_facing_4 : decode cX8_facing 4 = .ok (.iload_n 3, 1) := by decide +kernel
theorem dX8_facing_5 : decode cX8_facing 5 = .ok (.aload_n 0, 1) := by decide +kernel
theorem dX8_facing_6 : decode cX8_facing 6 = .ok (.getfield 7, 3) := by decide +kernel
theorem dX8_facing_9 : decode cX8_facing 9 = .ok (.iconst 2, 1) := by decide +kernel
theorem dX8_facing_10 : decode cX8_facing 10 = .ok (.iaload, 1) := by decide +kernel
theorem dX8_facing_11 : decode cX8_facing 11 = .ok (.if_icmp .ge 49, 3) := by decide +kernel
theorem dX8_facing_14 : decode cX8_facing 14 = .ok (.iload_n 2, 1) := by decide +kernel
theorem dX8_facing_15 : decode cX8_facing 15 = .ok (.aload_n 0, 1) := by decide +kernel
theorem dX8_facing_16 : decode cX8_facing 16 = .ok (.getfield 7, 3) := by decide +kernel
theorem dX8_facing_19 : decode cX8_facing 19 = .ok (.sipush 243, 3) := by decide +kernel
theorem dX8_facing_22 : decode cX8_facing 22 = .ok (.iload_n 3, 1) := by decide +kernel
theorem dX8_facing_23 : decode cX8_facing 23 = .ok (.iadd, 1) := by decide +kernel
theorem dX8_facing_24 : decode cX8_facing 24 = .ok (.iaload, 1) := by decide +kernel
theorem dX8_facing_25 : decode cX8_facing 25 = .ok (.iconst 2, 1) := by decide +kernel
theorem dX8_facing_26 : decode cX8_facing 26 = .ok (.if_icmp .ne 25, 3) := by decide +kernel
theorem dX8_facing_29 : decode cX8_facing 29 = .ok (.aload_n 0, 1) := by decide +kernel
theorem dX8_facing_30 : decode cX8_facing 30 = .ok (.iload_n 3, 1) := by decide +kernel
theorem dX8_facing_31 : decode cX8_facing 31 = .ok (.invokevirtual 74, 3) := by decide +kernel
theorem dX8_facing_34 : decode cX8_facing 34 = .ok (.iload_n 1, 1) := by decide +kernel
theorem dX8_facing_35 : decode cX8_facing 35 = .ok (.if_icmp .gt 16, 3) := by decide +kernel
theorem dX8_facing_38 : decode cX8_facing 38 = .ok (.aload_n 0, 1) := by decide +kernel
theorem dX8_facing_39 : decode cX8_facing 39 = .ok (.getfield 7, 3) := by decide +kernel
theorem dX8_facing_42 : decode cX8_facing 42 = .ok (.sipush 483, 3) := by decide +kernel
theorem dX8_facing_45 : decode cX8_facing 45 = .ok (.iload_n 3, 1) := by decide +kernel
theorem dX8_facing_46 : decode cX8_facing 46 = .ok (.iadd, 1) := by decide +kernel
theorem dX8_facing_47 : decode cX8_facing 47 = .ok (.iaload, 1) := by decide +kernel
theorem dX8_facing_48 : decode cX8_facing 48 = .ok (.goto 4, 3) := by decide +kernel
theorem dX8_facing_51 : decode cX8_facing 51 = .ok (.iconst 0, 1) := by decide +kernel
theorem dX8_facing_52 : decode cX8_facing 52 = .ok (.iadd, 1) := by decide +kernel
theorem dX8_facing_53 : decode cX8_facing 53 = .ok (.istore_n 2, 1) := by decide +kernel
theorem dX8_facing_54 : decode cX8_facing 54 = .ok (.iinc 3 1, 3) := by decide +kernel
theorem dX8_facing_57 : decode cX8_facing 57 = .ok (.goto (-53), 3) := by decide +kernel
theorem dX8_facing_60 : decode cX8_facing 60 = .ok (.iload_n 2, 1) := by decide +kernel
theorem dX8_facing_61 : decode cX8_facing 61 = .ok (.bipush 8, 2) := by decide +kernel
theorem dX8_facing_63 : decode cX8_facing 63 = .ok (.irem, 1) := by decide +kernel
theorem dX8_facing_64 : decode cX8_facing 64 = .ok (.bipush 8, 2) := by decide +kernel
theorem dX8_facing_66 : decode cX8_facing 66 = .ok (.iadd, 1) := by decide +kernel
theorem dX8_facing_67 : decode cX8_facing 67 = .ok (.bipush 8, 2) := by decide +kernel
theorem dX8_facing_69 : decode cX8_facing 69 = .ok (.irem, 1) := by decide +kernel
theorem dX8_facing_70 : decode cX8_facing 70 = .ok (.ireturn, 1) := by decide +kernel
theorem dX8_unit_0 : decode cX8_unit 0 = .ok (.iload_n 1, 1) := by decide +kernel
theorem dX8_unit_1 : decode cX8_unit 1 = .ok (.ifCond .eq 13, 3) := by decide +kernel
theorem dX8_unit_4 : decode cX8_unit 4 = .ok (.iload_n 0, 1) := by decide +kernel
theorem dX8_unit_5 : decode cX8_unit 5 = .ok (.bipush 6, 2) := by decide +kernel
theorem dX8_unit_7 : decode cX8_unit 7 = .ok (.iadd, 1) := by decide +kernel
theorem dX8_unit_8 : decode cX8_unit 8 = .ok (.bipush 8, 2) := by decide +kernel
theorem dX8_unit_10 : decode cX8_unit 10 = .ok (.irem, 1) := by decide +kernel
theorem dX8_unit_11 : decode cX8_unit 11 = .ok (.goto 4, 3) := by decide +kernel
theorem dX8_unit_14 : decode cX8_unit 14 = .ok (.iload_n 0, 1) := by decide +kernel
theorem dX8_unit_15 : decode cX8_unit 15 = .ok (.istore_n 2, 1) := by decide +kernel
theorem dX8_unit_16 : decode cX8_unit 16 = .ok (.iload_n 2, 1) := by decide +kernel
theorem dX8_unit_17 : decode cX8_unit 17 = .ok (.iconst 2, 1) := by decide +kernel
theorem dX8_unit_18 : decode cX8_unit 18 = .ok (.if_icmp .eq 9, 3) := by decide +kernel
theorem dX8_unit_21 : decode cX8_unit 21 = .ok (.iload_n 2, 1) := by decide +kernel
theorem dX8_unit_22 : decode cX8_unit 22 = .ok (.bipush 6, 2) := by decide +kernel
theorem dX8_unit_24 : decode cX8_unit 24 = .ok (.if_icmp .ne 7, 3) := by decide +kernel
theorem dX8_unit_27 : decode cX8_unit 27 = .ok (.iconst 0, 1) := by decide +kernel
theorem dX8_unit_28 : decode cX8_unit 28 = .ok (.goto 19, 3) := by decide +kernel
theorem dX8_unit_31 : decode cX8_unit 31 = .ok (.iload_n 2, 1) := by decide +kernel
theorem dX8_unit_32 : decode cX8_unit 32 = .ok (.iconst 2, 1) := by decide +kernel
theorem dX8_unit_33 : decode cX8_unit 33 = .ok (.if_icmp .le 13, 3) := by decide +kernel
theorem dX8_unit_36 : decode cX8_unit 36 = .ok (.iload_n 2, 1) := by decide +kernel
theorem dX8_unit_37 : decode cX8_unit 37 = .ok (.bipush 6, 2) := by decide +kernel
theorem dX8_unit_39 : decode cX8_unit 39 = .ok (.if_icmp .ge 7, 3) := by decide +kernel
theorem dX8_unit_42 : decode cX8_unit 42 = .ok (.iconst (-1), 1) := by decide +kernel
theorem dX8_unit_43 : decode cX8_unit 43 = .ok (.goto 4, 3) := by decide +kernel
theorem dX8_unit_46 : decode cX8_unit 46 = .ok (.iconst 1, 1) := by decide +kernel
theorem dX8_unit_47 : decode cX8_unit 47 = .ok (.ireturn, 1) := by decide +kernel
theorem dX8_isTogether_0 : decode cX8_isTogether 0 = .ok (.iconst 0, 1) := by decide +kernel
theorem dX8_isTogether_1 : decode cX8_isTogether 1 = .ok (.istore_n 2, 1) := by decide +kernel
theorem dX8_isTogether_2 : decode cX8_isTogether 2 = .ok (.iconst 0, 1) := by decide +kernel
theorem dX8_isTogether_3 : decode cX8_isTogether 3 = .ok (.istore_n 3, 1) := by decide +kernel
theorem dX8_isTogether_4 : decode cX8_isTogether 4 = .ok (.iload_n 3, 1) := by decide +kernel
theorem dX8_isTogether_5 : decode cX8_isTogether 5 = .ok (.aload_n 0, 1) := by decide +kernel
theorem dX8_isTogether_6 : decode cX8_isTogether 6 = .ok (.getfield 7, 3) := by decide +kernel
theorem dX8_isTogether_9 : decode cX8_isTogether 9 = .ok (.iconst 2, 1) := by decide +kernel
theorem dX8_isTogether_10 : decode cX8_isTogether 10 = .ok (.iaload, 1) := by decide +kernel
theorem dX8_isTogether_11 : decode cX8_isTogether 11 = .ok (.if_icmp .ge 66, 3) := by decide +kernel
theorem dX8_isTogether_14 : decode cX8_isTogether 14 = .ok (.iload_n 2, 1) := by decide +kernel
theorem dX8_isTogether_15 : decode cX8_isTogether 15 = .ok (.ifCond .ne 50, 3) := by decide +kernel
theorem dX8_isTogether_18 : decode cX8_isTogether 18 = .ok (.aload_n 0, 1) := by decide +kernel
theorem dX8_isTogether_19 : decode cX8_isTogether 19 = .ok (.getfield 7, 3) := by decide +kernel
theorem dX8_isTogether_22 : decode cX8_isTogether 22 = .ok (.sipush 243, 3) := by decide +kernel
theorem dX8_isTogether_25 : decode cX8_isTogether 25 = .ok (.iload_n 3, 1) := by decide +kernel
theorem dX8_isTogether_26 : decode cX8_isTogether 26 = .ok (.iadd, 1) := by decide +kernel
theorem dX8_isTogether_27 : decode cX8_isTogether 27 = .ok (.iaload, 1) := by decide +kernel
theorem dX8_isTogether_28 : decode cX8_isTogether 28 = .ok (.ifCond .ne 41, 3) := by decide +kernel
theorem dX8_isTogether_31 : decode cX8_isTogether 31 = .ok (.aload_n 0, 1) := by decide +kernel
theorem dX8_isTogether_32 : decode cX8_isTogether 32 = .ok (.getfield 7, 3) := by decide +kernel
theorem dX8_isTogether_35 : decode cX8_isTogether 35 = .ok (.iconst 3, 1) := by decide +kernel
theorem dX8_isTogether_36 : decode cX8_isTogether 36 = .ok (.iload_n 3, 1) := by decide +kernel
theorem dX8_isTogether_37 : decode cX8_isTogether 37 = .ok (.iadd, 1) := by decide +kernel
theorem dX8_isTogether_38 : decode cX8_isTogether 38 = .ok (.iaload, 1) := by decide +kernel
theorem dX8_isTogether_39 : decode cX8_isTogether 39 = .ok (.iconst 1, 1) := by decide +kernel
theorem dX8_isTogether_40 : decode cX8_isTogether 40 = .ok (.aload_n 0, 1) := by decide +kernel
theorem dX8_isTogether_41 : decode cX8_isTogether 41 = .ok (.getfield 7, 3) := by decide +kernel
theorem dX8_isTogether_44 : decode cX8_isTogether 44 = .ok (.iconst 3, 1) := by decide +kernel
theorem dX8_isTogether_45 : decode cX8_isTogether 45 = .ok (.iload_n 1, 1) := by decide +kernel
theorem dX8_isTogether_46 : decode cX8_isTogether 46 = .ok (.iadd, 1) := by decide +kernel
theorem dX8_isTogether_47 : decode cX8_isTogether 47 = .ok (.iaload, 1) := by decide +kernel
theorem dX8_isTogether_48 : decode cX8_isTogether 48 = .ok (.isub, 1) := by decide +kernel
theorem dX8_isTogether_49 : decode cX8_isTogether 49 = .ok (.if_icmp .ne 20, 3) := by decide +kernel
theorem dX8_isTogether_52 : decode cX8_isTogether 52 = .ok (.aload_n 0, 1) := by decide +kernel
theorem dX8_isTogether_53 : decode cX8_isTogether 53 = .ok (.iload_n 3, 1) := by decide +kernel
theorem dX8_isTogether_54 : decode cX8_isTogether 54 = .ok (.invokevirtual 74, 3) := by decide +kernel
theorem dX8_isTogether_57 : decode cX8_isTogether 57 = .ok (.aload_n 0, 1) := by decide +kernel
theorem dX8_isTogether_58 : decode cX8_isTogether 58 = .ok (.iload_n 1, 1) := by decide +kernel
theorem dX8_isTogether_59 : decode cX8_isTogether 59 = .ok (.invokevirtual 74, 3) := by decide +kernel
theorem dX8_isTogether_62 : decode cX8_isTogether 62 = .ok (.if_icmp .ne 7, 3) := by decide +kernel
theorem dX8_isTogether_65 : decode cX8_isTogether 65 = .ok (.iconst 1, 1) := by decide +kernel
theorem dX8_isTogether_66 : decode cX8_isTogether 66 = .ok (.goto 4, 3) := by decide +kernel
theorem dX8_isTogether_69 : decode cX8_isTogether 69 = .ok (.iconst 0, 1) := by decide +kernel
theorem dX8_isTogether_70 : decode cX8_isTogether 70 = .ok (.istore_n 2, 1) := by decide +kernel
theorem dX8_isTogether_71 : decode cX8_isTogether 71 = .ok (.iinc 3 1, 3) := by decide +kernel
theorem dX8_isTogether_74 : decode cX8_isTogether 74 = .ok (.goto (-70), 3) := by decide +kernel
theorem dX8_isTogether_77 : decode cX8_isTogether 77 = .ok (.iload_n 2, 1) := by decide +kernel
theorem dX8_isTogether_78 : decode cX8_isTogether 78 = .ok (.ireturn, 1) := by decide +kernel
theorem dX8_place_0 : decode cX8_place 0 = .ok (.iconst 0, 1) := by decide +kernel
theorem dX8_place_1 : decode cX8_place 1 = .ok (.istore_n 3, 1) := by decide +kernel
theorem dX8_place_2 : decode cX8_place 2 = .ok (.iconst 0, 1) := by decide +kernel
theorem dX8_place_3 : decode cX8_place 3 = .ok (.istore 4, 2) := by decide +kernel
theorem dX8_place_5 : decode cX8_place 5 = .ok (.iload 4, 2) := by decide +kernel
theorem dX8_place_7 : decode cX8_place 7 = .ok (.aload_n 0, 1) := by decide +kernel
theorem dX8_place_8 : decode cX8_place 8 = .ok (.getfield 7, 3) := by decide +kernel
theorem dX8_place_11 : decode cX8_place 11 = .ok (.iconst 2, 1) := by decide +kernel
theorem dX8_place_12 : decode cX8_place 12 = .ok (.iaload, 1) := by decide +kernel
theorem dX8_place_13 : decode cX8_place 13 = .ok (.if_icmp .ge 118, 3) := by decide +kernel
theorem dX8_place_16 : decode cX8_place 16 = .ok (.aload_n 0, 1) := by decide +kernel
theorem dX8_place_17 : decode cX8_place 17 = .ok (.getfield 7, 3) := by decide +kernel
theorem dX8_place_20 : decode cX8_place 20 = .ok (.sipush 243, 3) := by decide +kernel
theorem dX8_place_23 : decode cX8_place 23 = .ok (.iload 4, 2) := by decide +kernel
theorem dX8_place_25 : decode cX8_place 25 = .ok (.iadd, 1) := by decide +kernel
theorem dX8_place_26 : decode cX8_place 26 = .ok (.iaload, 1) := by decide +kernel
theorem dX8_place_27 : decode cX8_place 27 = .ok (.ifCond .ne 98, 3) := by decide +kernel
theorem dX8_place_30 : decode cX8_place 30 = .ok (.aload_n 0, 1) := by decide +kernel
theorem dX8_place_31 : decode cX8_place 31 = .ok (.getfield 7, 3) := by decide +kernel
theorem dX8_place_34 : decode cX8_place 34 = .ok (.iconst 3, 1) := by decide +kernel
theorem dX8_place_35 : decode cX8_place 35 = .ok (.iload 4, 2) := by decide +kernel
theorem dX8_place_37 : decode cX8_place 37 = .ok (.iadd, 1) := by decide +kernel
theorem dX8_place_38 : decode cX8_place 38 = .ok (.iaload, 1) := by decide +kernel
theorem dX8_place_39 : decode cX8_place 39 = .ok (.iconst 2, 1) := by decide +kernel
theorem dX8_place_40 : decode cX8_place 40 = .ok (.if_icmp .ge 85, 3) := by decide +kernel
theorem dX8_place_43 : decode cX8_place 43 = .ok (.aload_n 0, 1) := by decide +kernel
theorem dX8_place_44 : decode cX8_place 44 = .ok (.getfield 7, 3) := by decide +kernel
theorem dX8_place_47 : decode cX8_place 47 = .ok (.sipush 483, 3) := by decide +kernel
theorem dX8_place_50 : decode cX8_place 50 = .ok (.iload 4, 2) := by decide +kernel
theorem dX8_place_52 : decode cX8_place 52 = .ok (.iadd, 1) := by decide +kernel
theorem dX8_place_53 : decode cX8_place 53 = .ok (.iaload, 1) := by decide +kernel
theorem dX8_place_54 : decode cX8_place 54 = .ok (.ifCond .le 71, 3) := by decide +kernel
theorem dX8_place_57 : decode cX8_place 57 = .ok (.aload_n 0, 1) := by decide +kernel
theorem dX8_place_58 : decode cX8_place 58 = .ok (.iload 4, 2) := by decide +kernel
theorem dX8_place_60 : decode cX8_place 60 = .ok (.invokevirtual 74, 3) := by decide +kernel
theorem dX8_place_63 : decode cX8_place 63 = .ok (.iload_n 1, 1) := by decide +kernel
theorem dX8_place_64 : decode cX8_place 64 = .ok (.if_icmp .gt 61, 3) := by decide +kernel
theorem dX8_place_67 : decode cX8_place 67 = .ok (.aload_n 0, 1) := by decide +kernel
theorem dX8_place_68 : decode cX8_place 68 = .ok (.aload_n 0, 1) := by decide +kernel
theorem dX8_place_69 : decode cX8_place 69 = .ok (.getfield 7, 3) := by decide +kernel
theorem dX8_place_72 : decode cX8_place 72 = .ok (.bipush 123, 2) := by decide +kernel
theorem dX8_place_74 : decode cX8_place 74 = .ok (.iload 4, 2) := by decide +kernel
theorem dX8_place_76 : decode cX8_place 76 = .ok (.iadd, 1) := by decide +kernel
theorem dX8_place_77 : decode cX8_place 77 = .ok (.iaload, 1) := by decide +kernel
theorem dX8_place_78 : decode cX8_place 78 = .ok (.invokevirtual 112, 3) := by decide +kernel
theorem dX8_place_81 : decode cX8_place 81 = .ok (.aload_n 0, 1) := by decide +kernel
theorem dX8_place_82 : decode cX8_place 82 = .ok (.getfield 7, 3) := by decide +kernel
theorem dX8_place_85 : decode cX8_place 85 = .ok (.sipush 483, 3) := by decide +kernel
theorem dX8_place_88 : decode cX8_place 88 = .ok (.iload 4, 2) := by decide +kernel
theorem dX8_place_90 : decode cX8_place 90 = .ok (.iadd, 1) := by decide +kernel
theorem dX8_place_91 : decode cX8_place 91 = .ok (.iaload, 1) := by decide +kernel
theorem dX8_place_92 : decode cX8_place 92 = .ok (.iadd, 1) := by decide +kernel
theorem dX8_place_93 : decode cX8_place 93 = .ok (.iconst 1, 1) := by decide +kernel
theorem dX8_place_94 : decode cX8_place 94 = .ok (.isub, 1) := by decide +kernel
theorem dX8_place_95 : decode cX8_place 95 = .ok (.bipush 8, 2) := by decide +kernel
theorem dX8_place_97 : decode cX8_place 97 = .ok (.irem, 1) := by decide +kernel
theorem dX8_place_98 : decode cX8_place 98 = .ok (.iload_n 2, 1) := by decide +kernel
theorem dX8_place_99 : decode cX8_place 99 = .ok (.invokestatic 115, 3) := by decide +kernel
theorem dX8_place_102 : decode cX8_place 102 = .ok (.istore 5, 2) := by decide +kernel
theorem dX8_place_104 : decode cX8_place 104 = .ok (.iload_n 3, 1) := by decide +kernel
theorem dX8_place_105 : decode cX8_place 105 = .ok (.aload_n 0, 1) := by decide +kernel
theorem dX8_place_106 : decode cX8_place 106 = .ok (.iload 4, 2) := by decide +kernel
theorem dX8_place_108 : decode cX8_place 108 = .ok (.invokevirtual 119, 3) := by decide +kernel
theorem dX8_place_111 : decode cX8_place 111 = .ok (.ifCond .eq 8, 3) := by decide +kernel
theorem dX8_place_114 : decode cX8_place 114 = .ok (.iload 5, 2) := by decide +kernel
theorem dX8_place_116 : decode cX8_place 116 = .ok (.goto 7, 3) := by decide +kernel
theorem dX8_place_119 : decode cX8_place 119 = .ok (.iconst 2, 1) := by decide +kernel
theorem dX8_place_120 : decode cX8_place 120 = .ok (.iload 5, 2) := by decide +kernel
theorem dX8_place_122 : decode cX8_place 122 = .ok (.imul, 1) := by decide +kernel
theorem dX8_place_123 : decode cX8_place 123 = .ok (.iadd, 1) := by decide +kernel
theorem dX8_place_124 : decode cX8_place 124 = .ok (.istore_n 3, 1) := by decide +kernel
theorem dX8_place_125 : decode cX8_place 125 = .ok (.iinc 4 1, 3) := by decide +kernel
theorem dX8_place_128 : decode cX8_place 128 = .ok (.goto (-123), 3) := by decide +kernel
theorem dX8_place_131 : decode cX8_place 131 = .ok (.iload_n 3, 1) := by decide +kernel
theorem dX8_place_132 : decode cX8_place 132 = .ok (.ireturn, 1) := by decide +kernel
theorem dX8_floor_0 : decode cX8_floor 0 = .ok (.iload_n 1, 1) := by decide +kernel
theorem dX8_floor_1 : decode cX8_floor 1 = .ok (.iconst 0, 1) := by decide +kernel
theorem dX8_floor_2 : decode cX8_floor 2 = .ok (.aload_n 0, 1) := by decide +kernel
theorem dX8_floor_3 : decode cX8_floor 3 = .ok (.getfield 7, 3) := by decide +kernel
theorem dX8_floor_6 : decode cX8_floor 6 = .ok (.iconst 0, 1) := by decide +kernel
theorem dX8_floor_7 : decode cX8_floor 7 = .ok (.iaload, 1) := by decide +kernel
theorem dX8_floor_8 : decode cX8_floor 8 = .ok (.invokestatic 32, 3) := by decide +kernel
theorem dX8_floor_11 : decode cX8_floor 11 = .ok (.ifCond .eq 12, 3) := by decide +kernel
theorem dX8_floor_14 : decode cX8_floor 14 = .ok (.iload_n 2, 1) := by decide +kernel
theorem dX8_floor_15 : decode cX8_floor 15 = .ok (.iconst 0, 1) := by decide +kernel
theorem dX8_floor_16 : decode cX8_floor 16 = .ok (.iconst 2, 1) := by decide +kernel
theorem dX8_floor_17 : decode cX8_floor 17 = .ok (.invokestatic 32, 3) := by decide +kernel
theorem dX8_floor_20 : decode cX8_floor 20 = .ok (.ifCond .ne 7, 3) := by decide +kernel
theorem dX8_floor_23 : decode cX8_floor 23 = .ok (.sipush (-1001), 3) := by decide +kernel
theorem dX8_floor_26 : decode cX8_floor 26 = .ok (.ireturn, 1) := by decide +kernel
theorem dX8_floor_27 : decode cX8_floor 27 = .ok (.iload_n 2, 1) := by decide +kernel
theorem dX8_floor_28 : decode cX8_floor 28 = .ok (.iconst 2, 1) := by decide +kernel
theorem dX8_floor_29 : decode cX8_floor 29 = .ok (.if_icmp .ne 11, 3) := by decide +kernel
theorem dX8_floor_32 : decode cX8_floor 32 = .ok (.aload_n 0, 1) := by decide +kernel
theorem dX8_floor_33 : decode cX8_floor 33 = .ok (.iload_n 1, 1) := by decide +kernel
theorem dX8_floor_34 : decode cX8_floor 34 = .ok (.invokevirtual 112, 3) := by decide +kernel
theorem dX8_floor_37 : decode cX8_floor 37 = .ok (.goto 17, 3) := by decide +kernel
theorem dX8_floor_40 : decode cX8_floor 40 = .ok (.aload_n 0, 1) := by decide +kernel
theorem dX8_floor_41 : decode cX8_floor 41 = .ok (.iload_n 1, 1) := by decide +kernel
theorem dX8_floor_42 : decode cX8_floor 42 = .ok (.iload_n 2, 1) := by decide +kernel
theorem dX8_floor_43 : decode cX8_floor 43 = .ok (.ifCond .ne 7, 3) := by decide +kernel
theorem dX8_floor_46 : decode cX8_floor 46 = .ok (.iconst 1, 1) := by decide +kernel
theorem dX8_floor_47 : decode cX8_floor 47 = .ok (.goto 4, 3) := by decide +kernel
theorem dX8_floor_50 : decode cX8_floor 50 = .ok (.iconst 0, 1) := by decide +kernel
theorem dX8_floor_51 : decode cX8_floor 51 = .ok (.invokevirtual 122, 3) := by decide +kernel
theorem dX8_floor_54 : decode cX8_floor 54 = .ok (.ireturn, 1) := by decide +kernel
theorem dX8_home_0 : decode cX8_home 0 = .ok (.iconst 0, 1) := by decide +kernel
theorem dX8_home_1 : decode cX8_home 1 = .ok (.istore_n 1, 1) := by decide +kernel
theorem dX8_home_2 : decode cX8_home 2 = .ok (.iconst 0, 1) := by decide +kernel
theorem dX8_home_3 : decode cX8_home 3 = .ok (.istore_n 2, 1) := by decide +kernel
theorem dX8_home_4 : decode cX8_home 4 = .ok (.iload_n 2, 1) := by decide +kernel
theorem dX8_home_5 : decode cX8_home 5 = .ok (.aload_n 0, 1) := by decide +kernel
theorem dX8_home_6 : decode cX8_home 6 = .ok (.getfield 7, 3) := by decide +kernel
theorem dX8_home_9 : decode cX8_home 9 = .ok (.iconst 0, 1) := by decide +kernel
theorem dX8_home_10 : decode cX8_home 10 = .ok (.iaload, 1) := by decide +kernel
theorem dX8_home_11 : decode cX8_home 11 = .ok (.if_icmp .gt 57, 3) := by decide +kernel
theorem dX8_home_14 : decode cX8_home 14 = .ok (.aload_n 0, 1) := by decide +kernel
theorem dX8_home_15 : decode cX8_home 15 = .ok (.iload_n 2, 1) := by decide +kernel
theorem dX8_home_16 : decode cX8_home 16 = .ok (.iconst 1, 1) := by decide +kernel
theorem dX8_home_17 : decode cX8_home 17 = .ok (.invokevirtual 122, 3) := by decide +kernel
theorem dX8_home_20 : decode cX8_home 20 = .ok (.ifCond .ne 16, 3) := by decide +kernel
theorem dX8_home_23 : decode cX8_home 23 = .ok (.aload_n 0, 1) := by decide +kernel
theorem dX8_home_24 : decode cX8_home 24 = .ok (.iload_n 2, 1) := by decide +kernel
theorem dX8_home_25 : decode cX8_home 25 = .ok (.iconst 0, 1) := by decide +kernel
theorem dX8_home_26 : decode cX8_home 26 = .ok (.invokevirtual 122, 3) := by decide +kernel
theorem dX8_home_29 : decode cX8_home 29 = .ok (.ifCond .ne 7, 3) := by decide +kernel
theorem dX8_home_32 : decode cX8_home 32 = .ok (.iconst 1, 1) := by decide +kernel
theorem dX8_home_33 : decode cX8_home 33 = .ok (.goto 4, 3) := by decide +kernel
theorem dX8_home_36 : decode cX8_home 36 = .ok (.iconst 0, 1) := by decide +kernel
theorem dX8_home_37 : decode cX8_home 37 = .ok (.istore_n 3, 1) := by decide +kernel
theorem dX8_home_38 : decode cX8_home 38 = .ok (.iload_n 3, 1) := by decide +kernel
theorem dX8_home_39 : decode cX8_home 39 = .ok (.ifCond .eq 9, 3) := by decide +kernel
theorem dX8_home_42 : decode cX8_home 42 = .ok (.iload_n 1, 1) := by decide +kernel
theorem dX8_home_43 : decode cX8_home 43 = .ok (.ifCond .eq 5, 3) := by decide +kernel
theorem dX8_home_46 : decode cX8_home 46 = .ok (.iload_n 2, 1) := by decide +kernel
theorem dX8_home_47 : decode cX8_home 47 = .ok (.ireturn, 1) := by decide +kernel
theorem dX8_home_48 : decode cX8_home 48 = .ok (.iload_n 1, 1) := by decide +kernel
theorem dX8_home_49 : decode cX8_home 49 = .ok (.ifCond .ne 7, 3) := by decide +kernel
theorem dX8_home_52 : decode cX8_home 52 = .ok (.iload_n 3, 1) := by decide +kernel
theorem dX8_home_53 : decode cX8_home 53 = .ok (.ifCond .ne 7, 3) := by decide +kernel
theorem dX8_home_56 : decode cX8_home 56 = .ok (.iconst 1, 1) := by decide +kernel
theorem dX8_home_57 : decode cX8_home 57 = .ok (.goto 4, 3) := by decide +kernel
theorem dX8_home_60 : decode cX8_home 60 = .ok (.iconst 0, 1) := by decide +kernel
theorem dX8_home_61 : decode cX8_home 61 = .ok (.istore_n 1, 1) := by decide +kernel
theorem dX8_home_62 : decode cX8_home 62 = .ok (.iinc 2 1, 3) := by decide +kernel
theorem dX8_home_65 : decode cX8_home 65 = .ok (.goto (-61), 3) := by decide +kernel
theorem dX8_home_68 : decode cX8_home 68 = .ok (.sipush (-1004), 3) := by decide +kernel
theorem dX8_home_71 : decode cX8_home 71 = .ok (.ireturn, 1) := by decide +kernel
theorem dX8_size_0 : decode cX8_size 0 = .ok (.iload_n 0, 1) := by decide +kernel
theorem dX8_size_1 : decode cX8_size 1 = .ok (.ifCond .ge 8, 3) := by decide +kernel
theorem dX8_size_4 : decode cX8_size 4 = .ok (.iload_n 0, 1) := by decide +kernel
theorem dX8_size_5 : decode cX8_size 5 = .ok (.ineg, 1) := by decide +kernel
theorem dX8_size_6 : decode cX8_size 6 = .ok (.goto 4, 3) := by decide +kernel
theorem dX8_size_9 : decode cX8_size 9 = .ok (.iload_n 0, 1) := by decide +kernel
theorem dX8_size_10 : decode cX8_size 10 = .ok (.ireturn, 1) := by decide +kernel
theorem dX8_farthest_0 : decode cX8_farthest 0 = .ok (.iconst 0, 1) := by decide +kernel
theorem dX8_farthest_1 : decode cX8_farthest 1 = .ok (.istore_n 1, 1) := by decide +kernel
theorem dX8_farthest_2 : decode cX8_farthest 2 = .ok (.iconst 0, 1) := by decide +kernel
theorem dX8_farthest_3 : decode cX8_farthest 3 = .ok (.istore_n 2, 1) := by decide +kernel
theorem dX8_farthest_4 : decode cX8_farthest 4 = .ok (.iload_n 2, 1) := by decide +kernel
theorem dX8_farthest_5 : decode cX8_farthest 5 = .ok (.aload_n 0, 1) := by decide +kernel
theorem dX8_farthest_6 : decode cX8_farthest 6 = .ok (.getfield 7, 3) := by decide +kernel
theorem dX8_farthest_9 : decode cX8_farthest 9 = .ok (.iconst 0, 1) := by decide +kernel
theorem dX8_farthest_10 : decode cX8_farthest 10 = .ok (.iaload, 1) := by decide +kernel
theorem dX8_farthest_11 : decode cX8_farthest 11 = .ok (.if_icmp .gt 54, 3) := by decide +kernel
theorem dX8_farthest_14 : decode cX8_farthest 14 = .ok (.aload_n 0, 1) := by decide +kernel
theorem dX8_farthest_15 : decode cX8_farthest 15 = .ok (.iload_n 2, 1) := by decide +kernel
theorem dX8_farthest_16 : decode cX8_farthest 16 = .ok (.iconst 1, 1) := by decide +kernel
theorem dX8_farthest_17 : decode cX8_farthest 17 = .ok (.invokevirtual 122, 3) := by decide +kernel
theorem dX8_farthest_20 : decode cX8_farthest 20 = .ok (.invokestatic 125, 3) := by decide +kernel
theorem dX8_farthest_23 : decode cX8_farthest 23 = .ok (.istore_n 3, 1) := by decide +kernel
theorem dX8_farthest_24 : decode cX8_farthest 24 = .ok (.aload_n 0, 1) := by decide +kernel
theorem dX8_farthest_25 : decode cX8_farthest 25 = .ok (.iload_n 2, 1) := by decide +kernel
theorem dX8_farthest_26 : decode cX8_farthest 26 = .ok (.iconst 0, 1) := by decide +kernel
theorem dX8_farthest_27 : decode cX8_farthest 27 = .ok (.invokevirtual 122, 3) := by decide +kernel
theorem dX8_farthest_30 : decode cX8_farthest 30 = .ok (.invokestatic 125, 3) := by decide +kernel
theorem dX8_farthest_33 : decode cX8_farthest 33 = .ok (.istore 4, 2) := by decide +kernel
theorem dX8_farthest_35 : decode cX8_farthest 35 = .ok (.iload_n 3, 1) := by decide +kernel
theorem dX8_farthest_36 : decode cX8_farthest 36 = .ok (.iload_n 1, 1) := by decide +kernel
theorem dX8_farthest_37 : decode cX8_farthest 37 = .ok (.if_icmp .le 7, 3) := by decide +kernel
theorem dX8_farthest_40 : decode cX8_farthest 40 = .ok (.iload_n 3, 1) := by decide +kernel
theorem dX8_farthest_41 : decode cX8_farthest 41 = .ok (.goto 4, 3) := by decide +kernel
theorem dX8_farthest_44 : decode cX8_farthest 44 = .ok (.iload_n 1, 1) := by decide +kernel
theorem dX8_farthest_45 : decode cX8_farthest 45 = .ok (.istore_n 1, 1) := by decide +kernel
theorem dX8_farthest_46 : decode cX8_farthest 46 = .ok (.iload 4, 2) := by decide +kernel
theorem dX8_farthest_48 : decode cX8_farthest 48 = .ok (.iload_n 1, 1) := by decide +kernel
theorem dX8_farthest_49 : decode cX8_farthest 49 = .ok (.if_icmp .le 8, 3) := by decide +kernel
theorem dX8_farthest_52 : decode cX8_farthest 52 = .ok (.iload 4, 2) := by decide +kernel
theorem dX8_farthest_54 : decode cX8_farthest 54 = .ok (.goto 4, 3) := by decide +kernel
theorem dX8_farthest_57 : decode cX8_farthest 57 = .ok (.iload_n 1, 1) := by decide +kernel
theorem dX8_farthest_58 : decode cX8_farthest 58 = .ok (.istore_n 1, 1) := by decide +kernel
theorem dX8_farthest_59 : decode cX8_farthest 59 = .ok (.iinc 2 1, 3) := by decide +kernel
theorem dX8_farthest_62 : decode cX8_farthest 62 = .ok (.goto (-58), 3) := by decide +kernel
theorem dX8_farthest_65 : decode cX8_farthest 65 = .ok (.iload_n 1, 1) := by decide +kernel
theorem dX8_farthest_66 : decode cX8_farthest 66 = .ok (.ireturn, 1) := by decide +kernel
theorem dX8_isLike_0 : decode cX8_isLike 0 = .ok (.aload_n 0, 1) := by decide +kernel
theorem dX8_isLike_1 : decode cX8_isLike 1 = .ok (.iload_n 1, 1) := by decide +kernel
theorem dX8_isLike_2 : decode cX8_isLike 2 = .ok (.iload_n 2, 1) := by decide +kernel
theorem dX8_isLike_3 : decode cX8_isLike 3 = .ok (.invokevirtual 43, 3) := by decide +kernel
theorem dX8_isLike_6 : decode cX8_isLike 6 = .ok (.istore 5, 2) := by decide +kernel
theorem dX8_isLike_8 : decode cX8_isLike 8 = .ok (.aload_n 0, 1) := by decide +kernel
theorem dX8_isLike_9 : decode cX8_isLike 9 = .ok (.iload 4, 2) := by decide +kernel
theorem dX8_isLike_11 : decode cX8_isLike 11 = .ok (.ifCond .eq 10, 3) := by decide +kernel
theorem dX8_isLike_14 : decode cX8_isLike 14 = .ok (.iload_n 1, 1) := by decide +kernel
theorem dX8_isLike_15 : decode cX8_isLike 15 = .ok (.invokestatic 78, 3) := by decide +kernel
theorem dX8_isLike_18 : decode cX8_isLike 18 = .ok (.goto 4, 3) := by decide +kernel
theorem dX8_isLike_21 : decode cX8_isLike 21 = .ok (.iload_n 1, 1) := by decide +kernel
theorem dX8_isLike_22 : decode cX8_isLike 22 = .ok (.iload_n 3, 1) := by decide +kernel
theorem dX8_isLike_23 : decode cX8_isLike 23 = .ok (.invokevirtual 43, 3) := by decide +kernel
theorem dX8_isLike_26 : decode cX8_isLike 26 = .ok (.istore 6, 2) := by decide +kernel
theorem dX8_isLike_28 : decode cX8_isLike 28 = .ok (.iload 5, 2) := by decide +kernel
theorem dX8_isLike_30 : decode cX8_isLike 30 = .ok (.ifCond .lt 8, 3) := by decide +kernel
theorem dX8_isLike_33 : decode cX8_isLike 33 = .ok (.iload 6, 2) := by decide +kernel
theorem dX8_isLike_35 : decode cX8_isLike 35 = .ok (.ifCond .ge 19, 3) := by decide +kernel
theorem dX8_isLike_38 : decode cX8_isLike 38 = .ok (.iload 5, 2) := by decide +kernel
theorem dX8_isLike_40 : decode cX8_isLike 40 = .ok (.ifCond .ge 12, 3) := by decide +kernel
theorem dX8_isLike_43 : decode cX8_isLike 43 = .ok (.iload 6, 2) := by decide +kernel
theorem dX8_isLike_45 : decode cX8_isLike 45 = .ok (.ifCond .ge 7, 3) := by decide +kernel
theorem dX8_isLike_48 : decode cX8_isLike 48 = .ok (.iconst 1, 1) := by decide +kernel
theorem dX8_isLike_49 : decode cX8_isLike 49 = .ok (.goto 4, 3) := by decide +kernel
theorem dX8_isLike_52 : decode cX8_isLike 52 = .ok (.iconst 0, 1) := by decide +kernel
theorem dX8_isLike_53 : decode cX8_isLike 53 = .ok (.ireturn, 1) := by decide +kernel
theorem dX8_isLike_54 : decode cX8_isLike 54 = .ok (.aload_n 0, 1) := by decide +kernel
theorem dX8_isLike_55 : decode cX8_isLike 55 = .ok (.getfield 7, 3) := by decide +kernel
theorem dX8_isLike_58 : decode cX8_isLike 58 = .ok (.sipush 243, 3) := by decide +kernel
theorem dX8_isLike_61 : decode cX8_isLike 61 = .ok (.iload 6, 2) := by decide +kernel
theorem dX8_isLike_63 : decode cX8_isLike 63 = .ok (.iadd, 1) := by decide +kernel
theorem dX8_isLike_64 : decode cX8_isLike 64 = .ok (.iaload, 1) := by decide +kernel
theorem dX8_isLike_65 : decode cX8_isLike 65 = .ok (.istore 7, 2) := by decide +kernel
theorem dX8_isLike_67 : decode cX8_isLike 67 = .ok (.iload 4, 2) := by decide +kernel
theorem dX8_isLike_69 : decode cX8_isLike 69 = .ok (.ifCond .eq 22, 3) := by decide +kernel
theorem dX8_isLike_72 : decode cX8_isLike 72 = .ok (.iload 7, 2) := by decide +kernel
theorem dX8_isLike_74 : decode cX8_isLike 74 = .ok (.aload_n 0, 1) := by decide +kernel
theorem dX8_isLike_75 : decode cX8_isLike 75 = .ok (.getfield 7, 3) := by decide +kernel
theorem dX8_isLike_78 : decode cX8_isLike 78 = .ok (.sipush 483, 3) := by decide +kernel
theorem dX8_isLike_81 : decode cX8_isLike 81 = .ok (.iload 6, 2) := by decide +kernel
theorem dX8_isLike_83 : decode cX8_isLike 83 = .ok (.iadd, 1) := by decide +kernel
theorem dX8_isLike_84 : decode cX8_isLike 84 = .ok (.iaload, 1) := by decide +kernel
theorem dX8_isLike_85 : decode cX8_isLike 85 = .ok (.invokestatic 81, 3) := by decide +kernel
theorem dX8_isLike_88 : decode cX8_isLike 88 = .ok (.goto 14, 3) := by decide +kernel
theorem dX8_isLike_91 : decode cX8_isLike 91 = .ok (.aload_n 0, 1) := by decide +kernel
theorem dX8_isLike_92 : decode cX8_isLike 92 = .ok (.getfield 7, 3) := by decide +kernel
theorem dX8_isLike_95 : decode cX8_isLike 95 = .ok (.sipush 483, 3) := by decide +kernel
theorem dX8_isLike_98 : decode cX8_isLike 98 = .ok (.iload 6, 2) := by decide +kernel
theorem dX8_isLike_100 : decode cX8_isLike 100 = .ok (.iadd, 1) := by decide +kernel
theorem dX8_isLike_101 : decode cX8_isLike 101 = .ok (.iaload, 1) := by decide +kernel
theorem dX8_isLike_102 : decode cX8_isLike 102 = .ok (.istore 8, 2) := by decide +kernel
theorem dX8_isLike_104 : decode cX8_isLike 104 = .ok (.aload_n 0, 1) := by decide +kernel
theorem dX8_isLike_105 : decode cX8_isLike 105 = .ok (.getfield 7, 3) := by decide +kernel
theorem dX8_isLike_108 : decode cX8_isLike 108 = .ok (.sipush 243, 3) := by decide +kernel
theorem dX8_isLike_111 : decode cX8_isLike 111 = .ok (.iload 5, 2) := by decide +kernel
theorem dX8_isLike_113 : decode cX8_isLike 113 = .ok (.iadd, 1) := by decide +kernel
theorem dX8_isLike_114 : decode cX8_isLike 114 = .ok (.iaload, 1) := by decide +kernel
theorem dX8_isLike_115 : decode cX8_isLike 115 = .ok (.iload 7, 2) := by decide +kernel
theorem dX8_isLike_117 : decode cX8_isLike 117 = .ok (.if_icmp .ne 48, 3) := by decide +kernel
theorem dX8_isLike_120 : decode cX8_isLike 120 = .ok (.aload_n 0, 1) := by decide +kernel
theorem dX8_isLike_121 : decode cX8_isLike 121 = .ok (.getfield 7, 3) := by decide +kernel
theorem dX8_isLike_124 : decode cX8_isLike 124 = .ok (.sipush 483, 3) := by decide +kernel
theorem dX8_isLike_127 : decode cX8_isLike 127 = .ok (.iload 5, 2) := by decide +kernel
theorem dX8_isLike_129 : decode cX8_isLike 129 = .ok (.iadd, 1) := by decide +kernel
theorem dX8_isLike_130 : decode cX8_isLike 130 = .ok (.iaload, 1) := by decide +kernel
theorem dX8_isLike_131 : decode cX8_isLike 131 = .ok (.iload 8, 2) := by decide +kernel
theorem dX8_isLike_133 : decode cX8_isLike 133 = .ok (.if_icmp .ne 32, 3) := by decide +kernel
theorem dX8_isLike_136 : decode cX8_isLike 136 = .ok (.aload_n 0, 1) := by decide +kernel
theorem dX8_isLike_137 : decode cX8_isLike 137 = .ok (.getfield 7, 3) := by decide +kernel
theorem dX8_isLike_140 : decode cX8_isLike 140 = .ok (.sipush 603, 3) := by decide +kernel
theorem dX8_isLike_143 : decode cX8_isLike 143 = .ok (.iload 5, 2) := by decide +kernel
theorem dX8_isLike_145 : decode cX8_isLike 145 = .ok (.iadd, 1) := by decide +kernel
theorem dX8_isLike_146 : decode cX8_isLike 146 = .ok (.iaload, 1) := by decide +kernel
theorem dX8_isLike_147 : decode cX8_isLike 147 = .ok (.aload_n 0, 1) := by decide +kernel
theorem dX8_isLike_148 : decode cX8_isLike 148 = .ok (.getfield 7, 3) := by decide +kernel
theorem dX8_isLike_151 : decode cX8_isLike 151 = .ok (.sipush 603, 3) := by decide +kernel
theorem dX8_isLike_154 : decode cX8_isLike 154 = .ok (.iload 6, 2) := by decide +kernel
theorem dX8_isLike_156 : decode cX8_isLike 156 = .ok (.iadd, 1) := by decide +kernel
theorem dX8_isLike_157 : decode cX8_isLike 157 = .ok (.iaload, 1) := by decide +kernel
theorem dX8_isLike_158 : decode cX8_isLike 158 = .ok (.if_icmp .ne 7, 3) := by decide +kernel
theorem dX8_isLike_161 : decode cX8_isLike 161 = .ok (.iconst 1, 1) := by decide +kernel
theorem dX8_isLike_162 : decode cX8_isLike 162 = .ok (.goto 4, 3) := by decide +kernel
theorem dX8_isLike_165 : decode cX8_isLike 165 = .ok (.iconst 0, 1) := by decide +kernel
theorem dX8_isLike_166 : decode cX8_isLike 166 = .ok (.ireturn, 1) := by decide +kernel
theorem dX8_alike_0 : decode cX8_alike 0 = .ok (.aload_n 0, 1) := by decide +kernel
theorem dX8_alike_1 : decode cX8_alike 1 = .ok (.iload_n 1, 1) := by decide +kernel
theorem dX8_alike_2 : decode cX8_alike 2 = .ok (.invokevirtual 57, 3) := by decide +kernel
theorem dX8_alike_5 : decode cX8_alike 5 = .ok (.ifCond .eq 47, 3) := by decide +kernel
theorem dX8_alike_8 : decode cX8_alike 8 = .ok (.iload_n 2, 1) := by decide +kernel
theorem dX8_alike_9 : decode cX8_alike 9 = .ok (.iload_n 1, 1) := by decide +kernel
theorem dX8_alike_10 : decode cX8_alike 10 = .ok (.iconst 1, 1) := by decide +kernel
theorem dX8_alike_11 : decode cX8_alike 11 = .ok (.iadd, 1) := by decide +kernel
theorem dX8_alike_12 : decode cX8_alike 12 = .ok (.aload_n 0, 1) := by decide +kernel
theorem dX8_alike_13 : decode cX8_alike 13 = .ok (.getfield 7, 3) := by decide +kernel
theorem dX8_alike_16 : decode cX8_alike 16 = .ok (.iconst 0, 1) := by decide +kernel
theorem dX8_alike_17 : decode cX8_alike 17 = .ok (.iaload, 1) := by decide +kernel
theorem dX8_alike_18 : decode cX8_alike 18 = .ok (.invokestatic 32, 3) := by decide +kernel
theorem dX8_alike_21 : decode cX8_alike 21 = .ok (.ifCond .eq 31, 3) := by decide +kernel
theorem dX8_alike_24 : decode cX8_alike 24 = .ok (.iload_n 3, 1) := by decide +kernel
theorem dX8_alike_25 : decode cX8_alike 25 = .ok (.iconst 0, 1) := by decide +kernel
theorem dX8_alike_26 : decode cX8_alike 26 = .ok (.aload_n 0, 1) := by decide +kernel
theorem dX8_alike_27 : decode cX8_alike 27 = .ok (.getfield 7, 3) := by decide +kernel
theorem dX8_alike_30 : decode cX8_alike 30 = .ok (.iconst 0, 1) := by decide +kernel
theorem dX8_alike_31 : decode cX8_alike 31 = .ok (.iaload, 1) := by decide +kernel
theorem dX8_alike_32 : decode cX8_alike 32 = .ok (.iload_n 2, 1) := by decide +kernel
theorem dX8_alike_33 : decode cX8_alike 33 = .ok (.isub, 1) := by decide +kernel
theorem dX8_alike_34 : decode cX8_alike 34 = .ok (.iload_n 1, 1) := by decide +kernel
theorem dX8_alike_35 : decode cX8_alike 35 = .ok (.iadd, 1) := by decide +kernel
theorem dX8_alike_36 : decode cX8_alike 36 = .ok (.invokestatic 32, 3) := by decide +kernel
theorem dX8_alike_39 : decode cX8_alike 39 = .ok (.ifCond .eq 13, 3) := by decide +kernel
theorem dX8_alike_42 : decode cX8_alike 42 = .ok (.iload 4, 2) := by decide +kernel
theorem dX8_alike_44 : decode cX8_alike 44 = .ok (.iconst 0, 1) := by decide +kernel
theorem dX8_alike_45 : decode cX8_alike 45 = .ok (.iconst 1, 1) := by decide +kernel
theorem dX8_alike_46 : decode cX8_alike 46 = .ok (.invokestatic 32, 3) := by decide +kernel
theorem dX8_alike_49 : decode cX8_alike 49 = .ok (.ifCond .ne 7, 3) := by decide +kernel
theorem dX8_alike_52 : decode cX8_alike 52 = .ok (.sipush (-1001), 3) := by decide +kernel
theorem dX8_alike_55 : decode cX8_alike 55 = .ok (.ireturn, 1) := by decide +kernel
theorem dX8_alike_56 : decode cX8_alike 56 = .ok (.aload_n 0, 1) := by decide +kernel
theorem dX8_alike_57 : decode cX8_alike 57 = .ok (.invokevirtual 40, 3) := by decide +kernel
theorem dX8_alike_60 : decode cX8_alike 60 = .ok (.iconst 0, 1) := by decide +kernel
theorem dX8_alike_61 : decode cX8_alike 61 = .ok (.istore 5, 2) := by decide +kernel
theorem dX8_alike_63 : decode cX8_alike 63 = .ok (.iload_n 1, 1) := by decide +kernel
theorem dX8_alike_64 : decode cX8_alike 64 = .ok (.istore 6, 2) := by decide +kernel
theorem dX8_alike_66 : decode cX8_alike 66 = .ok (.iload 6, 2) := by decide +kernel
theorem dX8_alike_68 : decode cX8_alike 68 = .ok (.iload_n 2, 1) := by decide +kernel
theorem dX8_alike_69 : decode cX8_alike 69 = .ok (.if_icmp .ge 75, 3) := by decide +kernel
theorem dX8_alike_72 : decode cX8_alike 72 = .ok (.iconst 1, 1) := by decide +kernel
theorem dX8_alike_73 : decode cX8_alike 73 = .ok (.istore 7, 2) := by decide +kernel
theorem dX8_alike_75 : decode cX8_alike 75 = .ok (.iconst 0, 1) := by decide +kernel
theorem dX8_alike_76 : decode cX8_alike 76 = .ok (.istore 8, 2) := by decide +kernel
theorem dX8_alike_78 : decode cX8_alike 78 = .ok (.iload 8, 2) := by decide +kernel
theorem dX8_alike_80 : decode cX8_alike 80 = .ok (.bipush 7, 2) := by decide +kernel
theorem dX8_alike_82 : decode cX8_alike 82 = .ok (.if_icmp .ge 41, 3) := by decide +kernel
theorem dX8_alike_85 : decode cX8_alike 85 = .ok (.iload 7, 2) := by decide +kernel
theorem dX8_alike_87 : decode cX8_alike 87 = .ok (.ifCond .eq 36, 3) := by decide +kernel
theorem dX8_alike_90 : decode cX8_alike 90 = .ok (.aload_n 0, 1) := by decide +kernel
theorem dX8_alike_91 : decode cX8_alike 91 = .ok (.iload 8, 2) := by decide +kernel
theorem dX8_alike_93 : decode cX8_alike 93 = .ok (.iload 6, 2) := by decide +kernel
theorem dX8_alike_95 : decode cX8_alike 95 = .ok (.iload_n 3, 1) := by decide +kernel
theorem dX8_alike_96 : decode cX8_alike 96 = .ok (.iload 6, 2) := by decide +kernel
theorem dX8_alike_98 : decode cX8_alike 98 = .ok (.iadd, 1) := by decide +kernel
theorem dX8_alike_99 : decode cX8_alike 99 = .ok (.iload_n 1, 1) := by decide +kernel
theorem dX8_alike_100 : decode cX8_alike 100 = .ok (.isub, 1) := by decide +kernel
theorem dX8_alike_101 : decode cX8_alike 101 = .ok (.iload 4, 2) := by decide +kernel
theorem dX8_alike_103 : decode cX8_alike 103 = .ok (.iconst 1, 1) := by decide +kernel
theorem dX8_alike_104 : decode cX8_alike 104 = .ok (.if_icmp .ne 7, 3) := by decide +kernel
theorem dX8_alike_107 : decode cX8_alike 107 = .ok (.iconst 1, 1) := by decide +kernel
theorem dX8_alike_108 : decode cX8_alike 108 = .ok (.goto 4, 3) := by decide +kernel
theorem dX8_alike_111 : decode cX8_alike 111 = .ok (.iconst 0, 1) := by decide +kernel
theorem dX8_alike_112 : decode cX8_alike 112 = .ok (.invokevirtual 128, 3) := by decide +kernel
theorem dX8_alike_115 : decode cX8_alike 115 = .ok (.istore 7, 2) := by decide +kernel
theorem dX8_alike_117 : decode cX8_alike 117 = .ok (.iinc 8 1, 3) := by decide +kernel
theorem dX8_alike_120 : decode cX8_alike 120 = .ok (.goto (-42), 3) := by decide +kernel
theorem dX8_alike_123 : decode cX8_alike 123 = .ok (.iload 5, 2) := by decide +kernel
theorem dX8_alike_125 : decode cX8_alike 125 = .ok (.iload 7, 2) := by decide +kernel
theorem dX8_alike_127 : decode cX8_alike 127 = .ok (.ifCond .eq 7, 3) := by decide +kernel
theorem dX8_alike_130 : decode cX8_alike 130 = .ok (.iconst 1, 1) := by decide +kernel
theorem dX8_alike_131 : decode cX8_alike 131 = .ok (.goto 4, 3) := by decide +kernel
theorem dX8_alike_134 : decode cX8_alike 134 = .ok (.iconst 0, 1) := by decide +kernel
theorem dX8_alike_135 : decode cX8_alike 135 = .ok (.iadd, 1) := by decide +kernel
theorem dX8_alike_136 : decode cX8_alike 136 = .ok (.istore 5, 2) := by decide +kernel
theorem dX8_alike_138 : decode cX8_alike 138 = .ok (.iinc 6 1, 3) := by decide +kernel
theorem dX8_alike_141 : decode cX8_alike 141 = .ok (.goto (-75), 3) := by decide +kernel
theorem dX8_alike_144 : decode cX8_alike 144 = .ok (.iload 5, 2) := by decide +kernel
theorem dX8_alike_146 : decode cX8_alike 146 = .ok (.ireturn, 1) := by decide +kernel
theorem dX8_type_0 : decode cX8_type 0 = .ok (.iload_n 1, 1) := by decide +kernel
theorem dX8_type_1 : decode cX8_type 1 = .ok (.bipush 32, 2) := by decide +kernel
theorem dX8_type_3 : decode cX8_type 3 = .ok (.bipush 126, 2) := by decide +kernel
theorem dX8_type_5 : decode cX8_type 5 = .ok (.invokestatic 32, 3) := by decide +kernel
theorem dX8_type_8 : decode cX8_type 8 = .ok (.ifCond .ne 7, 3) := by decide +kernel
theorem dX8_type_11 : decode cX8_type 11 = .ok (.sipush (-1001), 3) := by decide +kernel
theorem dX8_type_14 : decode cX8_type 14 = .ok (.ireturn, 1) := by decide +kernel
theorem dX8_type_15 : decode cX8_type 15 = .ok (.aload_n 0, 1) := by decide +kernel
theorem dX8_type_16 : decode cX8_type 16 = .ok (.getfield 88, 3) := by decide +kernel
theorem dX8_type_19 : decode cX8_type 19 = .ok (.bipush 120, 2) := by decide +kernel
theorem dX8_type_21 : decode cX8_type 21 = .ok (.if_icmp .ne 7, 3) := by decide +kernel
theorem dX8_type_24 : decode cX8_type 24 = .ok (.sipush (-1003), 3) := by decide +kernel
theorem dX8_type_27 : decode cX8_type 27 = .ok (.ireturn, 1) := by decide +kernel
theorem dX8_type_28 : decode cX8_type 28 = .ok (.aload_n 0, 1) := by decide +kernel
theorem dX8_type_29 : decode cX8_type 29 = .ok (.getfield 19, 3) := by decide +kernel
theorem dX8_type_32 : decode cX8_type 32 = .ok (.aload_n 0, 1) := by decide +kernel
theorem dX8_type_33 : decode cX8_type 33 = .ok (.getfield 88, 3) := by decide +kernel
theorem dX8_type_36 : decode cX8_type 36 = .ok (.iload_n 1, 1) := by decide +kernel
theorem dX8_type_37 : decode cX8_type 37 = .ok (.i2c, 1) := by decide +kernel
theorem dX8_type_38 : decode cX8_type 38 = .ok (.castore, 1) := by decide +kernel
theorem dX8_type_39 : decode cX8_type 39 = .ok (.aload_n 0, 1) := by decide +kernel
theorem dX8_type_40 : decode cX8_type 40 = .ok (.dup, 1) := by decide +kernel
theorem dX8_type_41 : decode cX8_type 41 = .ok (.getfield 88, 3) := by decide +kernel
theorem dX8_type_44 : decode cX8_type 44 = .ok (.iconst 1, 1) := by decide +kernel
theorem dX8_type_45 : decode cX8_type 45 = .ok (.iadd, 1) := by decide +kernel
theorem dX8_type_46 : decode cX8_type 46 = .ok (.putfield 88, 3) := by decide +kernel
theorem dX8_type_49 : decode cX8_type 49 = .ok (.aload_n 0, 1) := by decide +kernel
theorem dX8_type_50 : decode cX8_type 50 = .ok (.getfield 88, 3) := by decide +kernel
theorem dX8_type_53 : decode cX8_type 53 = .ok (.ireturn, 1) := by decide +kernel
theorem dX8_clearText_0 : decode cX8_clearText 0 = .ok (.aload_n 0, 1) := by decide +kernel
theorem dX8_clearText_1 : decode cX8_clearText 1 = .ok (.getfield 88, 3) := by decide +kernel
theorem dX8_clearText_4 : decode cX8_clearText 4 = .ok (.istore_n 1, 1) := by decide +kernel
theorem dX8_clearText_5 : decode cX8_clearText 5 = .ok (.aload_n 0, 1) := by decide +kernel
theorem dX8_clearText_6 : decode cX8_clearText 6 = .ok (.iconst 0, 1) := by decide +kernel
theorem dX8_clearText_7 : decode cX8_clearText 7 = .ok (.putfield 88, 3) := by decide +kernel
theorem dX8_clearText_10 : decode cX8_clearText 10 = .ok (.iload_n 1, 1) := by decide +kernel
theorem dX8_clearText_11 : decode cX8_clearText 11 = .ok (.ireturn, 1) := by decide +kernel
theorem dX8_here_0 : decode cX8_here 0 = .ok (.aload_n 0, 1) := by decide +kernel
theorem dX8_here_1 : decode cX8_here 1 = .ok (.getfield 132, 3) := by decide +kernel
theorem dX8_here_4 : decode cX8_here 4 = .ok (.aload_n 0, 1) := by decide +kernel
theorem dX8_here_5 : decode cX8_here 5 = .ok (.getfield 88, 3) := by decide +kernel
theorem dX8_here_8 : decode cX8_here 8 = .ok (.if_icmp .ge 15, 3) := by decide +kernel
theorem dX8_here_11 : decode cX8_here 11 = .ok (.aload_n 0, 1) := by decide +kernel
theorem dX8_here_12 : decode cX8_here 12 = .ok (.getfield 19, 3) := by decide +kernel
theorem dX8_here_15 : decode cX8_here 15 = .ok (.aload_n 0, 1) := by decide +kernel
theorem dX8_here_16 : decode cX8_here 16 = .ok (.getfield 132, 3) := by decide +kernel
theorem dX8_here_19 : decode cX8_here 19 = .ok (.caload, 1) := by decide +kernel
theorem dX8_here_20 : decode cX8_here 20 = .ok (.goto 4, 3) := by decide +kernel
theorem dX8_here_23 : decode cX8_here 23 = .ok (.iconst (-1), 1) := by decide +kernel
theorem dX8_here_24 : decode cX8_here 24 = .ok (.ireturn, 1) := by decide +kernel
theorem dX8_passes_0 : decode cX8_passes 0 = .ok (.aload_n 0, 1) := by decide +kernel
theorem dX8_passes_1 : decode cX8_passes 1 = .ok (.invokevirtual 135, 3) := by decide +kernel
theorem dX8_passes_4 : decode cX8_passes 4 = .ok (.iload_n 1, 1) := by decide +kernel
theorem dX8_passes_5 : decode cX8_passes 5 = .ok (.if_icmp .ne 7, 3) := by decide +kernel
theorem dX8_passes_8 : decode cX8_passes 8 = .ok (.iconst 1, 1) := by decide +kernel
theorem dX8_passes_9 : decode cX8_passes 9 = .ok (.goto 4, 3) := by decide +kernel
theorem dX8_passes_12 : decode cX8_passes 12 = .ok (.iconst 0, 1) := by decide +kernel
theorem dX8_passes_13 : decode cX8_passes 13 = .ok (.istore_n 2, 1) := by decide +kernel
theorem dX8_passes_14 : decode cX8_passes 14 = .ok (.aload_n 0, 1) := by decide +kernel
theorem dX8_passes_15 : decode cX8_passes 15 = .ok (.dup, 1) := by decide +kernel
theorem dX8_passes_16 : decode cX8_passes 16 = .ok (.getfield 132, 3) := by decide +kernel
theorem dX8_passes_19 : decode cX8_passes 19 = .ok (.iload_n 2, 1) := by decide +kernel
theorem dX8_passes_20 : decode cX8_passes 20 = .ok (.ifCond .eq 7, 3) := by decide +kernel
theorem dX8_passes_23 : decode cX8_passes 23 = .ok (.iconst 1, 1) := by decide +kernel
theorem dX8_passes_24 : decode cX8_passes 24 = .ok (.goto 4, 3) := by decide +kernel
theorem dX8_passes_27 : decode cX8_passes 27 = .ok (.iconst 0, 1) := by decide +kernel
theorem dX8_passes_28 : decode cX8_passes 28 = .ok (.iadd, 1) := by decide +kernel
theorem dX8_passes_29 : decode cX8_passes 29 = .ok (.putfield 132, 3) := by decide +kernel
theorem dX8_passes_32 : decode cX8_passes 32 = .ok (.iload_n 2, 1) := by decide +kernel
theorem dX8_passes_33 : decode cX8_passes 33 = .ok (.ireturn, 1) := by decide +kernel
theorem dX8_digit_0 : decode cX8_digit 0 = .ok (.aload_n 0, 1) := by decide +kernel
theorem dX8_digit_1 : decode cX8_digit 1 = .ok (.invokevirtual 135, 3) := by decide +kernel
theorem dX8_digit_4 : decode cX8_digit 4 = .ok (.bipush 48, 2) := by decide +kernel
theorem dX8_digit_6 : decode cX8_digit 6 = .ok (.iload_n 1, 1) := by decide +kernel
theorem dX8_digit_7 : decode cX8_digit 7 = .ok (.iadd, 1) := by decide +kernel
theorem dX8_digit_8 : decode cX8_digit 8 = .ok (.bipush 48, 2) := by decide +kernel
theorem dX8_digit_10 : decode cX8_digit 10 = .ok (.iload_n 2, 1) := by decide +kernel
theorem dX8_digit_11 : decode cX8_digit 11 = .ok (.iadd, 1) := by decide +kernel
theorem dX8_digit_12 : decode cX8_digit 12 = .ok (.invokestatic 32, 3) := by decide +kernel
theorem dX8_digit_15 : decode cX8_digit 15 = .ok (.ifCond .eq 13, 3) := by decide +kernel
theorem dX8_digit_18 : decode cX8_digit 18 = .ok (.aload_n 0, 1) := by decide +kernel
theorem dX8_digit_19 : decode cX8_digit 19 = .ok (.invokevirtual 135, 3) := by decide +kernel
theorem dX8_digit_22 : decode cX8_digit 22 = .ok (.bipush 48, 2) := by decide +kernel
theorem dX8_digit_24 : decode cX8_digit 24 = .ok (.isub, 1) := by decide +kernel
theorem dX8_digit_25 : decode cX8_digit 25 = .ok (.goto 4, 3) := by decide +kernel
theorem dX8_digit_28 : decode cX8_digit 28 = .ok (.iconst (-1), 1) := by decide +kernel
theorem dX8_digit_29 : decode cX8_digit 29 = .ok (.istore_n 3, 1) := by decide +kernel
theorem dX8_digit_30 : decode cX8_digit 30 = .ok (.aload_n 0, 1) := by decide +kernel
theorem dX8_digit_31 : decode cX8_digit 31 = .ok (.dup, 1) := by decide +kernel
theorem dX8_digit_32 : decode cX8_digit 32 = .ok (.getfield 132, 3) := by decide +kernel
theorem dX8_digit_35 : decode cX8_digit 35 = .ok (.iload_n 3, 1) := by decide +kernel
theorem dX8_digit_36 : decode cX8_digit 36 = .ok (.ifCond .ge 7, 3) := by decide +kernel
theorem dX8_digit_39 : decode cX8_digit 39 = .ok (.iconst 0, 1) := by decide +kernel
theorem dX8_digit_40 : decode cX8_digit 40 = .ok (.goto 4, 3) := by decide +kernel
theorem dX8_digit_43 : decode cX8_digit 43 = .ok (.iconst 1, 1) := by decide +kernel
theorem dX8_digit_44 : decode cX8_digit 44 = .ok (.iadd, 1) := by decide +kernel
theorem dX8_digit_45 : decode cX8_digit 45 = .ok (.putfield 132, 3) := by decide +kernel
theorem dX8_digit_48 : decode cX8_digit 48 = .ok (.iload_n 3, 1) := by decide +kernel
theorem dX8_digit_49 : decode cX8_digit 49 = .ok (.ireturn, 1) := by decide +kernel
theorem dX8_length_0 : decode cX8_length 0 = .ok (.aload_n 0, 1) := by decide +kernel
theorem dX8_length_1 : decode cX8_length 1 = .ok (.iconst 0, 1) := by decide +kernel
theorem dX8_length_2 : decode cX8_length 2 = .ok (.bipush 9, 2) := by decide +kernel
theorem dX8_length_4 : decode cX8_length 4 = .ok (.invokevirtual 139, 3) := by decide +kernel
theorem dX8_length_7 : decode cX8_length 7 = .ok (.istore_n 1, 1) := by decide +kernel
theorem dX8_length_8 : decode cX8_length 8 = .ok (.iload_n 1, 1) := by decide +kernel
theorem dX8_length_9 : decode cX8_length 9 = .ok (.ifCond .ge 7, 3) := by decide +kernel
theorem dX8_length_12 : decode cX8_length 12 = .ok (.iconst (-1), 1) := by decide +kernel
theorem dX8_length_13 : decode cX8_length 13 = .ok (.goto 10, 3) := by decide +kernel
theorem dX8_length_16 : decode cX8_length 16 = .ok (.aload_n 0, 1) := by decide +kernel
theorem dX8_length_17 : decode cX8_length 17 = .ok (.iconst 0, 1) := by decide +kernel
theorem dX8_length_18 : decode cX8_length 18 = .ok (.bipush 9, 2) := by decide +kernel
theorem dX8_length_20 : decode cX8_length 20 = .ok (.invokevirtual 139, 3) := by decide +kernel
theorem dX8_length_23 : decode cX8_length 23 = .ok (.istore_n 2, 1) := by decide +kernel
theorem dX8_length_24 : decode cX8_length 24 = .ok (.iload_n 2, 1) := by decide +kernel
theorem dX8_length_25 : decode cX8_length 25 = .ok (.ifCond .ge 7, 3) := by decide +kernel
theorem dX8_length_28 : decode cX8_length 28 = .ok (.iload_n 1, 1) := by decide +kernel
theorem dX8_length_29 : decode cX8_length 29 = .ok (.goto 9, 3) := by decide +kernel
theorem dX8_length_32 : decode cX8_length 32 = .ok (.bipush 10, 2) := by decide +kernel
theorem dX8_length_34 : decode cX8_length 34 = .ok (.iload_n 1, 1) := by decide +kernel
theorem dX8_length_35 : decode cX8_length 35 = .ok (.imul, 1) := by decide +kernel
theorem dX8_length_36 : decode cX8_length 36 = .ok (.iload_n 2, 1) := by decide +kernel
theorem dX8_length_37 : decode cX8_length 37 = .ok (.iadd, 1) := by decide +kernel
theorem dX8_length_38 : decode cX8_length 38 = .ok (.ireturn, 1) := by decide +kernel
theorem dX8_lays_0 : decode cX8_lays 0 = .ok (.aload_n 0, 1) := by decide +kernel
theorem dX8_lays_1 : decode cX8_lays 1 = .ok (.getfield 23, 3) := by decide +kernel
theorem dX8_lays_4 : decode cX8_lays 4 = .ok (.iload_n 1, 1) := by decide +kernel
theorem dX8_lays_5 : decode cX8_lays 5 = .ok (.iaload, 1) := by decide +kernel
theorem dX8_lays_6 : decode cX8_lays 6 = .ok (.istore 6, 2) := by decide +kernel
theorem dX8_lays_8 : decode cX8_lays 8 = .ok (.iload_n 2, 1) := by decide +kernel
theorem dX8_lays_9 : decode cX8_lays 9 = .ok (.iconst 1, 1) := by decide +kernel
theorem dX8_lays_10 : decode cX8_lays 10 = .ok (.if_icmp .ne 7, 3) := by decide +kernel
theorem dX8_lays_13 : decode cX8_lays 13 = .ok (.iconst 1, 1) := by decide +kernel
theorem dX8_lays_14 : decode cX8_lays 14 = .ok (.goto 4, 3) := by decide +kernel
theorem dX8_lays_17 : decode cX8_lays 17 = .ok (.iload_n 3, 1) := by decide +kernel
theorem dX8_lays_18 : decode cX8_lays 18 = .ok (.istore 7, 2) := by decide +kernel
theorem dX8_lays_20 : decode cX8_lays 20 = .ok (.iload 7, 2) := by decide +kernel
theorem dX8_lays_22 : decode cX8_lays 22 = .ok (.iconst 1, 1) := by decide +kernel
theorem dX8_lays_23 : decode cX8_lays 23 = .ok (.if_icmp .lt 28, 3) := by decide +kernel
theorem dX8_lays_26 : decode cX8_lays 26 = .ok (.iload 6, 2) := by decide +kernel
theorem dX8_lays_28 : decode cX8_lays 28 = .ok (.iload 7, 2) := by decide +kernel
theorem dX8_lays_30 : decode cX8_lays 30 = .ok (.iadd, 1) := by decide +kernel
theorem dX8_lays_31 : decode cX8_lays 31 = .ok (.aload_n 0, 1) := by decide +kernel
theorem dX8_lays_32 : decode cX8_lays 32 = .ok (.getfield 7, 3) := by decide +kernel
theorem dX8_lays_35 : decode cX8_lays 35 = .ok (.iconst 0, 1) := by decide +kernel
theorem dX8_lays_36 : decode cX8_lays 36 = .ok (.iaload, 1) := by decide +kernel
theorem dX8_lays_37 : decode cX8_lays 37 = .ok (.if_icmp .gt 14, 3) := by decide +kernel
theorem dX8_lays_40 : decode cX8_lays 40 = .ok (.aload_n 0, 1) := by decide +kernel
theorem dX8_lays_41 : decode cX8_lays 41 = .ok (.getfield 7, 3) := by decide +kernel
theorem dX8_lays_44 : decode cX8_lays 44 = .ok (.iconst 2, 1) := by decide +kernel
theorem dX8_lays_45 : decode cX8_lays 45 = .ok (.iaload, 1) := by decide +kernel
theorem dX8_lays_46 : decode cX8_lays 46 = .ok (.bipush 60, 2) := by decide +kernel
theorem dX8_lays_48 : decode cX8_lays 48 = .ok (.if_icmp .ne 5, 3) := by decide +kernel
theorem dX8_lays_51 : decode cX8_lays 51 = .ok (.iconst 0, 1) := by decide +kernel
theorem dX8_lays_52 : decode cX8_lays 52 = .ok (.ireturn, 1) := by decide +kernel
theorem dX8_lays_53 : decode cX8_lays 53 = .ok (.aload_n 0, 1) := by decide +kernel
theorem dX8_lays_54 : decode cX8_lays 54 = .ok (.iload_n 1, 1) := by decide +kernel
theorem dX8_lays_55 : decode cX8_lays 55 = .ok (.iload 6, 2) := by decide +kernel
theorem dX8_lays_57 : decode cX8_lays 57 = .ok (.iload_n 2, 1) := by decide +kernel
theorem dX8_lays_58 : decode cX8_lays 58 = .ok (.iload_n 2, 1) := by decide +kernel
theorem dX8_lays_59 : decode cX8_lays 59 = .ok (.iconst 1, 1) := by decide +kernel
theorem dX8_lays_60 : decode cX8_lays 60 = .ok (.if_icmp .ne 7, 3) := by decide +kernel
theorem dX8_lays_63 : decode cX8_lays 63 = .ok (.iconst 0, 1) := by decide +kernel
theorem dX8_lays_64 : decode cX8_lays 64 = .ok (.goto 4, 3) := by decide +kernel
theorem dX8_lays_67 : decode cX8_lays 67 = .ok (.iload_n 3, 1) := by decide +kernel
theorem dX8_lays_68 : decode cX8_lays 68 = .ok (.iload 4, 2) := by decide +kernel
theorem dX8_lays_70 : decode cX8_lays 70 = .ok (.iload 5, 2) := by decide +kernel
theorem dX8_lays_72 : decode cX8_lays 72 = .ok (.invokevirtual 53, 3) := by decide +kernel
theorem dX8_lays_75 : decode cX8_lays 75 = .ok (.pop, 1) := by decide +kernel
theorem dX8_lays_76 : decode cX8_lays 76 = .ok (.aload_n 0, 1) := by decide +kernel
theorem dX8_lays_77 : decode cX8_lays 77 = .ok (.getfield 23, 3) := by decide +kernel
theorem dX8_lays_80 : decode cX8_lays 80 = .ok (.iload_n 1, 1) := by decide +kernel
theorem dX8_lays_81 : decode cX8_lays 81 = .ok (.dup2, 1) := by decide +kernel
theorem dX8_lays_82 : decode cX8_lays 82 = .ok (.iaload, 1) := by decide +kernel
theorem dX8_lays_83 : decode cX8_lays 83 = .ok (.iload 7, 2) := by decide +kernel
theorem dX8_lays_85 : decode cX8_lays 85 = .ok (.iadd, 1) := by decide +kernel
theorem dX8_lays_86 : decode cX8_lays 86 = .ok (.iastore, 1) := by decide +kernel
theorem dX8_lays_87 : decode cX8_lays 87 = .ok (.iconst 1, 1) := by decide +kernel
theorem dX8_lays_88 : decode cX8_lays 88 = .ok (.ireturn, 1) := by decide +kernel
theorem dX8_readsMove_0 : decode cX8_readsMove 0 = .ok (.aload_n 0, 1) := by decide +kernel
theorem dX8_readsMove_1 : decode cX8_readsMove 1 = .ok (.iconst 0, 1) := by decide +kernel
theorem dX8_readsMove_2 : decode cX8_readsMove 2 = .ok (.bipush 8, 2) := by decide +kernel
theorem dX8_readsMove_4 : decode cX8_readsMove 4 = .ok (.invokevirtual 139, 3) := by decide +kernel
theorem dX8_readsMove_7 : decode cX8_readsMove 7 = .ok (.istore_n 2, 1) := by decide +kernel
theorem dX8_readsMove_8 : decode cX8_readsMove 8 = .ok (.iload_n 2, 1) := by decide +kernel
theorem dX8_readsMove_9 : decode cX8_readsMove 9 = .ok (.ifCond .lt 9, 3) := by decide +kernel
theorem dX8_readsMove_12 : decode cX8_readsMove 12 = .ok (.iload_n 1, 1) := by decide +kernel
theorem dX8_readsMove_13 : decode cX8_readsMove 13 = .ok (.bipush 6, 2) := by decide +kernel
theorem dX8_readsMove_15 : decode cX8_readsMove 15 = .ok (.if_icmp .ne 5, 3) := by decide +kernel
theorem dX8_readsMove_18 : decode cX8_readsMove 18 = .ok (.iconst 0, 1) := by decide +kernel
theorem dX8_readsMove_19 : decode cX8_readsMove 19 = .ok (.ireturn, 1) := by decide +kernel
theorem dX8_readsMove_20 : decode cX8_readsMove 20 = .ok (.aload_n 0, 1) := by decide +kernel
theorem dX8_readsMove_21 : decode cX8_readsMove 21 = .ok (.invokevirtual 135, 3) := by decide +kernel
theorem dX8_readsMove_24 : decode cX8_readsMove 24 = .ok (.bipush 108, 2) := by decide +kernel
theorem dX8_readsMove_26 : decode cX8_readsMove 26 = .ok (.if_icmp .ne 7, 3) := by decide +kernel
theorem dX8_readsMove_29 : decode cX8_readsMove 29 = .ok (.iconst 0, 1) := by decide +kernel
theorem dX8_readsMove_30 : decode cX8_readsMove 30 = .ok (.goto 30, 3) := by decide +kernel
theorem dX8_readsMove_33 : decode cX8_readsMove 33 = .ok (.aload_n 0, 1) := by decide +kernel
theorem dX8_readsMove_34 : decode cX8_readsMove 34 = .ok (.invokevirtual 135, 3) := by decide +kernel
theorem dX8_readsMove_37 : decode cX8_readsMove 37 = .ok (.bipush 110, 2) := by decide +kernel
theorem dX8_readsMove_39 : decode cX8_readsMove 39 = .ok (.if_icmp .ne 7, 3) := by decide +kernel
theorem dX8_readsMove_42 : decode cX8_readsMove 42 = .ok (.iconst 1, 1) := by decide +kernel
theorem dX8_readsMove_43 : decode cX8_readsMove 43 = .ok (.goto 17, 3) := by decide +kernel
theorem dX8_readsMove_46 : decode cX8_readsMove 46 = .ok (.aload_n 0, 1) := by decide +kernel
theorem dX8_readsMove_47 : decode cX8_readsMove 47 = .ok (.invokevirtual 135, 3) := by decide +kernel
theorem dX8_readsMove_50 : decode cX8_readsMove 50 = .ok (.bipush 104, 2) := by decide +kernel
theorem dX8_readsMove_52 : decode cX8_readsMove 52 = .ok (.if_icmp .ne 7, 3) := by decide +kernel
theorem dX8_readsMove_55 : decode cX8_readsMove 55 = .ok (.iconst 2, 1) := by decide +kernel
theorem dX8_readsMove_56 : decode cX8_readsMove 56 = .ok (.goto 4, 3) := by decide +kernel
theorem dX8_readsMove_59 : decode cX8_readsMove 59 = .ok (.iconst (-1), 1) := by decide +kernel
theorem dX8_readsMove_60 : decode cX8_readsMove 60 = .ok (.istore_n 3, 1) := by decide +kernel
theorem dX8_readsMove_61 : decode cX8_readsMove 61 = .ok (.aload_n 0, 1) := by decide +kernel
theorem dX8_readsMove_62 : decode cX8_readsMove 62 = .ok (.dup, 1) := by decide +kernel
theorem dX8_readsMove_63 : decode cX8_readsMove 63 = .ok (.getfield 132, 3) := by decide +kernel
theorem dX8_readsMove_66 : decode cX8_readsMove 66 = .ok (.iconst 1, 1) := by decide +kernel
theorem dX8_readsMove_67 : decode cX8_readsMove 67 = .ok (.iadd, 1) := by decide +kernel
theorem dX8_readsMove_68 : decode cX8_readsMove 68 = .ok (.putfield 132, 3) := by decide +kernel
theorem dX8_readsMove_71 : decode cX8_readsMove 71 = .ok (.iload_n 3, 1) := by decide +kernel
theorem dX8_readsMove_72 : decode cX8_readsMove 72 = .ok (.ifCond .lt 22, 3) := by decide +kernel
theorem dX8_readsMove_75 : decode cX8_readsMove 75 = .ok (.aload_n 0, 1) := by decide +kernel
theorem dX8_readsMove_76 : decode cX8_readsMove 76 = .ok (.iload_n 1, 1) := by decide +kernel
theorem dX8_readsMove_77 : decode cX8_readsMove 77 = .ok (.iconst 0, 1) := by decide +kernel
theorem dX8_readsMove_78 : decode cX8_readsMove 78 = .ok (.aload_n 0, 1) := by decide +kernel
theorem dX8_readsMove_79 : decode cX8_readsMove 79 = .ok (.invokevirtual 142, 3) := by decide +kernel
theorem dX8_readsMove_82 : decode cX8_readsMove 82 = .ok (.iload_n 2, 1) := by decide +kernel
theorem dX8_readsMove_83 : decode cX8_readsMove 83 = .ok (.iload_n 3, 1) := by decide +kernel
theorem dX8_readsMove_84 : decode cX8_readsMove 84 = .ok (.invokevirtual 145, 3) := by decide +kernel
theorem dX8_readsMove_87 : decode cX8_readsMove 87 = .ok (.ifCond .eq 7, 3) := by decide +kernel
theorem dX8_readsMove_90 : decode cX8_readsMove 90 = .ok (.iconst 1, 1) := by decide +kernel
theorem dX8_readsMove_91 : decode cX8_readsMove 91 = .ok (.goto 4, 3) := by decide +kernel
theorem dX8_readsMove_94 : decode cX8_readsMove 94 = .ok (.iconst 0, 1) := by decide +kernel
theorem dX8_readsMove_95 : decode cX8_readsMove 95 = .ok (.ireturn, 1) := by decide +kernel
theorem dX8_readsTurn_0 : decode cX8_readsTurn 0 = .ok (.aload_n 0, 1) := by decide +kernel
theorem dX8_readsTurn_1 : decode cX8_readsTurn 1 = .ok (.invokevirtual 135, 3) := by decide +kernel
theorem dX8_readsTurn_4 : decode cX8_readsTurn 4 = .ok (.bipush 45, 2) := by decide +kernel
theorem dX8_readsTurn_6 : decode cX8_readsTurn 6 = .ok (.if_icmp .ne 7, 3) := by decide +kernel
theorem dX8_readsTurn_9 : decode cX8_readsTurn 9 = .ok (.iconst 1, 1) := by decide +kernel
theorem dX8_readsTurn_10 : decode cX8_readsTurn 10 = .ok (.goto 4, 3) := by decide +kernel
theorem dX8_readsTurn_13 : decode cX8_readsTurn 13 = .ok (.iconst 0, 1) := by decide +kernel
theorem dX8_readsTurn_14 : decode cX8_readsTurn 14 = .ok (.istore_n 2, 1) := by decide +kernel
theorem dX8_readsTurn_15 : decode cX8_readsTurn 15 = .ok (.aload_n 0, 1) := by decide +kernel
theorem dX8_readsTurn_16 : decode cX8_readsTurn 16 = .ok (.bipush 43, 2) := by decide +kernel
theorem dX8_readsTurn_18 : decode cX8_readsTurn 18 = .ok (.invokevirtual 149, 3) := by decide +kernel
theorem dX8_readsTurn_21 : decode cX8_readsTurn 21 = .ok (.ifCond .ne 12, 3) := by decide +kernel
theorem dX8_readsTurn_24 : decode cX8_readsTurn 24 = .ok (.aload_n 0, 1) := by decide +kernel
theorem dX8_readsTurn_25 : decode cX8_readsTurn 25 = .ok (.bipush 45, 2) := by decide +kernel
theorem dX8_readsTurn_27 : decode cX8_readsTurn 27 = .ok (.invokevirtual 149, 3) := by decide +kernel
theorem dX8_readsTurn_30 : decode cX8_readsTurn 30 = .ok (.ifCond .eq 9, 3) := by decide +kernel
theorem dX8_readsTurn_33 : decode cX8_readsTurn 33 = .ok (.iload_n 1, 1) := by decide +kernel
theorem dX8_readsTurn_34 : decode cX8_readsTurn 34 = .ok (.bipush 6, 2) := by decide +kernel
theorem dX8_readsTurn_36 : decode cX8_readsTurn 36 = .ok (.if_icmp .eq 5, 3) := by decide +kernel
theorem dX8_readsTurn_39 : decode cX8_readsTurn 39 = .ok (.iconst 0, 1) := by decide +kernel
theorem dX8_readsTurn_40 : decode cX8_readsTurn 40 = .ok (.ireturn, 1) := by decide +kernel
theorem dX8_readsTurn_41 : decode cX8_readsTurn 41 = .ok (.aload_n 0, 1) := by decide +kernel
theorem dX8_readsTurn_42 : decode cX8_readsTurn 42 = .ok (.iconst 1, 1) := by decide +kernel
theorem dX8_readsTurn_43 : decode cX8_readsTurn 43 = .ok (.bipush 8, 2) := by decide +kernel
theorem dX8_readsTurn_45 : decode cX8_readsTurn 45 = .ok (.invokevirtual 139, 3) := by decide +kernel
theorem dX8_readsTurn_48 : decode cX8_readsTurn 48 = .ok (.istore_n 3, 1) := by decide +kernel
theorem dX8_readsTurn_49 : decode cX8_readsTurn 49 = .ok (.iload_n 3, 1) := by decide +kernel
theorem dX8_readsTurn_50 : decode cX8_readsTurn 50 = .ok (.ifCond .le 40, 3) := by decide +kernel
theorem dX8_readsTurn_53 : decode cX8_readsTurn 53 = .ok (.aload_n 0, 1) := by decide +kernel
theorem dX8_readsTurn_54 : decode cX8_readsTurn 54 = .ok (.bipush 47, 2) := by decide +kernel
theorem dX8_readsTurn_56 : decode cX8_readsTurn 56 = .ok (.invokevirtual 149, 3) := by decide +kernel
theorem dX8_readsTurn_59 : decode cX8_readsTurn 59 = .ok (.ifCond .eq 31, 3) := by decide +kernel
theorem dX8_readsTurn_62 : decode cX8_readsTurn 62 = .ok (.aload_n 0, 1) := by decide +kernel
theorem dX8_readsTurn_63 : decode cX8_readsTurn 63 = .ok (.iload_n 1, 1) := by decide +kernel
theorem dX8_readsTurn_64 : decode cX8_readsTurn 64 = .ok (.iconst 2, 1) := by decide +kernel
theorem dX8_readsTurn_65 : decode cX8_readsTurn 65 = .ok (.aload_n 0, 1) := by decide +kernel
theorem dX8_readsTurn_66 : decode cX8_readsTurn 66 = .ok (.invokevirtual 142, 3) := by decide +kernel
theorem dX8_readsTurn_69 : decode cX8_readsTurn 69 = .ok (.iload_n 2, 1) := by decide +kernel
theorem dX8_readsTurn_70 : decode cX8_readsTurn 70 = .ok (.ifCond .eq 8, 3) := by decide +kernel
theorem dX8_readsTurn_73 : decode cX8_readsTurn 73 = .ok (.iload_n 3, 1) := by decide +kernel
theorem dX8_readsTurn_74 : decode cX8_readsTurn 74 = .ok (.ineg, 1) := by decide +kernel
theorem dX8_readsTurn_75 : decode cX8_readsTurn 75 = .ok (.goto 4, 3) := by decide +kernel
theorem dX8_readsTurn_78 : decode cX8_readsTurn 78 = .ok (.iload_n 3, 1) := by decide +kernel
theorem dX8_readsTurn_79 : decode cX8_readsTurn 79 = .ok (.iconst 0, 1) := by decide +kernel
theorem dX8_readsTurn_80 : decode cX8_readsTurn 80 = .ok (.invokevirtual 145, 3) := by decide +kernel
theorem dX8_readsTurn_83 : decode cX8_readsTurn 83 = .ok (.ifCond .eq 7, 3) := by decide +kernel
theorem dX8_readsTurn_86 : decode cX8_readsTurn 86 = .ok (.iconst 1, 1) := by decide +kernel
theorem dX8_readsTurn_87 : decode cX8_readsTurn 87 = .ok (.goto 4, 3) := by decide +kernel
theorem dX8_readsTurn_90 : decode cX8_readsTurn 90 = .ok (.iconst 0, 1) := by decide +kernel
theorem dX8_readsTurn_91 : decode cX8_readsTurn 91 = .ok (.ireturn, 1) := by decide +kernel
theorem dX8_readsItem_0 : decode cX8_readsItem 0 = .ok (.aload_n 0, 1) := by decide +kernel
theorem dX8_readsItem_1 : decode cX8_readsItem 1 = .ok (.iconst 0, 1) := by decide +kernel
theorem dX8_readsItem_2 : decode cX8_readsItem 2 = .ok (.bipush 6, 2) := by decide +kernel
theorem dX8_readsItem_4 : decode cX8_readsItem 4 = .ok (.invokevirtual 139, 3) := by decide +kernel
theorem dX8_readsItem_7 : decode cX8_readsItem 7 = .ok (.istore_n 1, 1) := by decide +kernel
theorem dX8_readsItem_8 : decode cX8_readsItem 8 = .ok (.iload_n 1, 1) := by decide +kernel
theorem dX8_readsItem_9 : decode cX8_readsItem 9 = .ok (.ifCond .ge 5, 3) := by decide +kernel
theorem dX8_readsItem_12 : decode cX8_readsItem 12 = .ok (.iconst 0, 1) := by decide +kernel
theorem dX8_readsItem_13 : decode cX8_readsItem 13 = .ok (.ireturn, 1) := by decide +kernel
theorem dX8_readsItem_14 : decode cX8_readsItem 14 = .ok (.aload_n 0, 1) := by decide +kernel
theorem dX8_readsItem_15 : decode cX8_readsItem 15 = .ok (.bipush 109, 2) := by decide +kernel
theorem dX8_readsItem_17 : decode cX8_readsItem 17 = .ok (.invokevirtual 149, 3) := by decide +kernel
theorem dX8_readsItem_20 : decode cX8_readsItem 20 = .ok (.ifCond .eq 9, 3) := by decide +kernel
theorem dX8_readsItem_23 : decode cX8_readsItem 23 = .ok (.aload_n 0, 1) := by decide +kernel
theorem dX8_readsItem_24 : decode cX8_readsItem 24 = .ok (.iload_n 1, 1) := by decide +kernel
theorem dX8_readsItem_25 : decode cX8_readsItem 25 = .ok (.invokevirtual 152, 3) := by decide +kernel
theorem dX8_readsItem_28 : decode cX8_readsItem 28 = .ok (.ireturn, 1) := by decide +kernel
theorem dX8_readsItem_29 : decode cX8_readsItem 29 = .ok (.aload_n 0, 1) := by decide +kernel
theorem dX8_readsItem_30 : decode cX8_readsItem 30 = .ok (.bipush 107, 2) := by decide +kernel
theorem dX8_readsItem_32 : decode cX8_readsItem 32 = .ok (.invokevirtual 149, 3) := by decide +kernel
theorem dX8_readsItem_35 : decode cX8_readsItem 35 = .ok (.ifCond .eq 13, 3) := by decide +kernel
theorem dX8_readsItem_38 : decode cX8_readsItem 38 = .ok (.aload_n 0, 1) := by decide +kernel
theorem dX8_readsItem_39 : decode cX8_readsItem 39 = .ok (.iload_n 1, 1) := by decide +kernel
theorem dX8_readsItem_40 : decode cX8_readsItem 40 = .ok (.iconst 1, 1) := by decide +kernel
theorem dX8_readsItem_41 : decode cX8_readsItem 41 = .ok (.iconst 0, 1) := by decide +kernel
theorem dX8_readsItem_42 : decode cX8_readsItem 42 = .ok (.iconst 0, 1) := by decide +kernel
theorem dX8_readsItem_43 : decode cX8_readsItem 43 = .ok (.iconst 0, 1) := by decide +kernel
theorem dX8_readsItem_44 : decode cX8_readsItem 44 = .ok (.invokevirtual 145, 3) := by decide +kernel
theorem dX8_readsItem_47 : decode cX8_readsItem 47 = .ok (.ireturn, 1) := by decide +kernel
theorem dX8_readsItem_48 : decode cX8_readsItem 48 = .ok (.aload_n 0, 1) := by decide +kernel
theorem dX8_readsItem_49 : decode cX8_readsItem 49 = .ok (.bipush 116, 2) := by decide +kernel
theorem dX8_readsItem_51 : decode cX8_readsItem 51 = .ok (.invokevirtual 149, 3) := by decide +kernel
theorem dX8_readsItem_54 : decode cX8_readsItem 54 = .ok (.ifCond .eq 9, 3) := by decide +kernel
theorem dX8_readsItem_57 : decode cX8_readsItem 57 = .ok (.aload_n 0, 1) := by decide +kernel
theorem dX8_readsItem_58 : decode cX8_readsItem 58 = .ok (.iload_n 1, 1) := by decide +kernel
theorem dX8_readsItem_59 : decode cX8_readsItem 59 = .ok (.invokevirtual 155, 3) := by decide +kernel
theorem dX8_readsItem_62 : decode cX8_readsItem 62 = .ok (.ireturn, 1) := by decide +kernel
theorem dX8_readsItem_63 : decode cX8_readsItem 63 = .ok (.aload_n 0, 1) := by decide +kernel
theorem dX8_readsItem_64 : decode cX8_readsItem 64 = .ok (.bipush 114, 2) := by decide +kernel
theorem dX8_readsItem_66 : decode cX8_readsItem 66 = .ok (.invokevirtual 149, 3) := by decide +kernel
theorem dX8_readsItem_69 : decode cX8_readsItem 69 = .ok (.ifCond .eq 16, 3) := by decide +kernel
theorem dX8_readsItem_72 : decode cX8_readsItem 72 = .ok (.aload_n 0, 1) := by decide +kernel
theorem dX8_readsItem_73 : decode cX8_readsItem 73 = .ok (.iload_n 1, 1) := by decide +kernel
theorem dX8_readsItem_74 : decode cX8_readsItem 74 = .ok (.iconst 3, 1) := by decide +kernel
theorem dX8_readsItem_75 : decode cX8_readsItem 75 = .ok (.aload_n 0, 1) := by decide +kernel
theorem dX8_readsItem_76 : decode cX8_readsItem 76 = .ok (.invokevirtual 142, 3) := by decide +kernel
theorem dX8_readsItem_79 : decode cX8_readsItem 79 = .ok (.iconst 0, 1) := by decide +kernel
theorem dX8_readsItem_80 : decode cX8_readsItem 80 = .ok (.iconst 0, 1) := by decide +kernel
theorem dX8_readsItem_81 : decode cX8_readsItem 81 = .ok (.invokevirtual 145, 3) := by decide +kernel
theorem dX8_readsItem_84 : decode cX8_readsItem 84 = .ok (.ireturn, 1) := by decide +kernel
theorem dX8_readsItem_85 : decode cX8_readsItem 85 = .ok (.aload_n 0, 1) := by decide +kernel
theorem dX8_readsItem_86 : decode cX8_readsItem 86 = .ok (.bipush 101, 2) := by decide +kernel
theorem dX8_readsItem_88 : decode cX8_readsItem 88 = .ok (.invokevirtual 149, 3) := by decide +kernel
theorem dX8_readsItem_91 : decode cX8_readsItem 91 = .ok (.ifCond .eq 43, 3) := by decide +kernel
theorem dX8_readsItem_94 : decode cX8_readsItem 94 = .ok (.aload_n 0, 1) := by decide +kernel
theorem dX8_readsItem_95 : decode cX8_readsItem 95 = .ok (.invokevirtual 142, 3) := by decide +kernel
theorem dX8_readsItem_98 : decode cX8_readsItem 98 = .ok (.istore_n 2, 1) := by decide +kernel
theorem dX8_readsItem_99 : decode cX8_readsItem 99 = .ok (.aload_n 0, 1) := by decide +kernel
theorem dX8_readsItem_100 : decode cX8_readsItem 100 = .ok (.getfield 23, 3) := by decide +kernel
theorem dX8_readsItem_103 : decode cX8_readsItem 103 = .ok (.iload_n 1, 1) := by decide +kernel
theorem dX8_readsItem_104 : decode cX8_readsItem 104 = .ok (.dup2, 1) := by decide +kernel
theorem dX8_readsItem_105 : decode cX8_readsItem 105 = .ok (.iaload, 1) := by decide +kernel
theorem dX8_readsItem_106 : decode cX8_readsItem 106 = .ok (.iload_n 2, 1) := by decide +kernel
theorem dX8_readsItem_107 : decode cX8_readsItem 107 = .ok (.iadd, 1) := by decide +kernel
theorem dX8_readsItem_108 : decode cX8_readsItem 108 = .ok (.iastore, 1) := by decide +kernel
theorem dX8_readsItem_109 : decode cX8_readsItem 109 = .ok (.iload_n 2, 1) := by decide +kernel
theorem dX8_readsItem_110 : decode cX8_readsItem 110 = .ok (.ifCond .le 22, 3) := by decide +kernel
theorem dX8_readsItem_113 : decode cX8_readsItem 113 = .ok (.aload_n 0, 1) := by decide +kernel
theorem dX8_readsItem_114 : decode cX8_readsItem 114 = .ok (.getfield 23, 3) := by decide +kernel
theorem dX8_readsItem_117 : decode cX8_readsItem 117 = .ok (.iload_n 1, 1) := by decide +kernel
theorem dX8_readsItem_118 : decode cX8_readsItem 118 = .ok (.iaload, 1) := by decide +kernel
theorem dX8_readsItem_119 : decode cX8_readsItem 119 = .ok (.aload_n 0, 1) := by decide +kernel
theorem dX8_readsItem_120 : decode cX8_readsItem 120 = .ok (.getfield 7, 3) := by decide +kernel
theorem dX8_readsItem_123 : decode cX8_readsItem 123 = .ok (.iconst 0, 1) := by decide +kernel
theorem dX8_readsItem_124 : decode cX8_readsItem 124 = .ok (.iaload, 1) := by decide +kernel
theorem dX8_readsItem_125 : decode cX8_readsItem 125 = .ok (.if_icmp .gt 7, 3) := by decide +kernel
theorem dX8_readsItem_128 : decode cX8_readsItem 128 = .ok (.iconst 1, 1) := by decide +kernel
theorem dX8_readsItem_129 : decode cX8_readsItem 129 = .ok (.goto 4, 3) := by decide +kernel
theorem dX8_readsItem_132 : decode cX8_readsItem 132 = .ok (.iconst 0, 1) := by decide +kernel
theorem dX8_readsItem_133 : decode cX8_readsItem 133 = .ok (.ireturn, 1) := by decide +kernel
theorem dX8_readsItem_134 : decode cX8_readsItem 134 = .ok (.iconst 0, 1) := by decide +kernel
theorem dX8_readsItem_135 : decode cX8_readsItem 135 = .ok (.ireturn, 1) := by decide +kernel
theorem dX8_reads_0 : decode cX8_reads 0 = .ok (.aload_n 0, 1) := by decide +kernel
theorem dX8_reads_1 : decode cX8_reads 1 = .ok (.getfield 7, 3) := by decide +kernel
theorem dX8_reads_4 : decode cX8_reads 4 = .ok (.iconst 2, 1) := by decide +kernel
theorem dX8_reads_5 : decode cX8_reads 5 = .ok (.iconst 0, 1) := by decide +kernel
theorem dX8_reads_6 : decode cX8_reads 6 = .ok (.iastore, 1) := by decide +kernel
theorem dX8_reads_7 : decode cX8_reads 7 = .ok (.aload_n 0, 1) := by decide +kernel
theorem dX8_reads_8 : decode cX8_reads 8 = .ok (.iconst 0, 1) := by decide +kernel
theorem dX8_reads_9 : decode cX8_reads 9 = .ok (.putfield 132, 3) := by decide +kernel
theorem dX8_reads_12 : decode cX8_reads 12 = .ok (.iconst 0, 1) := by decide +kernel
theorem dX8_reads_13 : decode cX8_reads 13 = .ok (.istore_n 1, 1) := by decide +kernel
theorem dX8_reads_14 : decode cX8_reads 14 = .ok (.iload_n 1, 1) := by decide +kernel
theorem dX8_reads_15 : decode cX8_reads 15 = .ok (.bipush 7, 2) := by decide +kernel
theorem dX8_reads_17 : decode cX8_reads 17 = .ok (.if_icmp .ge 16, 3) := by decide +kernel
theorem dX8_reads_20 : decode cX8_reads 20 = .ok (.aload_n 0, 1) := by decide +kernel
theorem dX8_reads_21 : decode cX8_reads 21 = .ok (.getfield 23, 3) := by decide +kernel
theorem dX8_reads_24 : decode cX8_reads 24 = .ok (.iload_n 1, 1) := by decide +kernel
theorem dX8_reads_25 : decode cX8_reads 25 = .ok (.iconst 0, 1) := by decide +kernel
theorem dX8_reads_26 : decode cX8_reads 26 = .ok (.iastore, 1) := by decide +kernel
theorem dX8_reads_27 : decode cX8_reads 27 = .ok (.iinc 1 1, 3) := by decide +kernel
theorem dX8_reads_30 : decode cX8_reads 30 = .ok (.goto (-16), 3) := by decide +kernel
theorem dX8_reads_33 : decode cX8_reads 33 = .ok (.aload_n 0, 1) := by decide +kernel
theorem dX8_reads_34 : decode cX8_reads 34 = .ok (.getfield 132, 3) := by decide +kernel
theorem dX8_reads_37 : decode cX8_reads 37 = .ok (.aload_n 0, 1) := by decide +kernel
theorem dX8_reads_38 : decode cX8_reads 38 = .ok (.getfield 88, 3) := by decide +kernel
theorem dX8_reads_41 : decode cX8_reads 41 = .ok (.if_icmp .ge 29, 3) := by decide +kernel
theorem dX8_reads_44 : decode cX8_reads 44 = .ok (.aload_n 0, 1) := by decide +kernel
theorem dX8_reads_45 : decode cX8_reads 45 = .ok (.getfield 132, 3) := by decide +kernel
theorem dX8_reads_48 : decode cX8_reads 48 = .ok (.istore_n 1, 1) := by decide +kernel
theorem dX8_reads_49 : decode cX8_reads 49 = .ok (.aload_n 0, 1) := by decide +kernel
theorem dX8_reads_50 : decode cX8_reads 50 = .ok (.invokevirtual 158, 3) := by decide +kernel
theorem dX8_reads_53 : decode cX8_reads 53 = .ok (.ifCond .eq 12, 3) := by decide +kernel
theorem dX8_reads_56 : decode cX8_reads 56 = .ok (.aload_n 0, 1) := by decide +kernel
theorem dX8_reads_57 : decode cX8_reads 57 = .ok (.bipush 59, 2) := by decide +kernel
theorem dX8_reads_59 : decode cX8_reads 59 = .ok (.invokevirtual 149, 3) := by decide +kernel
theorem dX8_reads_62 : decode cX8_reads 62 = .ok (.ifCond .ne 5, 3) := by decide +kernel
theorem dX8_reads_65 : decode cX8_reads 65 = .ok (.iload_n 1, 1) := by decide +kernel
theorem dX8_reads_66 : decode cX8_reads 66 = .ok (.ireturn, 1) := by decide +kernel
theorem dX8_reads_67 : decode cX8_reads 67 = .ok (.goto (-34), 3) := by decide +kernel
theorem dX8_reads_70 : decode cX8_reads 70 = .ok (.sipush (-1004), 3) := by decide +kernel
theorem dX8_reads_73 : decode cX8_reads 73 = .ok (.ireturn, 1) := by decide +kernel
theorem dX8_keeps_0 : decode cX8_keeps 0 = .ok (.iconst 0, 1) := by decide +kernel
theorem dX8_keeps_1 : decode cX8_keeps 1 = .ok (.istore_n 1, 1) := by decide +kernel
theorem dX8_keeps_2 : decode cX8_keeps 2 = .ok (.iload_n 1, 1) := by decide +kernel
theorem dX8_keeps_3 : decode cX8_keeps 3 = .ok (.sipush 723, 3) := by decide +kernel
theorem dX8_keeps_6 : decode cX8_keeps 6 = .ok (.if_icmp .ge 21, 3) := by decide +kernel
theorem dX8_keeps_9 : decode cX8_keeps 9 = .ok (.aload_n 0, 1) := by decide +kernel
theorem dX8_keeps_10 : decode cX8_keeps 10 = .ok (.getfield 16, 3) := by decide +kernel
theorem dX8_keeps_13 : decode cX8_keeps 13 = .ok (.iload_n 1, 1) := by decide +kernel
theorem dX8_keeps_14 : decode cX8_keeps 14 = .ok (.aload_n 0, 1) := by decide +kernel
theorem dX8_keeps_15 : decode cX8_keeps 15 = .ok (.getfield 7, 3) := by decide +kernel
theorem dX8_keeps_18 : decode cX8_keeps 18 = .ok (.iload_n 1, 1) := by decide +kernel
theorem dX8_keeps_19 : decode cX8_keeps 19 = .ok (.iaload, 1) := by decide +kernel
theorem dX8_keeps_20 : decode cX8_keeps 20 = .ok (.iastore, 1) := by decide +kernel
theorem dX8_keeps_21 : decode cX8_keeps 21 = .ok (.iinc 1 1, 3) := by decide +kernel
theorem dX8_keeps_24 : decode cX8_keeps 24 = .ok (.goto (-22), 3) := by decide +kernel
theorem dX8_keeps_27 : decode cX8_keeps 27 = .ok (.return_, 1) := by decide +kernel
theorem dX8_swaps_0 : decode cX8_swaps 0 = .ok (.iconst 0, 1) := by decide +kernel
theorem dX8_swaps_1 : decode cX8_swaps 1 = .ok (.istore_n 1, 1) := by decide +kernel
theorem dX8_swaps_2 : decode cX8_swaps 2 = .ok (.iload_n 1, 1) := by decide +kernel
theorem dX8_swaps_3 : decode cX8_swaps 3 = .ok (.sipush 723, 3) := by decide +kernel
theorem dX8_swaps_6 : decode cX8_swaps 6 = .ok (.if_icmp .ge 35, 3) := by decide +kernel
theorem dX8_swaps_9 : decode cX8_swaps 9 = .ok (.aload_n 0, 1) := by decide +kernel
theorem dX8_swaps_10 : decode cX8_swaps 10 = .ok (.getfield 7, 3) := by decide +kernel
theorem dX8_swaps_13 : decode cX8_swaps 13 = .ok (.iload_n 1, 1) := by decide +kernel
theorem dX8_swaps_14 : decode cX8_swaps 14 = .ok (.iaload, 1) := by decide +kernel
theorem dX8_swaps_15 : decode cX8_swaps 15 = .ok (.istore_n 2, 1) := by decide +kernel
theorem dX8_swaps_16 : decode cX8_swaps 16 = .ok (.aload_n 0, 1) := by decide +kernel
theorem dX8_swaps_17 : decode cX8_swaps 17 = .ok (.getfield 7, 3) := by decide +kernel
theorem dX8_swaps_20 : decode cX8_swaps 20 = .ok (.iload_n 1, 1) := by decide +kernel
theorem dX8_swaps_21 : decode cX8_swaps 21 = .ok (.aload_n 0, 1) := by decide +kernel
theorem dX8_swaps_22 : decode cX8_swaps 22 = .ok (.getfield 16, 3) := by decide +kernel
theorem dX8_swaps_25 : decode cX8_swaps 25 = .ok (.iload_n 1, 1) := by decide +kernel
theorem dX8_swaps_26 : decode cX8_swaps 26 = .ok (.iaload, 1) := by decide +kernel
theorem dX8_swaps_27 : decode cX8_swaps 27 = .ok (.iastore, 1) := by decide +kernel
theorem dX8_swaps_28 : decode cX8_swaps 28 = .ok (.aload_n 0, 1) := by decide +kernel
theorem dX8_swaps_29 : decode cX8_swaps 29 = .ok (.getfield 16, 3) := by decide +kernel
theorem dX8_swaps_32 : decode cX8_swaps 32 = .ok (.iload_n 1, 1) := by decide +kernel
theorem dX8_swaps_33 : decode cX8_swaps 33 = .ok (.iload_n 2, 1) := by decide +kernel
theorem dX8_swaps_34 : decode cX8_swaps 34 = .ok (.iastore, 1) := by decide +kernel
theorem dX8_swaps_35 : decode cX8_swaps 35 = .ok (.iinc 1 1, 3) := by decide +kernel
theorem dX8_swaps_38 : decode cX8_swaps 38 = .ok (.goto (-36), 3) := by decide +kernel
theorem dX8_swaps_41 : decode cX8_swaps 41 = .ok (.return_, 1) := by decide +kernel
theorem dX8_fault_0 : decode cX8_fault 0 = .ok (.aload_n 0, 1) := by decide +kernel
theorem dX8_fault_1 : decode cX8_fault 1 = .ok (.invokevirtual 162, 3) := by decide +kernel
theorem dX8_fault_4 : decode cX8_fault 4 = .ok (.aload_n 0, 1) := by decide +kernel
theorem dX8_fault_5 : decode cX8_fault 5 = .ok (.invokevirtual 165, 3) := by decide +kernel
theorem dX8_fault_8 : decode cX8_fault 8 = .ok (.istore_n 1, 1) := by decide +kernel
theorem dX8_fault_9 : decode cX8_fault 9 = .ok (.aload_n 0, 1) := by decide +kernel
theorem dX8_fault_10 : decode cX8_fault 10 = .ok (.invokevirtual 168, 3) := by decide +kernel
theorem dX8_fault_13 : decode cX8_fault 13 = .ok (.iload_n 1, 1) := by decide +kernel
theorem dX8_fault_14 : decode cX8_fault 14 = .ok (.ireturn, 1) := by decide +kernel
theorem dX8_lay_0 : decode cX8_lay 0 = .ok (.aload_n 0, 1) := by decide +kernel
theorem dX8_lay_1 : decode cX8_lay 1 = .ok (.invokevirtual 171, 3) := by decide +kernel
theorem dX8_lay_4 : decode cX8_lay 4 = .ok (.sipush (-1004), 3) := by decide +kernel
theorem dX8_lay_7 : decode cX8_lay 7 = .ok (.if_icmp .eq 7, 3) := by decide +kernel
theorem dX8_lay_10 : decode cX8_lay 10 = .ok (.sipush (-1002), 3) := by decide +kernel
theorem dX8_lay_13 : decode cX8_lay 13 = .ok (.ireturn, 1) := by decide +kernel
theorem dX8_lay_14 : decode cX8_lay 14 = .ok (.aload_n 0, 1) := by decide +kernel
theorem dX8_lay_15 : decode cX8_lay 15 = .ok (.invokevirtual 50, 3) := by decide +kernel
theorem dX8_lay_18 : decode cX8_lay 18 = .ok (.aload_n 0, 1) := by decide +kernel
theorem dX8_lay_19 : decode cX8_lay 19 = .ok (.invokevirtual 168, 3) := by decide +kernel
theorem dX8_lay_22 : decode cX8_lay 22 = .ok (.aload_n 0, 1) := by decide +kernel
theorem dX8_lay_23 : decode cX8_lay 23 = .ok (.getfield 7, 3) := by decide +kernel
theorem dX8_lay_26 : decode cX8_lay 26 = .ok (.iconst 2, 1) := by decide +kernel
theorem dX8_lay_27 : decode cX8_lay 27 = .ok (.iaload, 1) := by decide +kernel
theorem dX8_lay_28 : decode cX8_lay 28 = .ok (.ireturn, 1) := by decide +kernel
theorem dJ9_floorMod_7cf53_0 : decode cJ9_floorMod_7cf53 0 = .ok (.iload_n 0, 1) := by decide +kernel
theorem dJ9_floorMod_7cf53_1 : decode cJ9_floorMod_7cf53 1 = .ok (.iload_n 1, 1) := by decide +kernel
theorem dJ9_floorMod_7cf53_2 : decode cJ9_floorMod_7cf53 2 = .ok (.irem, 1) := by decide +kernel
theorem dJ9_floorMod_7cf53_3 : decode cJ9_floorMod_7cf53 3 = .ok (.istore_n 2, 1) := by decide +kernel
theorem dJ9_floorMod_7cf53_4 : decode cJ9_floorMod_7cf53 4 = .ok (.iload_n 0, 1) := by decide +kernel
theorem dJ9_floorMod_7cf53_5 : decode cJ9_floorMod_7cf53 5 = .ok (.iload_n 1, 1) := by decide +kernel
theorem dJ9_floorMod_7cf53_6 : decode cJ9_floorMod_7cf53 6 = .ok (.ixor, 1) := by decide +kernel
theorem dJ9_floorMod_7cf53_7 : decode cJ9_floorMod_7cf53 7 = .ok (.ifCond .ge 11, 3) := by decide +kernel
theorem dJ9_floorMod_7cf53_10 : decode cJ9_floorMod_7cf53 10 = .ok (.iload_n 2, 1) := by decide +kernel
theorem dJ9_floorMod_7cf53_11 : decode cJ9_floorMod_7cf53 11 = .ok (.ifCond .eq 7, 3) := by decide +kernel
theorem dJ9_floorMod_7cf53_14 : decode cJ9_floorMod_7cf53 14 = .ok (.iload_n 2, 1) := by decide +kernel
theorem dJ9_floorMod_7cf53_15 : decode cJ9_floorMod_7cf53 15 = .ok (.iload_n 1, 1) := by decide +kernel
theorem dJ9_floorMod_7cf53_16 : decode cJ9_floorMod_7cf53 16 = .ok (.iadd, 1) := by decide +kernel
theorem dJ9_floorMod_7cf53_17 : decode cJ9_floorMod_7cf53 17 = .ok (.ireturn, 1) := by decide +kernel
theorem dJ9_floorMod_7cf53_18 : decode cJ9_floorMod_7cf53 18 = .ok (.iload_n 2, 1) := by decide +kernel
theorem dJ9_floorMod_7cf53_19 : decode cJ9_floorMod_7cf53 19 = .ok (.ireturn, 1) := by decide +kernel
theorem dJ9_abs_0f7a4_0 : decode cJ9_abs_0f7a4 0 = .ok (.iload_n 0, 1) := by decide +kernel
theorem dJ9_abs_0f7a4_1 : decode cJ9_abs_0f7a4 1 = .ok (.ifCond .ge 8, 3) := by decide +kernel
theorem dJ9_abs_0f7a4_4 : decode cJ9_abs_0f7a4 4 = .ok (.iload_n 0, 1) := by decide +kernel
theorem dJ9_abs_0f7a4_5 : decode cJ9_abs_0f7a4 5 = .ok (.ineg, 1) := by decide +kernel
theorem dJ9_abs_0f7a4_6 : decode cJ9_abs_0f7a4 6 = .ok (.goto 4, 3) := by decide +kernel
theorem dJ9_abs_0f7a4_9 : decode cJ9_abs_0f7a4 9 = .ok (.iload_n 0, 1) := by decide +kernel
theorem dJ9_abs_0f7a4_10 : decode cJ9_abs_0f7a4 10 = .ok (.ireturn, 1) := by decide +kernel
theorem dJ9_max_7cf53_0 : decode cJ9_max_7cf53 0 = .ok (.iload_n 0, 1) := by decide +kernel
theorem dJ9_max_7cf53_1 : decode cJ9_max_7cf53 1 = .ok (.iload_n 1, 1) := by decide +kernel
theorem dJ9_max_7cf53_2 : decode cJ9_max_7cf53 2 = .ok (.if_icmp .lt 7, 3) := by decide +kernel
theorem dJ9_max_7cf53_5 : decode cJ9_max_7cf53 5 = .ok (.iload_n 0, 1) := by decide +kernel
theorem dJ9_max_7cf53_6 : decode cJ9_max_7cf53 6 = .ok (.goto 4, 3) := by decide +kernel
theorem dJ9_max_7cf53_9 : decode cJ9_max_7cf53 9 = .ok (.iload_n 1, 1) := by decide +kernel
theorem dJ9_max_7cf53_10 : decode cJ9_max_7cf53 10 = .ok (.ireturn, 1) := by decide +kernel
theorem dJ9_min_7cf53_0 : decode cJ9_min_7cf53 0 = .ok (.iload_n 0, 1) := by decide +kernel
theorem dJ9_min_7cf53_1 : decode cJ9_min_7cf53 1 = .ok (.iload_n 1, 1) := by decide +kernel
theorem dJ9_min_7cf53_2 : decode cJ9_min_7cf53 2 = .ok (.if_icmp .gt 7, 3) := by decide +kernel
theorem dJ9_min_7cf53_5 : decode cJ9_min_7cf53 5 = .ok (.iload_n 0, 1) := by decide +kernel
theorem dJ9_min_7cf53_6 : decode cJ9_min_7cf53 6 = .ok (.goto 4, 3) := by decide +kernel
theorem dJ9_min_7cf53_9 : decode cJ9_min_7cf53 9 = .ok (.iload_n 1, 1) := by decide +kernel
theorem dJ9_min_7cf53_10 : decode cJ9_min_7cf53 10 = .ok (.ireturn, 1) := by decide +kernel
theorem dJ7_fill_53178_0 : decode cJ7_fill_53178 0 = .ok (.iconst 0, 1) := by decide +kernel
theorem dJ7_fill_53178_1 : decode cJ7_fill_53178 1 = .ok (.istore_n 2, 1) := by decide +kernel
theorem dJ7_fill_53178_2 : decode cJ7_fill_53178 2 = .ok (.aload_n 0, 1) := by decide +kernel
theorem dJ7_fill_53178_3 : decode cJ7_fill_53178 3 = .ok (.arraylength, 1) := by decide +kernel
theorem dJ7_fill_53178_4 : decode cJ7_fill_53178 4 = .ok (.istore_n 3, 1) := by decide +kernel
theorem dJ7_fill_53178_5 : decode cJ7_fill_53178 5 = .ok (.iload_n 2, 1) := by decide +kernel
theorem dJ7_fill_53178_6 : decode cJ7_fill_53178 6 = .ok (.iload_n 3, 1) := by decide +kernel
theorem dJ7_fill_53178_7 : decode cJ7_fill_53178 7 = .ok (.if_icmp .ge 13, 3) := by decide +kernel
theorem dJ7_fill_53178_10 : decode cJ7_fill_53178 10 = .ok (.aload_n 0, 1) := by decide +kernel
theorem dJ7_fill_53178_11 : decode cJ7_fill_53178 11 = .ok (.iload_n 2, 1) := by decide +kernel
theorem dJ7_fill_53178_12 : decode cJ7_fill_53178 12 = .ok (.iload_n 1, 1) := by decide +kernel
theorem dJ7_fill_53178_13 : decode cJ7_fill_53178 13 = .ok (.iastore, 1) := by decide +kernel
theorem dJ7_fill_53178_14 : decode cJ7_fill_53178 14 = .ok (.iinc 2 1, 3) := by decide +kernel
theorem dJ7_fill_53178_17 : decode cJ7_fill_53178 17 = .ok (.goto (-12), 3) := by decide +kernel
theorem dJ7_fill_53178_20 : decode cJ7_fill_53178 20 = .ok (.return_, 1) := by decide +kernel
theorem dL_law_0 : decode cL_law 0 = .ok (.new 7, 3) := by decide +kernel
theorem dL_law_3 : decode cL_law 3 = .ok (.dup, 1) := by decide +kernel
theorem dL_law_4 : decode cL_law 4 = .ok (.invokespecial 9, 3) := by decide +kernel
theorem dL_law_7 : decode cL_law 7 = .ok (.astore_n 1, 1) := by decide +kernel
theorem dL_law_8 : decode cL_law 8 = .ok (.new 10, 3) := by decide +kernel
theorem dL_law_11 : decode cL_law 11 = .ok (.dup, 1) := by decide +kernel
theorem dL_law_12 : decode cL_law 12 = .ok (.invokespecial 12, 3) := by decide +kernel
theorem dL_law_15 : decode cL_law 15 = .ok (.astore_n 2, 1) := by decide +kernel
theorem dL_law_16 : decode cL_law 16 = .ok (.iconst 0, 1) := by decide +kernel
theorem dL_law_17 : decode cL_law 17 = .ok (.istore_n 3, 1) := by decide +kernel
theorem dL_law_18 : decode cL_law 18 = .ok (.iload_n 3, 1) := by decide +kernel
theorem dL_law_19 : decode cL_law 19 = .ok (.aload_n 0, 1) := by decide +kernel
theorem dL_law_20 : decode cL_law 20 = .ok (.arraylength, 1) := by decide +kernel
theorem dL_law_21 : decode cL_law 21 = .ok (.bipush 6, 2) := by decide +kernel
theorem dL_law_23 : decode cL_law 23 = .ok (.isub, 1) := by decide +kernel
theorem dL_law_24 : decode cL_law 24 = .ok (.if_icmp .gt 889, 3) := by decide +kernel
theorem dL_law_27 : decode cL_law 27 = .ok (.aload_n 0, 1) := by decide +kernel
theorem dL_law_28 : decode cL_law 28 = .ok (.iload_n 3, 1) := by decide +kernel
theorem dL_law_29 : decode cL_law 29 = .ok (.iaload, 1) := by decide +kernel
theorem dL_law_30 : decode cL_law 30 = .ok (.bipush 31, 2) := by decide +kernel
theorem dL_law_32 : decode cL_law 32 = .ok (.iand, 1) := by decide +kernel
theorem dL_law_33 : decode cL_law 33 = .ok (.tableswitch 874 0 26 #[123, 146, 209, 242, 285, 328, 351, 414, 437, 450, 463, 486, 519, 552, 575, 598, 621, 644, 667, 680, 713, 746, 759, 772, 825, 848, 861], 123) := by decide +kernel
theorem dL_law_156 : decode cL_law 156 = .ok (.aload_n 1, 1) := by decide +kernel
theorem dL_law_157 : decode cL_law 157 = .ok (.aload_n 0, 1) := by decide +kernel
theorem dL_law_158 : decode cL_law 158 = .ok (.iload_n 3, 1) := by decide +kernel
theorem dL_law_159 : decode cL_law 159 = .ok (.iconst 1, 1) := by decide +kernel
theorem dL_law_160 : decode cL_law 160 = .ok (.iadd, 1) := by decide +kernel
theorem dL_law_161 : decode cL_law 161 = .ok (.iaload, 1) := by decide +kernel
theorem dL_law_162 : decode cL_law 162 = .ok (.invokevirtual 13, 3) := by decide +kernel
theorem dL_law_165 : decode cL_law 165 = .ok (.aload_n 2, 1) := by decide +kernel
theorem dL_law_166 : decode cL_law 166 = .ok (.aload_n 0, 1) := by decide +kernel
theorem dL_law_167 : decode cL_law 167 = .ok (.iload_n 3, 1) := by decide +kernel
theorem dL_law_168 : decode cL_law 168 = .ok (.iconst 1, 1) := by decide +kernel
theorem dL_law_169 : decode cL_law 169 = .ok (.iadd, 1) := by decide +kernel
theorem dL_law_170 : decode cL_law 170 = .ok (.iaload, 1) := by decide +kernel
theorem dL_law_171 : decode cL_law 171 = .ok (.invokevirtual 17, 3) := by decide +kernel
theorem dL_law_174 : decode cL_law 174 = .ok (.if_icmp .eq 733, 3) := by decide +kernel
theorem dL_law_177 : decode cL_law 177 = .ok (.iconst 0, 1) := by decide +kernel
theorem dL_law_178 : decode cL_law 178 = .ok (.ireturn, 1) := by decide +kernel
theorem dL_law_179 : decode cL_law 179 = .ok (.aload_n 1, 1) := by decide +kernel
theorem dL_law_180 : decode cL_law 180 = .ok (.aload_n 0, 1) := by decide +kernel
theorem dL_law_181 : decode cL_law 181 = .ok (.iload_n 3, 1) := by decide +kernel
theorem dL_law_182 : decode cL_law 182 = .ok (.iconst 1, 1) := by decide +kernel
theorem dL_law_183 : decode cL_law 183 = .ok (.iadd, 1) := by decide +kernel
theorem dL_law_184 : decode cL_law 184 = .ok (.iaload, 1) := by decide +kernel
theorem dL_law_185 : decode cL_law 185 = .ok (.aload_n 0, 1) := by decide +kernel
theorem dL_law_186 : decode cL_law 186 = .ok (.iload_n 3, 1) := by decide +kernel
theorem dL_law_187 : decode cL_law 187 = .ok (.iconst 2, 1) := by decide +kernel
theorem dL_law_188 : decode cL_law 188 = .ok (.iadd, 1) := by decide +kernel
theorem dL_law_189 : decode cL_law 189 = .ok (.iaload, 1) := by decide +kernel
theorem dL_law_190 : decode cL_law 190 = .ok (.aload_n 0, 1) := by decide +kernel
theorem dL_law_191 : decode cL_law 191 = .ok (.iload_n 3, 1) := by decide +kernel
theorem dL_law_192 : decode cL_law 192 = .ok (.iconst 3, 1) := by decide +kernel
theorem dL_law_193 : decode cL_law 193 = .ok (.iadd, 1) := by decide +kernel
theorem dL_law_194 : decode cL_law 194 = .ok (.iaload, 1) := by decide +kernel
theorem dL_law_195 : decode cL_law 195 = .ok (.aload_n 0, 1) := by decide +kernel
theorem dL_law_196 : decode cL_law 196 = .ok (.iload_n 3, 1) := by decide +kernel
theorem dL_law_197 : decode cL_law 197 = .ok (.iconst 4, 1) := by decide +kernel
theorem dL_law_198 : decode cL_law 198 = .ok (.iadd, 1) := by decide +kernel
theorem dL_law_199 : decode cL_law 199 = .ok (.iaload, 1) := by decide +kernel
theorem dL_law_200 : decode cL_law 200 = .ok (.aload_n 0, 1) := by decide +kernel
theorem dL_law_201 : decode cL_law 201 = .ok (.iload_n 3, 1) := by decide +kernel
theorem dL_law_202 : decode cL_law 202 = .ok (.iconst 5, 1) := by decide +kernel
theorem dL_law_203 : decode cL_law 203 = .ok (.iadd, 1) := by decide +kernel
theorem dL_law_204 : decode cL_law 204 = .ok (.iaload, 1) := by decide +kernel
theorem dL_law_205 : decode cL_law 205 = .ok (.invokevirtual 18, 3) := by decide +kernel
theorem dL_law_208 : decode cL_law 208 = .ok (.aload_n 2, 1) := by decide +kernel
theorem dL_law_209 : decode cL_law 209 = .ok (.aload_n 0, 1) := by decide +kernel
theorem dL_law_210 : decode cL_law 210 = .ok (.iload_n 3, 1) := by decide +kernel
theorem dL_law_211 : decode cL_law 211 = .ok (.iconst 1, 1) := by decide +kernel
theorem dL_law_212 : decode cL_law 212 = .ok (.iadd, 1) := by decide +kernel
theorem dL_law_213 : decode cL_law 213 = .ok (.iaload, 1) := by decide +kernel
theorem dL_law_214 : decode cL_law 214 = .ok (.aload_n 0, 1) := by decide +kernel
theorem dL_law_215 : decode cL_law 215 = .ok (.iload_n 3, 1) := by decide +kernel
theorem dL_law_216 : decode cL_law 216 = .ok (.iconst 2, 1) := by decide +kernel
theorem dL_law_217 : decode cL_law 217 = .ok (.iadd, 1) := by decide +kernel
theorem dL_law_218 : decode cL_law 218 = .ok (.iaload, 1) := by decide +kernel
theorem dL_law_219 : decode cL_law 219 = .ok (.aload_n 0, 1) := by decide +kernel
theorem dL_law_220 : decode cL_law 220 = .ok (.iload_n 3, 1) := by decide +kernel
theorem dL_law_221 : decode cL_law 221 = .ok (.iconst 3, 1) := by decide +kernel
theorem dL_law_222 : decode cL_law 222 = .ok (.iadd, 1) := by decide +kernel
theorem dL_law_223 : decode cL_law 223 = .ok (.iaload, 1) := by decide +kernel
theorem dL_law_224 : decode cL_law 224 = .ok (.aload_n 0, 1) := by decide +kernel
theorem dL_law_225 : decode cL_law 225 = .ok (.iload_n 3, 1) := by decide +kernel
theorem dL_law_226 : decode cL_law 226 = .ok (.iconst 4, 1) := by decide +kernel
theorem dL_law_227 : decode cL_law 227 = .ok (.iadd, 1) := by decide +kernel
theorem dL_law_228 : decode cL_law 228 = .ok (.iaload, 1) := by decide +kernel
theorem dL_law_229 : decode cL_law 229 = .ok (.aload_n 0, 1) := by decide +kernel
theorem dL_law_230 : decode cL_law 230 = .ok (.iload_n 3, 1) := by decide +kernel
theorem dL_law_231 : decode cL_law 231 = .ok (.iconst 5, 1) := by decide +kernel
theorem dL_law_232 : decode cL_law 232 = .ok (.iadd, 1) := by decide +kernel
theorem dL_law_233 : decode cL_law 233 = .ok (.iaload, 1) := by decide +kernel
theorem dL_law_234 : decode cL_law 234 = .ok (.invokevirtual 22, 3) := by decide +kernel
theorem dL_law_237 : decode cL_law 237 = .ok (.if_icmp .eq 670, 3) := by decide +kernel
theorem dL_law_240 : decode cL_law 240 = .ok (.iconst 0, 1) := by decide +kernel
theorem dL_law_241 : decode cL_law 241 = .ok (.ireturn, 1) := by decide +kernel
theorem dL_law_242 : decode cL_law 242 = .ok (.aload_n 1, 1) := by decide +kernel
theorem dL_law_243 : decode cL_law 243 = .ok (.aload_n 0, 1) := by decide +kernel
theorem dL_law_244 : decode cL_law 244 = .ok (.iload_n 3, 1) := by decide +kernel
theorem dL_law_245 : decode cL_law 245 = .ok (.iconst 1, 1) := by decide +kernel
theorem dL_law_246 : decode cL_law 246 = .ok (.iadd, 1) := by decide +kernel
theorem dL_law_247 : decode cL_law 247 = .ok (.iaload, 1) := by decide +kernel
theorem dL_law_248 : decode cL_law 248 = .ok (.aload_n 0, 1) := by decide +kernel
theorem dL_law_249 : decode cL_law 249 = .ok (.iload_n 3, 1) := by decide +kernel
theorem dL_law_250 : decode cL_law 250 = .ok (.iconst 2, 1) := by decide +kernel
theorem dL_law_251 : decode cL_law 251 = .ok (.iadd, 1) := by decide +kernel
theorem dL_law_252 : decode cL_law 252 = .ok (.iaload, 1) := by decide +kernel
theorem dL_law_253 : decode cL_law 253 = .ok (.invokevirtual 23, 3) := by decide +kernel
theorem dL_law_256 : decode cL_law 256 = .ok (.aload_n 2, 1) := by decide +kernel
theorem dL_law_257 : decode cL_law 257 = .ok (.aload_n 0, 1) := by decide +kernel
theorem dL_law_258 : decode cL_law 258 = .ok (.iload_n 3, 1) := by decide +kernel
theorem dL_law_259 : decode cL_law 259 = .ok (.iconst 1, 1) := by decide +kernel
theorem dL_law_260 : decode cL_law 260 = .ok (.iadd, 1) := by decide +kernel
theorem dL_law_261 : decode cL_law 261 = .ok (.iaload, 1) := by decide +kernel
theorem dL_law_262 : decode cL_law 262 = .ok (.aload_n 0, 1) := by decide +kernel
theorem dL_law_263 : decode cL_law 263 = .ok (.iload_n 3, 1) := by decide +kernel
theorem dL_law_264 : decode cL_law 264 = .ok (.iconst 2, 1) := by decide +kernel
theorem dL_law_265 : decode cL_law 265 = .ok (.iadd, 1) := by decide +kernel
theorem dL_law_266 : decode cL_law 266 = .ok (.iaload, 1) := by decide +kernel
theorem dL_law_267 : decode cL_law 267 = .ok (.invokevirtual 27, 3) := by decide +kernel
theorem dL_law_270 : decode cL_law 270 = .ok (.if_icmp .eq 637, 3) := by decide +kernel
theorem dL_law_273 : decode cL_law 273 = .ok (.iconst 0, 1) := by decide +kernel
theorem dL_law_274 : decode cL_law 274 = .ok (.ireturn, 1) := by decide +kernel
theorem dL_law_275 : decode cL_law 275 = .ok (.aload_n 1, 1) := by decide +kernel
theorem dL_law_276 : decode cL_law 276 = .ok (.aload_n 0, 1) := by decide +kernel
theorem dL_law_277 : decode cL_law 277 = .ok (.iload_n 3, 1) := by decide +kernel
theorem dL_law_278 : decode cL_law 278 = .ok (.iconst 1, 1) := by decide +kernel
theorem dL_law_279 : decode cL_law 279 = .ok (.iadd, 1) := by decide +kernel
theorem dL_law_280 : decode cL_law 280 = .ok (.iaload, 1) := by decide +kernel
theorem dL_law_281 : decode cL_law 281 = .ok (.aload_n 0, 1) := by decide +kernel
theorem dL_law_282 : decode cL_law 282 = .ok (.iload_n 3, 1) := by decide +kernel
theorem dL_law_283 : decode cL_law 283 = .ok (.iconst 2, 1) := by decide +kernel
theorem dL_law_284 : decode cL_law 284 = .ok (.iadd, 1) := by decide +kernel
theorem dL_law_285 : decode cL_law 285 = .ok (.iaload, 1) := by decide +kernel
theorem dL_law_286 : decode cL_law 286 = .ok (.aload_n 0, 1) := by decide +kernel
theorem dL_law_287 : decode cL_law 287 = .ok (.iload_n 3, 1) := by decide +kernel
theorem dL_law_288 : decode cL_law 288 = .ok (.iconst 3, 1) := by decide +kernel
theorem dL_law_289 : decode cL_law 289 = .ok (.iadd, 1) := by decide +kernel
theorem dL_law_290 : decode cL_law 290 = .ok (.iaload, 1) := by decide +kernel
theorem dL_law_291 : decode cL_law 291 = .ok (.invokevirtual 28, 3) := by decide +kernel
theorem dL_law_294 : decode cL_law 294 = .ok (.aload_n 2, 1) := by decide +kernel
theorem dL_law_295 : decode cL_law 295 = .ok (.aload_n 0, 1) := by decide +kernel
theorem dL_law_296 : decode cL_law 296 = .ok (.iload_n 3, 1) := by decide +kernel
theorem dL_law_297 : decode cL_law 297 = .ok (.iconst 1, 1) := by decide +kernel
theorem dL_law_298 : decode cL_law 298 = .ok (.iadd, 1) := by decide +kernel
theorem dL_law_299 : decode cL_law 299 = .ok (.iaload, 1) := by decide +kernel
theorem dL_law_300 : decode cL_law 300 = .ok (.aload_n 0, 1) := by decide +kernel
theorem dL_law_301 : decode cL_law 301 = .ok (.iload_n 3, 1) := by decide +kernel
theorem dL_law_302 : decode cL_law 302 = .ok (.iconst 2, 1) := by decide +kernel
theorem dL_law_303 : decode cL_law 303 = .ok (.iadd, 1) := by decide +kernel
theorem dL_law_304 : decode cL_law 304 = .ok (.iaload, 1) := by decide +kernel
theorem dL_law_305 : decode cL_law 305 = .ok (.aload_n 0, 1) := by decide +kernel
theorem dL_law_306 : decode cL_law 306 = .ok (.iload_n 3, 1) := by decide +kernel
theorem dL_law_307 : decode cL_law 307 = .ok (.iconst 3, 1) := by decide +kernel
theorem dL_law_308 : decode cL_law 308 = .ok (.iadd, 1) := by decide +kernel
theorem dL_law_309 : decode cL_law 309 = .ok (.iaload, 1) := by decide +kernel
theorem dL_law_310 : decode cL_law 310 = .ok (.invokevirtual 32, 3) := by decide +kernel
theorem dL_law_313 : decode cL_law 313 = .ok (.if_icmp .eq 594, 3) := by decide +kernel
theorem dL_law_316 : decode cL_law 316 = .ok (.iconst 0, 1) := by decide +kernel
theorem dL_law_317 : decode cL_law 317 = .ok (.ireturn, 1) := by decide +kernel
theorem dL_law_318 : decode cL_law 318 = .ok (.aload_n 1, 1) := by decide +kernel
theorem dL_law_319 : decode cL_law 319 = .ok (.aload_n 0, 1) := by decide +kernel
theorem dL_law_320 : decode cL_law 320 = .ok (.iload_n 3, 1) := by decide +kernel
theorem dL_law_321 : decode cL_law 321 = .ok (.iconst 1, 1) := by decide +kernel
theorem dL_law_322 : decode cL_law 322 = .ok (.iadd, 1) := by decide +kernel
theorem dL_law_323 : decode cL_law 323 = .ok (.iaload, 1) := by decide +kernel
theorem dL_law_324 : decode cL_law 324 = .ok (.aload_n 0, 1) := by decide +kernel
theorem dL_law_325 : decode cL_law 325 = .ok (.iload_n 3, 1) := by decide +kernel
theorem dL_law_326 : decode cL_law 326 = .ok (.iconst 2, 1) := by decide +kernel
theorem dL_law_327 : decode cL_law 327 = .ok (.iadd, 1) := by decide +kernel
theorem dL_law_328 : decode cL_law 328 = .ok (.iaload, 1) := by decide +kernel
theorem dL_law_329 : decode cL_law 329 = .ok (.aload_n 0, 1) := by decide +kernel
theorem dL_law_330 : decode cL_law 330 = .ok (.iload_n 3, 1) := by decide +kernel
theorem dL_law_331 : decode cL_law 331 = .ok (.iconst 3, 1) := by decide +kernel
theorem dL_law_332 : decode cL_law 332 = .ok (.iadd, 1) := by decide +kernel
theorem dL_law_333 : decode cL_law 333 = .ok (.iaload, 1) := by decide +kernel
theorem dL_law_334 : decode cL_law 334 = .ok (.invokevirtual 33, 3) := by decide +kernel
theorem dL_law_337 : decode cL_law 337 = .ok (.aload_n 2, 1) := by decide +kernel
theorem dL_law_338 : decode cL_law 338 = .ok (.aload_n 0, 1) := by decide +kernel
theorem dL_law_339 : decode cL_law 339 = .ok (.iload_n 3, 1) := by decide +kernel
theorem dL_law_340 : decode cL_law 340 = .ok (.iconst 1, 1) := by decide +kernel
theorem dL_law_341 : decode cL_law 341 = .ok (.iadd, 1) := by decide +kernel
theorem dL_law_342 : decode cL_law 342 = .ok (.iaload, 1) := by decide +kernel
theorem dL_law_343 : decode cL_law 343 = .ok (.aload_n 0, 1) := by decide +kernel
theorem dL_law_344 : decode cL_law 344 = .ok (.iload_n 3, 1) := by decide +kernel
theorem dL_law_345 : decode cL_law 345 = .ok (.iconst 2, 1) := by decide +kernel
theorem dL_law_346 : decode cL_law 346 = .ok (.iadd, 1) := by decide +kernel
theorem dL_law_347 : decode cL_law 347 = .ok (.iaload, 1) := by decide +kernel
theorem dL_law_348 : decode cL_law 348 = .ok (.aload_n 0, 1) := by decide +kernel
theorem dL_law_349 : decode cL_law 349 = .ok (.iload_n 3, 1) := by decide +kernel
theorem dL_law_350 : decode cL_law 350 = .ok (.iconst 3, 1) := by decide +kernel
theorem dL_law_351 : decode cL_law 351 = .ok (.iadd, 1) := by decide +kernel
theorem dL_law_352 : decode cL_law 352 = .ok (.iaload, 1) := by decide +kernel
theorem dL_law_353 : decode cL_law 353 = .ok (.invokevirtual 36, 3) := by decide +kernel
theorem dL_law_356 : decode cL_law 356 = .ok (.if_icmp .eq 551, 3) := by decide +kernel
theorem dL_law_359 : decode cL_law 359 = .ok (.iconst 0, 1) := by decide +kernel
theorem dL_law_360 : decode cL_law 360 = .ok (.ireturn, 1) := by decide +kernel
theorem dL_law_361 : decode cL_law 361 = .ok (.aload_n 1, 1) := by decide +kernel
theorem dL_law_362 : decode cL_law 362 = .ok (.aload_n 0, 1) := by decide +kernel
theorem dL_law_363 : decode cL_law 363 = .ok (.iload_n 3, 1) := by decide +kernel
theorem dL_law_364 : decode cL_law 364 = .ok (.iconst 1, 1) := by decide +kernel
theorem dL_law_365 : decode cL_law 365 = .ok (.iadd, 1) := by decide +kernel
theorem dL_law_366 : decode cL_law 366 = .ok (.iaload, 1) := by decide +kernel
theorem dL_law_367 : decode cL_law 367 = .ok (.invokevirtual 37, 3) := by decide +kernel
theorem dL_law_370 : decode cL_law 370 = .ok (.aload_n 2, 1) := by decide +kernel
theorem dL_law_371 : decode cL_law 371 = .ok (.aload_n 0, 1) := by decide +kernel
theorem dL_law_372 : decode cL_law 372 = .ok (.iload_n 3, 1) := by decide +kernel
theorem dL_law_373 : decode cL_law 373 = .ok (.iconst 1, 1) := by decide +kernel
theorem dL_law_374 : decode cL_law 374 = .ok (.iadd, 1) := by decide +kernel
theorem dL_law_375 : decode cL_law 375 = .ok (.iaload, 1) := by decide +kernel
theorem dL_law_376 : decode cL_law 376 = .ok (.invokevirtual 40, 3) := by decide +kernel
theorem dL_law_379 : decode cL_law 379 = .ok (.if_icmp .eq 528, 3) := by decide +kernel
theorem dL_law_382 : decode cL_law 382 = .ok (.iconst 0, 1) := by decide +kernel
theorem dL_law_383 : decode cL_law 383 = .ok (.ireturn, 1) := by decide +kernel
theorem dL_law_384 : decode cL_law 384 = .ok (.aload_n 1, 1) := by decide +kernel
theorem dL_law_385 : decode cL_law 385 = .ok (.aload_n 0, 1) := by decide +kernel
theorem dL_law_386 : decode cL_law 386 = .ok (.iload_n 3, 1) := by decide +kernel
theorem dL_law_387 : decode cL_law 387 = .ok (.iconst 1, 1) := by decide +kernel
theorem dL_law_388 : decode cL_law 388 = .ok (.iadd, 1) := by decide +kernel
theorem dL_law_389 : decode cL_law 389 = .ok (.iaload, 1) := by decide +kernel
theorem dL_law_390 : decode cL_law 390 = .ok (.aload_n 0, 1) := by decide +kernel
theorem dL_law_391 : decode cL_law 391 = .ok (.iload_n 3, 1) := by decide +kernel
theorem dL_law_392 : decode cL_law 392 = .ok (.iconst 2, 1) := by decide +kernel
theorem dL_law_393 : decode cL_law 393 = .ok (.iadd, 1) := by decide +kernel
theorem dL_law_394 : decode cL_law 394 = .ok (.iaload, 1) := by decide +kernel
theorem dL_law_395 : decode cL_law 395 = .ok (.aload_n 0, 1) := by decide +kernel
theorem dL_law_396 : decode cL_law 396 = .ok (.iload_n 3, 1) := by decide +kernel
theorem dL_law_397 : decode cL_law 397 = .ok (.iconst 3, 1) := by decide +kernel
theorem dL_law_398 : decode cL_law 398 = .ok (.iadd, 1) := by decide +kernel
theorem dL_law_399 : decode cL_law 399 = .ok (.iaload, 1) := by decide +kernel
theorem dL_law_400 : decode cL_law 400 = .ok (.aload_n 0, 1) := by decide +kernel
theorem dL_law_401 : decode cL_law 401 = .ok (.iload_n 3, 1) := by decide +kernel
theorem dL_law_402 : decode cL_law 402 = .ok (.iconst 4, 1) := by decide +kernel
theorem dL_law_403 : decode cL_law 403 = .ok (.iadd, 1) := by decide +kernel
theorem dL_law_404 : decode cL_law 404 = .ok (.iaload, 1) := by decide +kernel
theorem dL_law_405 : decode cL_law 405 = .ok (.aload_n 0, 1) := by decide +kernel
theorem dL_law_406 : decode cL_law 406 = .ok (.iload_n 3, 1) := by decide +kernel
theorem dL_law_407 : decode cL_law 407 = .ok (.iconst 5, 1) := by decide +kernel
theorem dL_law_408 : decode cL_law 408 = .ok (.iadd, 1) := by decide +kernel
theorem dL_law_409 : decode cL_law 409 = .ok (.iaload, 1) := by decide +kernel
theorem dL_law_410 : decode cL_law 410 = .ok (.invokevirtual 41, 3) := by decide +kernel
theorem dL_law_413 : decode cL_law 413 = .ok (.aload_n 2, 1) := by decide +kernel
theorem dL_law_414 : decode cL_law 414 = .ok (.aload_n 0, 1) := by decide +kernel
theorem dL_law_415 : decode cL_law 415 = .ok (.iload_n 3, 1) := by decide +kernel
theorem dL_law_416 : decode cL_law 416 = .ok (.iconst 1, 1) := by decide +kernel
theorem dL_law_417 : decode cL_law 417 = .ok (.iadd, 1) := by decide +kernel
theorem dL_law_418 : decode cL_law 418 = .ok (.iaload, 1) := by decide +kernel
theorem dL_law_419 : decode cL_law 419 = .ok (.aload_n 0, 1) := by decide +kernel
theorem dL_law_420 : decode cL_law 420 = .ok (.iload_n 3, 1) := by decide +kernel
theorem dL_law_421 : decode cL_law 421 = .ok (.iconst 2, 1) := by decide +kernel
theorem dL_law_422 : decode cL_law 422 = .ok (.iadd, 1) := by decide +kernel
theorem dL_law_423 : decode cL_law 423 = .ok (.iaload, 1) := by decide +kernel
theorem dL_law_424 : decode cL_law 424 = .ok (.aload_n 0, 1) := by decide +kernel
theorem dL_law_425 : decode cL_law 425 = .ok (.iload_n 3, 1) := by decide +kernel
theorem dL_law_426 : decode cL_law 426 = .ok (.iconst 3, 1) := by decide +kernel
theorem dL_law_427 : decode cL_law 427 = .ok (.iadd, 1) := by decide +kernel
theorem dL_law_428 : decode cL_law 428 = .ok (.iaload, 1) := by decide +kernel
theorem dL_law_429 : decode cL_law 429 = .ok (.aload_n 0, 1) := by decide +kernel
theorem dL_law_430 : decode cL_law 430 = .ok (.iload_n 3, 1) := by decide +kernel
theorem dL_law_431 : decode cL_law 431 = .ok (.iconst 4, 1) := by decide +kernel
theorem dL_law_432 : decode cL_law 432 = .ok (.iadd, 1) := by decide +kernel
theorem dL_law_433 : decode cL_law 433 = .ok (.iaload, 1) := by decide +kernel
theorem dL_law_434 : decode cL_law 434 = .ok (.aload_n 0, 1) := by decide +kernel
theorem dL_law_435 : decode cL_law 435 = .ok (.iload_n 3, 1) := by decide +kernel
theorem dL_law_436 : decode cL_law 436 = .ok (.iconst 5, 1) := by decide +kernel
theorem dL_law_437 : decode cL_law 437 = .ok (.iadd, 1) := by decide +kernel
theorem dL_law_438 : decode cL_law 438 = .ok (.iaload, 1) := by decide +kernel
theorem dL_law_439 : decode cL_law 439 = .ok (.invokevirtual 44, 3) := by decide +kernel
theorem dL_law_442 : decode cL_law 442 = .ok (.if_icmp .eq 465, 3) := by decide +kernel
theorem dL_law_445 : decode cL_law 445 = .ok (.iconst 0, 1) := by decide +kernel
theorem dL_law_446 : decode cL_law 446 = .ok (.ireturn, 1) := by decide +kernel
theorem dL_law_447 : decode cL_law 447 = .ok (.aload_n 1, 1) := by decide +kernel
theorem dL_law_448 : decode cL_law 448 = .ok (.aload_n 0, 1) := by decide +kernel
theorem dL_law_449 : decode cL_law 449 = .ok (.iload_n 3, 1) := by decide +kernel
theorem dL_law_450 : decode cL_law 450 = .ok (.iconst 1, 1) := by decide +kernel
theorem dL_law_451 : decode cL_law 451 = .ok (.iadd, 1) := by decide +kernel
theorem dL_law_452 : decode cL_law 452 = .ok (.iaload, 1) := by decide +kernel
theorem dL_law_453 : decode cL_law 453 = .ok (.invokevirtual 45, 3) := by decide +kernel
theorem dL_law_456 : decode cL_law 456 = .ok (.aload_n 2, 1) := by decide +kernel
theorem dL_law_457 : decode cL_law 457 = .ok (.aload_n 0, 1) := by decide +kernel
theorem dL_law_458 : decode cL_law 458 = .ok (.iload_n 3, 1) := by decide +kernel
theorem dL_law_459 : decode cL_law 459 = .ok (.iconst 1, 1) := by decide +kernel
theorem dL_law_460 : decode cL_law 460 = .ok (.iadd, 1) := by decide +kernel
theorem dL_law_461 : decode cL_law 461 = .ok (.iaload, 1) := by decide +kernel
theorem dL_law_462 : decode cL_law 462 = .ok (.invokevirtual 48, 3) := by decide +kernel
theorem dL_law_465 : decode cL_law 465 = .ok (.if_icmp .eq 442, 3) := by decide +kernel
theorem dL_law_468 : decode cL_law 468 = .ok (.iconst 0, 1) := by decide +kernel
theorem dL_law_469 : decode cL_law 469 = .ok (.ireturn, 1) := by decide +kernel
theorem dL_law_470 : decode cL_law 470 = .ok (.aload_n 1, 1) := by decide +kernel
theorem dL_law_471 : decode cL_law 471 = .ok (.invokevirtual 49, 3) := by decide +kernel
theorem dL_law_474 : decode cL_law 474 = .ok (.aload_n 2, 1) := by decide +kernel
theorem dL_law_475 : decode cL_law 475 = .ok (.invokevirtual 53, 3) := by decide +kernel
theorem dL_law_478 : decode cL_law 478 = .ok (.if_icmp .eq 429, 3) := by decide +kernel
theorem dL_law_481 : decode cL_law 481 = .ok (.iconst 0, 1) := by decide +kernel
theorem dL_law_482 : decode cL_law 482 = .ok (.ireturn, 1) := by decide +kernel
theorem dL_law_483 : decode cL_law 483 = .ok (.aload_n 1, 1) := by decide +kernel
theorem dL_law_484 : decode cL_law 484 = .ok (.invokevirtual 54, 3) := by decide +kernel
theorem dL_law_487 : decode cL_law 487 = .ok (.aload_n 2, 1) := by decide +kernel
theorem dL_law_488 : decode cL_law 488 = .ok (.invokevirtual 57, 3) := by decide +kernel
theorem dL_law_491 : decode cL_law 491 = .ok (.if_icmp .eq 416, 3) := by decide +kernel
theorem dL_law_494 : decode cL_law 494 = .ok (.iconst 0, 1) := by decide +kernel
theorem dL_law_495 : decode cL_law 495 = .ok (.ireturn, 1) := by decide +kernel
theorem dL_law_496 : decode cL_law 496 = .ok (.aload_n 1, 1) := by decide +kernel
theorem dL_law_497 : decode cL_law 497 = .ok (.aload_n 0, 1) := by decide +kernel
theorem dL_law_498 : decode cL_law 498 = .ok (.iload_n 3, 1) := by decide +kernel
theorem dL_law_499 : decode cL_law 499 = .ok (.iconst 1, 1) := by decide +kernel
theorem dL_law_500 : decode cL_law 500 = .ok (.iadd, 1) := by decide +kernel
theorem dL_law_501 : decode cL_law 501 = .ok (.iaload, 1) := by decide +kernel
theorem dL_law_502 : decode cL_law 502 = .ok (.invokevirtual 58, 3) := by decide +kernel
theorem dL_law_505 : decode cL_law 505 = .ok (.aload_n 2, 1) := by decide +kernel
theorem dL_law_506 : decode cL_law 506 = .ok (.aload_n 0, 1) := by decide +kernel
theorem dL_law_507 : decode cL_law 507 = .ok (.iload_n 3, 1) := by decide +kernel
theorem dL_law_508 : decode cL_law 508 = .ok (.iconst 1, 1) := by decide +kernel
theorem dL_law_509 : decode cL_law 509 = .ok (.iadd, 1) := by decide +kernel
theorem dL_law_510 : decode cL_law 510 = .ok (.iaload, 1) := by decide +kernel
theorem dL_law_511 : decode cL_law 511 = .ok (.invokevirtual 61, 3) := by decide +kernel
theorem dL_law_514 : decode cL_law 514 = .ok (.if_icmp .eq 393, 3) := by decide +kernel
theorem dL_law_517 : decode cL_law 517 = .ok (.iconst 0, 1) := by decide +kernel
theorem dL_law_518 : decode cL_law 518 = .ok (.ireturn, 1) := by decide +kernel
theorem dL_law_519 : decode cL_law 519 = .ok (.aload_n 1, 1) := by decide +kernel
theorem dL_law_520 : decode cL_law 520 = .ok (.aload_n 0, 1) := by decide +kernel
theorem dL_law_521 : decode cL_law 521 = .ok (.iload_n 3, 1) := by decide +kernel
theorem dL_law_522 : decode cL_law 522 = .ok (.iconst 1, 1) := by decide +kernel
theorem dL_law_523 : decode cL_law 523 = .ok (.iadd, 1) := by decide +kernel
theorem dL_law_524 : decode cL_law 524 = .ok (.iaload, 1) := by decide +kernel
theorem dL_law_525 : decode cL_law 525 = .ok (.aload_n 0, 1) := by decide +kernel
theorem dL_law_526 : decode cL_law 526 = .ok (.iload_n 3, 1) := by decide +kernel
theorem dL_law_527 : decode cL_law 527 = .ok (.iconst 2, 1) := by decide +kernel
theorem dL_law_528 : decode cL_law 528 = .ok (.iadd, 1) := by decide +kernel
theorem dL_law_529 : decode cL_law 529 = .ok (.iaload, 1) := by decide +kernel
theorem dL_law_530 : decode cL_law 530 = .ok (.invokevirtual 62, 3) := by decide +kernel
theorem dL_law_533 : decode cL_law 533 = .ok (.aload_n 2, 1) := by decide +kernel
theorem dL_law_534 : decode cL_law 534 = .ok (.aload_n 0, 1) := by decide +kernel
theorem dL_law_535 : decode cL_law 535 = .ok (.iload_n 3, 1) := by decide +kernel
theorem dL_law_536 : decode cL_law 536 = .ok (.iconst 1, 1) := by decide +kernel
theorem dL_law_537 : decode cL_law 537 = .ok (.iadd, 1) := by decide +kernel
theorem dL_law_538 : decode cL_law 538 = .ok (.iaload, 1) := by decide +kernel
theorem dL_law_539 : decode cL_law 539 = .ok (.aload_n 0, 1) := by decide +kernel
theorem dL_law_540 : decode cL_law 540 = .ok (.iload_n 3, 1) := by decide +kernel
theorem dL_law_541 : decode cL_law 541 = .ok (.iconst 2, 1) := by decide +kernel
theorem dL_law_542 : decode cL_law 542 = .ok (.iadd, 1) := by decide +kernel
theorem dL_law_543 : decode cL_law 543 = .ok (.iaload, 1) := by decide +kernel
theorem dL_law_544 : decode cL_law 544 = .ok (.invokevirtual 65, 3) := by decide +kernel
theorem dL_law_547 : decode cL_law 547 = .ok (.if_icmp .eq 360, 3) := by decide +kernel
theorem dL_law_550 : decode cL_law 550 = .ok (.iconst 0, 1) := by decide +kernel
theorem dL_law_551 : decode cL_law 551 = .ok (.ireturn, 1) := by decide +kernel
theorem dL_law_552 : decode cL_law 552 = .ok (.aload_n 1, 1) := by decide +kernel
theorem dL_law_553 : decode cL_law 553 = .ok (.aload_n 0, 1) := by decide +kernel
theorem dL_law_554 : decode cL_law 554 = .ok (.iload_n 3, 1) := by decide +kernel
theorem dL_law_555 : decode cL_law 555 = .ok (.iconst 1, 1) := by decide +kernel
theorem dL_law_556 : decode cL_law 556 = .ok (.iadd, 1) := by decide +kernel
theorem dL_law_557 : decode cL_law 557 = .ok (.iaload, 1) := by decide +kernel
theorem dL_law_558 : decode cL_law 558 = .ok (.aload_n 0, 1) := by decide +kernel
theorem dL_law_559 : decode cL_law 559 = .ok (.iload_n 3, 1) := by decide +kernel
theorem dL_law_560 : decode cL_law 560 = .ok (.iconst 2, 1) := by decide +kernel
theorem dL_law_561 : decode cL_law 561 = .ok (.iadd, 1) := by decide +kernel
theorem dL_law_562 : decode cL_law 562 = .ok (.iaload, 1) := by decide +kernel
theorem dL_law_563 : decode cL_law 563 = .ok (.invokevirtual 66, 3) := by decide +kernel
theorem dL_law_566 : decode cL_law 566 = .ok (.aload_n 2, 1) := by decide +kernel
theorem dL_law_567 : decode cL_law 567 = .ok (.aload_n 0, 1) := by decide +kernel
theorem dL_law_568 : decode cL_law 568 = .ok (.iload_n 3, 1) := by decide +kernel
theorem dL_law_569 : decode cL_law 569 = .ok (.iconst 1, 1) := by decide +kernel
theorem dL_law_570 : decode cL_law 570 = .ok (.iadd, 1) := by decide +kernel
theorem dL_law_571 : decode cL_law 571 = .ok (.iaload, 1) := by decide +kernel
theorem dL_law_572 : decode cL_law 572 = .ok (.aload_n 0, 1) := by decide +kernel
theorem dL_law_573 : decode cL_law 573 = .ok (.iload_n 3, 1) := by decide +kernel
theorem dL_law_574 : decode cL_law 574 = .ok (.iconst 2, 1) := by decide +kernel
theorem dL_law_575 : decode cL_law 575 = .ok (.iadd, 1) := by decide +kernel
theorem dL_law_576 : decode cL_law 576 = .ok (.iaload, 1) := by decide +kernel
theorem dL_law_577 : decode cL_law 577 = .ok (.invokevirtual 69, 3) := by decide +kernel
theorem dL_law_580 : decode cL_law 580 = .ok (.if_icmp .eq 327, 3) := by decide +kernel
theorem dL_law_583 : decode cL_law 583 = .ok (.iconst 0, 1) := by decide +kernel
theorem dL_law_584 : decode cL_law 584 = .ok (.ireturn, 1) := by decide +kernel
theorem dL_law_585 : decode cL_law 585 = .ok (.aload_n 1, 1) := by decide +kernel
theorem dL_law_586 : decode cL_law 586 = .ok (.aload_n 0, 1) := by decide +kernel
theorem dL_law_587 : decode cL_law 587 = .ok (.iload_n 3, 1) := by decide +kernel
theorem dL_law_588 : decode cL_law 588 = .ok (.iconst 1, 1) := by decide +kernel
theorem dL_law_589 : decode cL_law 589 = .ok (.iadd, 1) := by decide +kernel
theorem dL_law_590 : decode cL_law 590 = .ok (.iaload, 1) := by decide +kernel
theorem dL_law_591 : decode cL_law 591 = .ok (.invokevirtual 70, 3) := by decide +kernel
theorem dL_law_594 : decode cL_law 594 = .ok (.aload_n 2, 1) := by decide +kernel
theorem dL_law_595 : decode cL_law 595 = .ok (.aload_n 0, 1) := by decide +kernel
theorem dL_law_596 : decode cL_law 596 = .ok (.iload_n 3, 1) := by decide +kernel
theorem dL_law_597 : decode cL_law 597 = .ok (.iconst 1, 1) := by decide +kernel
theorem dL_law_598 : decode cL_law 598 = .ok (.iadd, 1) := by decide +kernel
theorem dL_law_599 : decode cL_law 599 = .ok (.iaload, 1) := by decide +kernel
theorem dL_law_600 : decode cL_law 600 = .ok (.invokevirtual 73, 3) := by decide +kernel
theorem dL_law_603 : decode cL_law 603 = .ok (.if_icmp .eq 304, 3) := by decide +kernel
theorem dL_law_606 : decode cL_law 606 = .ok (.iconst 0, 1) := by decide +kernel
theorem dL_law_607 : decode cL_law 607 = .ok (.ireturn, 1) := by decide +kernel
theorem dL_law_608 : decode cL_law 608 = .ok (.aload_n 1, 1) := by decide +kernel
theorem dL_law_609 : decode cL_law 609 = .ok (.aload_n 0, 1) := by decide +kernel
theorem dL_law_610 : decode cL_law 610 = .ok (.iload_n 3, 1) := by decide +kernel
theorem dL_law_611 : decode cL_law 611 = .ok (.iconst 1, 1) := by decide +kernel
theorem dL_law_612 : decode cL_law 612 = .ok (.iadd, 1) := by decide +kernel
theorem dL_law_613 : decode cL_law 613 = .ok (.iaload, 1) := by decide +kernel
theorem dL_law_614 : decode cL_law 614 = .ok (.invokevirtual 74, 3) := by decide +kernel
theorem dL_law_617 : decode cL_law 617 = .ok (.aload_n 2, 1) := by decide +kernel
theorem dL_law_618 : decode cL_law 618 = .ok (.aload_n 0, 1) := by decide +kernel
theorem dL_law_619 : decode cL_law 619 = .ok (.iload_n 3, 1) := by decide +kernel
theorem dL_law_620 : decode cL_law 620 = .ok (.iconst 1, 1) := by decide +kernel
theorem dL_law_621 : decode cL_law 621 = .ok (.iadd, 1) := by decide +kernel
theorem dL_law_622 : decode cL_law 622 = .ok (.iaload, 1) := by decide +kernel
theorem dL_law_623 : decode cL_law 623 = .ok (.invokevirtual 77, 3) := by decide +kernel
theorem dL_law_626 : decode cL_law 626 = .ok (.if_icmp .eq 281, 3) := by decide +kernel
theorem dL_law_629 : decode cL_law 629 = .ok (.iconst 0, 1) := by decide +kernel
theorem dL_law_630 : decode cL_law 630 = .ok (.ireturn, 1) := by decide +kernel
theorem dL_law_631 : decode cL_law 631 = .ok (.aload_n 1, 1) := by decide +kernel
theorem dL_law_632 : decode cL_law 632 = .ok (.aload_n 0, 1) := by decide +kernel
theorem dL_law_633 : decode cL_law 633 = .ok (.iload_n 3, 1) := by decide +kernel
theorem dL_law_634 : decode cL_law 634 = .ok (.iconst 1, 1) := by decide +kernel
theorem dL_law_635 : decode cL_law 635 = .ok (.iadd, 1) := by decide +kernel
theorem dL_law_636 : decode cL_law 636 = .ok (.iaload, 1) := by decide +kernel
theorem dL_law_637 : decode cL_law 637 = .ok (.invokevirtual 78, 3) := by decide +kernel
theorem dL_law_640 : decode cL_law 640 = .ok (.aload_n 2, 1) := by decide +kernel
theorem dL_law_641 : decode cL_law 641 = .ok (.aload_n 0, 1) := by decide +kernel
theorem dL_law_642 : decode cL_law 642 = .ok (.iload_n 3, 1) := by decide +kernel
theorem dL_law_643 : decode cL_law 643 = .ok (.iconst 1, 1) := by decide +kernel
theorem dL_law_644 : decode cL_law 644 = .ok (.iadd, 1) := by decide +kernel
theorem dL_law_645 : decode cL_law 645 = .ok (.iaload, 1) := by decide +kernel
theorem dL_law_646 : decode cL_law 646 = .ok (.invokevirtual 81, 3) := by decide +kernel
theorem dL_law_649 : decode cL_law 649 = .ok (.if_icmp .eq 258, 3) := by decide +kernel
theorem dL_law_652 : decode cL_law 652 = .ok (.iconst 0, 1) := by decide +kernel
theorem dL_law_653 : decode cL_law 653 = .ok (.ireturn, 1) := by decide +kernel
theorem dL_law_654 : decode cL_law 654 = .ok (.aload_n 1, 1) := by decide +kernel
theorem dL_law_655 : decode cL_law 655 = .ok (.aload_n 0, 1) := by decide +kernel
theorem dL_law_656 : decode cL_law 656 = .ok (.iload_n 3, 1) := by decide +kernel
theorem dL_law_657 : decode cL_law 657 = .ok (.iconst 1, 1) := by decide +kernel
theorem dL_law_658 : decode cL_law 658 = .ok (.iadd, 1) := by decide +kernel
theorem dL_law_659 : decode cL_law 659 = .ok (.iaload, 1) := by decide +kernel
theorem dL_law_660 : decode cL_law 660 = .ok (.invokevirtual 82, 3) := by decide +kernel
theorem dL_law_663 : decode cL_law 663 = .ok (.aload_n 2, 1) := by decide +kernel
theorem dL_law_664 : decode cL_law 664 = .ok (.aload_n 0, 1) := by decide +kernel
theorem dL_law_665 : decode cL_law 665 = .ok (.iload_n 3, 1) := by decide +kernel
theorem dL_law_666 : decode cL_law 666 = .ok (.iconst 1, 1) := by decide +kernel
theorem dL_law_667 : decode cL_law 667 = .ok (.iadd, 1) := by decide +kernel
theorem dL_law_668 : decode cL_law 668 = .ok (.iaload, 1) := by decide +kernel
theorem dL_law_669 : decode cL_law 669 = .ok (.invokevirtual 85, 3) := by decide +kernel
theorem dL_law_672 : decode cL_law 672 = .ok (.if_icmp .eq 235, 3) := by decide +kernel
theorem dL_law_675 : decode cL_law 675 = .ok (.iconst 0, 1) := by decide +kernel
theorem dL_law_676 : decode cL_law 676 = .ok (.ireturn, 1) := by decide +kernel
theorem dL_law_677 : decode cL_law 677 = .ok (.aload_n 1, 1) := by decide +kernel
theorem dL_law_678 : decode cL_law 678 = .ok (.aload_n 0, 1) := by decide +kernel
theorem dL_law_679 : decode cL_law 679 = .ok (.iload_n 3, 1) := by decide +kernel
theorem dL_law_680 : decode cL_law 680 = .ok (.iconst 1, 1) := by decide +kernel
theorem dL_law_681 : decode cL_law 681 = .ok (.iadd, 1) := by decide +kernel
theorem dL_law_682 : decode cL_law 682 = .ok (.iaload, 1) := by decide +kernel
theorem dL_law_683 : decode cL_law 683 = .ok (.invokevirtual 86, 3) := by decide +kernel
theorem dL_law_686 : decode cL_law 686 = .ok (.aload_n 2, 1) := by decide +kernel
theorem dL_law_687 : decode cL_law 687 = .ok (.aload_n 0, 1) := by decide +kernel
theorem dL_law_688 : decode cL_law 688 = .ok (.iload_n 3, 1) := by decide +kernel
theorem dL_law_689 : decode cL_law 689 = .ok (.iconst 1, 1) := by decide +kernel
theorem dL_law_690 : decode cL_law 690 = .ok (.iadd, 1) := by decide +kernel
theorem dL_law_691 : decode cL_law 691 = .ok (.iaload, 1) := by decide +kernel
theorem dL_law_692 : decode cL_law 692 = .ok (.invokevirtual 89, 3) := by decide +kernel
theorem dL_law_695 : decode cL_law 695 = .ok (.if_icmp .eq 212, 3) := by decide +kernel
theorem dL_law_698 : decode cL_law 698 = .ok (.iconst 0, 1) := by decide +kernel
theorem dL_law_699 : decode cL_law 699 = .ok (.ireturn, 1) := by decide +kernel
theorem dL_law_700 : decode cL_law 700 = .ok (.aload_n 1, 1) := by decide +kernel
theorem dL_law_701 : decode cL_law 701 = .ok (.invokevirtual 90, 3) := by decide +kernel
theorem dL_law_704 : decode cL_law 704 = .ok (.aload_n 2, 1) := by decide +kernel
theorem dL_law_705 : decode cL_law 705 = .ok (.invokevirtual 93, 3) := by decide +kernel
theorem dL_law_708 : decode cL_law 708 = .ok (.if_icmp .eq 199, 3) := by decide +kernel
theorem dL_law_711 : decode cL_law 711 = .ok (.iconst 0, 1) := by decide +kernel
theorem dL_law_712 : decode cL_law 712 = .ok (.ireturn, 1) := by decide +kernel
theorem dL_law_713 : decode cL_law 713 = .ok (.aload_n 1, 1) := by decide +kernel
theorem dL_law_714 : decode cL_law 714 = .ok (.aload_n 0, 1) := by decide +kernel
theorem dL_law_715 : decode cL_law 715 = .ok (.iload_n 3, 1) := by decide +kernel
theorem dL_law_716 : decode cL_law 716 = .ok (.iconst 1, 1) := by decide +kernel
theorem dL_law_717 : decode cL_law 717 = .ok (.iadd, 1) := by decide +kernel
theorem dL_law_718 : decode cL_law 718 = .ok (.iaload, 1) := by decide +kernel
theorem dL_law_719 : decode cL_law 719 = .ok (.aload_n 0, 1) := by decide +kernel
theorem dL_law_720 : decode cL_law 720 = .ok (.iload_n 3, 1) := by decide +kernel
theorem dL_law_721 : decode cL_law 721 = .ok (.iconst 2, 1) := by decide +kernel
theorem dL_law_722 : decode cL_law 722 = .ok (.iadd, 1) := by decide +kernel
theorem dL_law_723 : decode cL_law 723 = .ok (.iaload, 1) := by decide +kernel
theorem dL_law_724 : decode cL_law 724 = .ok (.invokevirtual 94, 3) := by decide +kernel
theorem dL_law_727 : decode cL_law 727 = .ok (.aload_n 2, 1) := by decide +kernel
theorem dL_law_728 : decode cL_law 728 = .ok (.aload_n 0, 1) := by decide +kernel
theorem dL_law_729 : decode cL_law 729 = .ok (.iload_n 3, 1) := by decide +kernel
theorem dL_law_730 : decode cL_law 730 = .ok (.iconst 1, 1) := by decide +kernel
theorem dL_law_731 : decode cL_law 731 = .ok (.iadd, 1) := by decide +kernel
theorem dL_law_732 : decode cL_law 732 = .ok (.iaload, 1) := by decide +kernel
theorem dL_law_733 : decode cL_law 733 = .ok (.aload_n 0, 1) := by decide +kernel
theorem dL_law_734 : decode cL_law 734 = .ok (.iload_n 3, 1) := by decide +kernel
theorem dL_law_735 : decode cL_law 735 = .ok (.iconst 2, 1) := by decide +kernel
theorem dL_law_736 : decode cL_law 736 = .ok (.iadd, 1) := by decide +kernel
theorem dL_law_737 : decode cL_law 737 = .ok (.iaload, 1) := by decide +kernel
theorem dL_law_738 : decode cL_law 738 = .ok (.invokevirtual 97, 3) := by decide +kernel
theorem dL_law_741 : decode cL_law 741 = .ok (.if_icmp .eq 166, 3) := by decide +kernel
theorem dL_law_744 : decode cL_law 744 = .ok (.iconst 0, 1) := by decide +kernel
theorem dL_law_745 : decode cL_law 745 = .ok (.ireturn, 1) := by decide +kernel
theorem dL_law_746 : decode cL_law 746 = .ok (.aload_n 1, 1) := by decide +kernel
theorem dL_law_747 : decode cL_law 747 = .ok (.aload_n 0, 1) := by decide +kernel
theorem dL_law_748 : decode cL_law 748 = .ok (.iload_n 3, 1) := by decide +kernel
theorem dL_law_749 : decode cL_law 749 = .ok (.iconst 1, 1) := by decide +kernel
theorem dL_law_750 : decode cL_law 750 = .ok (.iadd, 1) := by decide +kernel
theorem dL_law_751 : decode cL_law 751 = .ok (.iaload, 1) := by decide +kernel
theorem dL_law_752 : decode cL_law 752 = .ok (.aload_n 0, 1) := by decide +kernel
theorem dL_law_753 : decode cL_law 753 = .ok (.iload_n 3, 1) := by decide +kernel
theorem dL_law_754 : decode cL_law 754 = .ok (.iconst 2, 1) := by decide +kernel
theorem dL_law_755 : decode cL_law 755 = .ok (.iadd, 1) := by decide +kernel
theorem dL_law_756 : decode cL_law 756 = .ok (.iaload, 1) := by decide +kernel
theorem dL_law_757 : decode cL_law 757 = .ok (.invokevirtual 98, 3) := by decide +kernel
theorem dL_law_760 : decode cL_law 760 = .ok (.aload_n 2, 1) := by decide +kernel
theorem dL_law_761 : decode cL_law 761 = .ok (.aload_n 0, 1) := by decide +kernel
theorem dL_law_762 : decode cL_law 762 = .ok (.iload_n 3, 1) := by decide +kernel
theorem dL_law_763 : decode cL_law 763 = .ok (.iconst 1, 1) := by decide +kernel
theorem dL_law_764 : decode cL_law 764 = .ok (.iadd, 1) := by decide +kernel
theorem dL_law_765 : decode cL_law 765 = .ok (.iaload, 1) := by decide +kernel
theorem dL_law_766 : decode cL_law 766 = .ok (.aload_n 0, 1) := by decide +kernel
theorem dL_law_767 : decode cL_law 767 = .ok (.iload_n 3, 1) := by decide +kernel
theorem dL_law_768 : decode cL_law 768 = .ok (.iconst 2, 1) := by decide +kernel
theorem dL_law_769 : decode cL_law 769 = .ok (.iadd, 1) := by decide +kernel
theorem dL_law_770 : decode cL_law 770 = .ok (.iaload, 1) := by decide +kernel
theorem dL_law_771 : decode cL_law 771 = .ok (.invokevirtual 101, 3) := by decide +kernel
theorem dL_law_774 : decode cL_law 774 = .ok (.if_icmp .eq 133, 3) := by decide +kernel
theorem dL_law_777 : decode cL_law 777 = .ok (.iconst 0, 1) := by decide +kernel
theorem dL_law_778 : decode cL_law 778 = .ok (.ireturn, 1) := by decide +kernel
theorem dL_law_779 : decode cL_law 779 = .ok (.aload_n 1, 1) := by decide +kernel
theorem dL_law_780 : decode cL_law 780 = .ok (.invokevirtual 102, 3) := by decide +kernel
theorem dL_law_783 : decode cL_law 783 = .ok (.aload_n 2, 1) := by decide +kernel
theorem dL_law_784 : decode cL_law 784 = .ok (.invokevirtual 105, 3) := by decide +kernel
theorem dL_law_787 : decode cL_law 787 = .ok (.if_icmp .eq 120, 3) := by decide +kernel
theorem dL_law_790 : decode cL_law 790 = .ok (.iconst 0, 1) := by decide +kernel
theorem dL_law_791 : decode cL_law 791 = .ok (.ireturn, 1) := by decide +kernel
theorem dL_law_792 : decode cL_law 792 = .ok (.aload_n 1, 1) := by decide +kernel
theorem dL_law_793 : decode cL_law 793 = .ok (.invokevirtual 106, 3) := by decide +kernel
theorem dL_law_796 : decode cL_law 796 = .ok (.aload_n 2, 1) := by decide +kernel
theorem dL_law_797 : decode cL_law 797 = .ok (.invokevirtual 109, 3) := by decide +kernel
theorem dL_law_800 : decode cL_law 800 = .ok (.if_icmp .eq 107, 3) := by decide +kernel
theorem dL_law_803 : decode cL_law 803 = .ok (.iconst 0, 1) := by decide +kernel
theorem dL_law_804 : decode cL_law 804 = .ok (.ireturn, 1) := by decide +kernel
theorem dL_law_805 : decode cL_law 805 = .ok (.aload_n 1, 1) := by decide +kernel
theorem dL_law_806 : decode cL_law 806 = .ok (.aload_n 0, 1) := by decide +kernel
theorem dL_law_807 : decode cL_law 807 = .ok (.iload_n 3, 1) := by decide +kernel
theorem dL_law_808 : decode cL_law 808 = .ok (.iconst 1, 1) := by decide +kernel
theorem dL_law_809 : decode cL_law 809 = .ok (.iadd, 1) := by decide +kernel
theorem dL_law_810 : decode cL_law 810 = .ok (.iaload, 1) := by decide +kernel
theorem dL_law_811 : decode cL_law 811 = .ok (.aload_n 0, 1) := by decide +kernel
theorem dL_law_812 : decode cL_law 812 = .ok (.iload_n 3, 1) := by decide +kernel
theorem dL_law_813 : decode cL_law 813 = .ok (.iconst 2, 1) := by decide +kernel
theorem dL_law_814 : decode cL_law 814 = .ok (.iadd, 1) := by decide +kernel
theorem dL_law_815 : decode cL_law 815 = .ok (.iaload, 1) := by decide +kernel
theorem dL_law_816 : decode cL_law 816 = .ok (.aload_n 0, 1) := by decide +kernel
theorem dL_law_817 : decode cL_law 817 = .ok (.iload_n 3, 1) := by decide +kernel
theorem dL_law_818 : decode cL_law 818 = .ok (.iconst 3, 1) := by decide +kernel
theorem dL_law_819 : decode cL_law 819 = .ok (.iadd, 1) := by decide +kernel
theorem dL_law_820 : decode cL_law 820 = .ok (.iaload, 1) := by decide +kernel
theorem dL_law_821 : decode cL_law 821 = .ok (.aload_n 0, 1) := by decide +kernel
theorem dL_law_822 : decode cL_law 822 = .ok (.iload_n 3, 1) := by decide +kernel
theorem dL_law_823 : decode cL_law 823 = .ok (.iconst 4, 1) := by decide +kernel
theorem dL_law_824 : decode cL_law 824 = .ok (.iadd, 1) := by decide +kernel
theorem dL_law_825 : decode cL_law 825 = .ok (.iaload, 1) := by decide +kernel
theorem dL_law_826 : decode cL_law 826 = .ok (.invokevirtual 110, 3) := by decide +kernel
theorem dL_law_829 : decode cL_law 829 = .ok (.aload_n 2, 1) := by decide +kernel
theorem dL_law_830 : decode cL_law 830 = .ok (.aload_n 0, 1) := by decide +kernel
theorem dL_law_831 : decode cL_law 831 = .ok (.iload_n 3, 1) := by decide +kernel
theorem dL_law_832 : decode cL_law 832 = .ok (.iconst 1, 1) := by decide +kernel
theorem dL_law_833 : decode cL_law 833 = .ok (.iadd, 1) := by decide +kernel
theorem dL_law_834 : decode cL_law 834 = .ok (.iaload, 1) := by decide +kernel
theorem dL_law_835 : decode cL_law 835 = .ok (.aload_n 0, 1) := by decide +kernel
theorem dL_law_836 : decode cL_law 836 = .ok (.iload_n 3, 1) := by decide +kernel
theorem dL_law_837 : decode cL_law 837 = .ok (.iconst 2, 1) := by decide +kernel
theorem dL_law_838 : decode cL_law 838 = .ok (.iadd, 1) := by decide +kernel
theorem dL_law_839 : decode cL_law 839 = .ok (.iaload, 1) := by decide +kernel
theorem dL_law_840 : decode cL_law 840 = .ok (.aload_n 0, 1) := by decide +kernel
theorem dL_law_841 : decode cL_law 841 = .ok (.iload_n 3, 1) := by decide +kernel
theorem dL_law_842 : decode cL_law 842 = .ok (.iconst 3, 1) := by decide +kernel
theorem dL_law_843 : decode cL_law 843 = .ok (.iadd, 1) := by decide +kernel
theorem dL_law_844 : decode cL_law 844 = .ok (.iaload, 1) := by decide +kernel
theorem dL_law_845 : decode cL_law 845 = .ok (.aload_n 0, 1) := by decide +kernel
theorem dL_law_846 : decode cL_law 846 = .ok (.iload_n 3, 1) := by decide +kernel
theorem dL_law_847 : decode cL_law 847 = .ok (.iconst 4, 1) := by decide +kernel
theorem dL_law_848 : decode cL_law 848 = .ok (.iadd, 1) := by decide +kernel
theorem dL_law_849 : decode cL_law 849 = .ok (.iaload, 1) := by decide +kernel
theorem dL_law_850 : decode cL_law 850 = .ok (.invokevirtual 114, 3) := by decide +kernel
theorem dL_law_853 : decode cL_law 853 = .ok (.if_icmp .eq 54, 3) := by decide +kernel
theorem dL_law_856 : decode cL_law 856 = .ok (.iconst 0, 1) := by decide +kernel
theorem dL_law_857 : decode cL_law 857 = .ok (.ireturn, 1) := by decide +kernel
theorem dL_law_858 : decode cL_law 858 = .ok (.aload_n 1, 1) := by decide +kernel
theorem dL_law_859 : decode cL_law 859 = .ok (.aload_n 0, 1) := by decide +kernel
theorem dL_law_860 : decode cL_law 860 = .ok (.iload_n 3, 1) := by decide +kernel
theorem dL_law_861 : decode cL_law 861 = .ok (.iconst 1, 1) := by decide +kernel
theorem dL_law_862 : decode cL_law 862 = .ok (.iadd, 1) := by decide +kernel
theorem dL_law_863 : decode cL_law 863 = .ok (.iaload, 1) := by decide +kernel
theorem dL_law_864 : decode cL_law 864 = .ok (.invokevirtual 115, 3) := by decide +kernel
theorem dL_law_867 : decode cL_law 867 = .ok (.aload_n 2, 1) := by decide +kernel
theorem dL_law_868 : decode cL_law 868 = .ok (.aload_n 0, 1) := by decide +kernel
theorem dL_law_869 : decode cL_law 869 = .ok (.iload_n 3, 1) := by decide +kernel
theorem dL_law_870 : decode cL_law 870 = .ok (.iconst 1, 1) := by decide +kernel
theorem dL_law_871 : decode cL_law 871 = .ok (.iadd, 1) := by decide +kernel
theorem dL_law_872 : decode cL_law 872 = .ok (.iaload, 1) := by decide +kernel
theorem dL_law_873 : decode cL_law 873 = .ok (.invokevirtual 118, 3) := by decide +kernel
theorem dL_law_876 : decode cL_law 876 = .ok (.if_icmp .eq 31, 3) := by decide +kernel
theorem dL_law_879 : decode cL_law 879 = .ok (.iconst 0, 1) := by decide +kernel
theorem dL_law_880 : decode cL_law 880 = .ok (.ireturn, 1) := by decide +kernel
theorem dL_law_881 : decode cL_law 881 = .ok (.aload_n 1, 1) := by decide +kernel
theorem dL_law_882 : decode cL_law 882 = .ok (.invokevirtual 119, 3) := by decide +kernel
theorem dL_law_885 : decode cL_law 885 = .ok (.aload_n 2, 1) := by decide +kernel
theorem dL_law_886 : decode cL_law 886 = .ok (.invokevirtual 122, 3) := by decide +kernel
theorem dL_law_889 : decode cL_law 889 = .ok (.if_icmp .eq 18, 3) := by decide +kernel
theorem dL_law_892 : decode cL_law 892 = .ok (.iconst 0, 1) := by decide +kernel
theorem dL_law_893 : decode cL_law 893 = .ok (.ireturn, 1) := by decide +kernel
theorem dL_law_894 : decode cL_law 894 = .ok (.aload_n 1, 1) := by decide +kernel
theorem dL_law_895 : decode cL_law 895 = .ok (.invokevirtual 123, 3) := by decide +kernel
theorem dL_law_898 : decode cL_law 898 = .ok (.aload_n 2, 1) := by decide +kernel
theorem dL_law_899 : decode cL_law 899 = .ok (.invokevirtual 126, 3) := by decide +kernel
theorem dL_law_902 : decode cL_law 902 = .ok (.if_icmp .eq 5, 3) := by decide +kernel
theorem dL_law_905 : decode cL_law 905 = .ok (.iconst 0, 1) := by decide +kernel
theorem dL_law_906 : decode cL_law 906 = .ok (.ireturn, 1) := by decide +kernel
theorem dL_law_907 : decode cL_law 907 = .ok (.iinc 3 6, 3) := by decide +kernel
theorem dL_law_910 : decode cL_law 910 = .ok (.goto (-892), 3) := by decide +kernel
theorem dL_law_913 : decode cL_law 913 = .ok (.iconst 1, 1) := by decide +kernel
theorem dL_law_914 : decode cL_law 914 = .ok (.ireturn, 1) := by decide +kernel
abbrev vwCl : List vw_C := [(RX0, TX0, 3), (RX1, TX1, 2), (RX2, TX2, 4), (RX3, TX3, 4), (RX5, TX5, 6), (RX6, TX6, 7), (RX7, TX7, 9), (RX8, TX8, 10)]
end
section
/-! THE SMALL MACHINE: the same instructions over a memory of numbers: object o, place k. Its objects and their shape are fixed: they are those that the law's two objects hold once they are made. -/
abbrev mm_V : Type := Int32 ⊕ Nat
abbrev mm_M : Type := Nat → Nat → Int32
abbrev mm_L : Type := List (Option mm_V)
abbrev mm_F : Type := Nat × mm_L × List mm_V × mm_M
abbrev mm_R : Type := Option (mm_F ⊕ ((Nat × List mm_V × List mm_V) ⊕ Option Int32))
/-- a kind of object: its number among the kinds and its fields (none: a number; some r: the object r); or an array: of chars or ints, its length -/
abbrev mm_E : Type := (Nat × List (Option Nat)) ⊕ (Bool × Nat)
def mm_shape : List mm_E := [
  .inl (6, [some 1, some 3, some 5, some 7, some 9, some 15, some 22, some 26, some 29]),
  .inl (2, [none, none, none, some 2]), .inr (false, 120),
  .inl (2, [none, none, none, some 4]), .inr (false, 120),
  .inl (2, [none, none, none, some 6]), .inr (false, 120),
  .inl (1, [none, some 8]), .inr (false, 378),
  .inl (5, [none, none, some 10, some 11, some 12, some 13, some 14]), .inr (false, 48), .inr (false, 48), .inr (false, 48), .inr (false, 48), .inr (false, 48),
  .inl (4, [some 16, some 17, some 18, some 19, some 20, some 21]), .inr (false, 49), .inr (false, 49), .inr (false, 49), .inr (false, 49), .inr (false, 49), .inr (false, 49),
  .inl (0, [some 23, some 24, some 25]), .inr (false, 48), .inr (false, 48), .inr (false, 48),
  .inl (3, [none, none, some 27, some 28]), .inr (false, 120), .inr (false, 7),
  .inr (false, 48),
  .inl (7, [some 31, some 32, none, some 33, some 34, none, none, some 35, some 36, some 37]), .inr (false, 723), .inr (false, 4338), .inr (false, 723), .inr (true, 120), .inr (false, 7), .inr (false, 360), .inr (false, 336)]
def mm_up (M : mm_M) (o k : Nat) (v : Int32) : mm_M := fun o' => if o' = o then upd (M o) k v else M o'
def mm_set (M : mm_M) (o : Nat) (f : Nat → Int32) : mm_M := fun o' => if o' = o then f else M o'
/-- the two rows of units: objects 40 and 41 -/
def mm_ux : Nat → Int32 := fun j => match j with | 0 => 0 | 1 => 1 | 2 => 1 | 3 => 1 | 4 => 0 | 5 => -1 | 6 => -1 | _ => -1
def mm_uy : Nat → Int32 := fun j => match j with | 0 => 1 | 1 => 1 | 2 => 0 | 3 => -1 | 4 => -1 | 5 => -1 | 6 => 0 | _ => 1
abbrev mm_T : Type := ByteArray × MethodName × Nat × Option FieldType × Nat × Nat × Nat × Nat × Nat × Nat
def mm_tab_0 : List mm_T := [(cX0_begin, yX0_begin, 1, none, 0, 0, 1, 23, 640, 56), (cX0_compare, yX0_compare, 9, none, 0, 5, 4, 88, 645, 56), (cX0_alikeBeats, yX0_alikeBeats, 4, (some .int), 0, 1, 0, 0, 656, 56), (cX1_keep, yX1_keep, 4, none, 1, 1, 1, 26, 251, 53), (cX1_restore, yX1_restore, 4, none, 1, 1, 0, 0, 470, 53), (cX2_empty, yX2_empty, 2, none, 2, 1, 0, 0, 258, 52), (cX2_emptyAs, yX2_emptyAs, 2, none, 2, 1, 0, 0, 348, 52), (cX2_become, yX2_become, 2, none, 2, 1, 1, 26, 396, 52)]
def mm_tab_1 : List mm_T := [(cX2_at, yX2_at, 2, (some .int), 2, 1, 0, 0, 352, 52), (cX2_hasRoomFor, yX2_hasRoomFor, 6, (some .boolean), 2, 1, 2, 40, 284, 52), (cX2_put, yX2_put, 3, (some .int), 2, 1, 0, 0, 301, 52), (cX2_takeOut, yX2_takeOut, 3, none, 2, 1, 0, 0, 333, 52), (cX2_endOf, yX2_endOf, 4, (some .int), 2, 1, 2, 40, 484, 52), (cX2_numberCovering, yX2_numberCovering, 5, (some .int), 2, 2, 3, 63, 497, 52), (cX2_fillRow, yX2_fillRow, 6, none, 2, 2, 3, 63, 515, 52), (cX3_append, yX3_append, 2, none, 3, 1, 0, 0, 664, 57)]
def mm_tab_2 : List mm_T := [(cX3_readFor, yX3_readFor, 5, (some .int), 3, 2, 5, 125, 409, 57), (cX3_readItem, yX3_readItem, 8, (some .boolean), 3, 1, 4, 98, 417, 57), (cX3_spanOf, yX3_spanOf, 1, (some .int), 3, 1, 1, 20, 457, 57), (cX3_isTaken, yX3_isTaken, 2, (some .boolean), 3, 2, 1, 22, 461, 57), (cX3_readSign, yX3_readSign, 4, (some .int), 3, 3, 3, 75, 434, 57), (cX3_readMove, yX3_readMove, 6, (some .int), 3, 2, 2, 50, 438, 57), (cX3_readTurn, yX3_readTurn, 7, (some .int), 3, 2, 2, 49, 452, 57), (cX3_levelNamed, yX3_levelNamed, 1, (some .int), 3, 1, 0, 0, 441, 57)]
def mm_tab_3 : List mm_T := [(cX3_readLength, yX3_readLength, 3, (some .int), 3, 0, 1, 22, 445, 57), (cX3_readDigit, yX3_readDigit, 2, (some .int), 3, 0, 1, 22, 421, 57), (cX3_readCharacter, yX3_readCharacter, 2, (some .int), 3, 0, 0, 0, 430, 57), (cX3_digitAt, yX3_digitAt, 3, (some .int), 3, 1, 0, 0, 425, 57), (cX4_move, yX4_move, 5, (some .int), 4, 5, 1, 26, 273, 60), (cX4_hold, yX4_hold, 2, (some .int), 4, 2, 1, 26, 311, 60), (cX4_turn, yX4_turn, 4, (some .int), 4, 4, 1, 26, 318, 60), (cX4_release, yX4_release, 3, (some .int), 4, 3, 1, 26, 325, 60)]
def mm_tab_4 : List mm_T := [(cX4_packed, yX4_packed, 7, (some .int), 4, 7, 0, 0, 276, 60), (cX4_beginOf, yX4_beginOf, 1, (some .int), 4, 1, 0, 0, 287, 60), (cX4_columnOf, yX4_columnOf, 1, (some .int), 4, 1, 0, 0, 297, 60), (cX4_spanOf, yX4_spanOf, 1, (some .int), 4, 1, 0, 0, 294, 60), (cX4_kindOf, yX4_kindOf, 1, (some .int), 4, 1, 0, 0, 364, 60), (cX4_directionOf, yX4_directionOf, 1, (some .int), 4, 1, 0, 0, 367, 60), (cX4_levelOf, yX4_levelOf, 1, (some .int), 4, 1, 0, 0, 370, 60), (cX4_amountOf, yX4_amountOf, 1, (some .int), 4, 1, 0, 0, 373, 60)]
def mm_tab_5 : List mm_T := [(cX4_shortEndOf, yX4_shortEndOf, 1, (some .int), 4, 1, 1, 20, 290, 60), (cX4_lookOf, yX4_lookOf, 1, (some .int), 4, 1, 0, 0, 652, 60), (cX4_movedTo, yX4_movedTo, 2, (some .int), 4, 2, 1, 26, 360, 60), (cX4_turnedBack, yX4_turnedBack, 1, (some .int), 4, 1, 1, 26, 388, 60), (cX4_mirrored, yX4_mirrored, 1, (some .int), 4, 1, 1, 26, 379, 60), (cX4_mirroredColumn, yX4_mirroredColumn, 1, (some .int), 4, 1, 0, 0, 382, 60), (cX4_mirroredDirection, yX4_mirroredDirection, 1, (some .int), 4, 1, 0, 0, 385, 60), (cX5_follow, yX5_follow, 3, none, 5, 1, 3, 64, 588, 55)]
def mm_tab_6 : List mm_T := [(cX5_noteEnd, yX5_noteEnd, 3, none, 5, 1, 2, 42, 594, 55), (cX5_noteStep, yX5_noteStep, 3, none, 5, 2, 1, 20, 601, 55), (cX5_step, yX5_step, 6, none, 5, 3, 1, 22, 609, 55), (cX5_distanceAt, yX5_distanceAt, 2, (some .int), 5, 1, 1, 21, 623, 55), (cX6_weigh, yX6_weigh, 2, none, 6, 1, 5, 112, 506, 54), (cX6_weighSide, yX6_weighSide, 5, none, 6, 2, 4, 88, 511, 54), (cX6_canBear, yX6_canBear, 1, (some .boolean), 6, 1, 1, 20, 522, 54), (cX6_measureFlights, yX6_measureFlights, 3, none, 6, 0, 0, 0, 527, 54)]
def mm_tab_7 : List mm_T := [(cX6_isWrong, yX6_isWrong, 2, (some .boolean), 6, 1, 0, 0, 539, 54), (cX6_wrongBeats, yX6_wrongBeats, 3, (some .int), 6, 0, 1, 21, 551, 54), (cX6_beatsOn, yX6_beatsOn, 4, (some .int), 6, 1, 0, 0, 567, 54), (cX6_longestFlight, yX6_longestFlight, 3, (some .int), 6, 0, 1, 21, 556, 54), (cX6_flightCount, yX6_flightCount, 4, (some .int), 6, 0, 0, 0, 563, 54), (cX6_isAnyLegTold, yX6_isAnyLegTold, 2, (some .boolean), 6, 0, 0, 0, 575, 54), (cX7_reset, yX7_reset, 3, (some .int), 7, 1, 2, 49, 244, 51), (cX7_addMove, yX7_addMove, 6, (some .int), 7, 5, 4, 86, 262, 51)]
def mm_tab_8 : List mm_T := [(cX7_addHold, yX7_addHold, 3, (some .int), 7, 2, 4, 86, 305, 51), (cX7_addTurn, yX7_addTurn, 4, (some .int), 7, 3, 4, 86, 315, 51), (cX7_addRelease, yX7_addRelease, 4, (some .int), 7, 3, 4, 86, 322, 51), (cX7_removeSign, yX7_removeSign, 2, (some .int), 7, 1, 2, 49, 329, 51), (cX7_copyPhrase, yX7_copyPhrase, 9, (some .int), 7, 5, 4, 87, 337, 51), (cX7_setLeap, yX7_setLeap, 3, (some .int), 7, 1, 2, 49, 401, 51), (cX7_lay, yX7_lay, 1, (some .int), 7, 0, 6, 149, 405, 51), (cX7_undo, yX7_undo, 1, (some .int), 7, 0, 1, 23, 466, 51)]
def mm_tab_9 : List mm_T := [(cX7_count, yX7_count, 2, (some .int), 7, 1, 0, 0, 474, 51), (cX7_sign, yX7_sign, 5, (some .int), 7, 2, 3, 63, 478, 51), (cX7_signAt, yX7_signAt, 4, (some .int), 7, 2, 4, 87, 493, 51), (cX7_bears, yX7_bears, 2, (some .int), 7, 1, 6, 133, 502, 51), (cX7_toldTwice, yX7_toldTwice, 2, (some .int), 7, 1, 6, 133, 531, 51), (cX7_isFaulty, yX7_isFaulty, 2, (some .int), 7, 1, 6, 133, 535, 51), (cX7_nextFault, yX7_nextFault, 3, (some .int), 7, 1, 6, 133, 543, 51), (cX7_beats, yX7_beats, 2, (some .int), 7, 1, 6, 133, 547, 51)]
def mm_tab_10 : List mm_T := [(cX7_leastLeap, yX7_leastLeap, 1, (some .int), 7, 0, 6, 133, 571, 51), (cX7_covered, yX7_covered, 6, (some .int), 7, 2, 4, 88, 579, 51), (cX7_floor, yX7_floor, 3, (some .int), 7, 2, 4, 86, 584, 51), (cX7_home, yX7_home, 3, (some .int), 7, 0, 4, 86, 619, 51), (cX7_farthest, yX7_farthest, 3, (some .int), 7, 0, 4, 86, 631, 51), (cX7_alike, yX7_alike, 6, (some .int), 7, 4, 5, 116, 636, 51), (cX7_type, yX7_type, 2, (some .int), 7, 1, 1, 22, 660, 51), (cX7_clearText, yX7_clearText, 2, (some .int), 7, 0, 0, 0, 668, 51)]
def mm_tab_11 : List mm_T := [(cX7_fault, yX7_fault, 2, (some .int), 7, 0, 6, 149, 672, 51), (cX7_isWithin, yX7_isWithin, 3, (some .boolean), 7, 3, 0, 0, 247, 51), (cX7_isFlag, yX7_isFlag, 1, (some .boolean), 7, 1, 1, 22, 344, 51), (cX7_isColumn, yX7_isColumn, 1, (some .boolean), 7, 1, 1, 22, 308, 51), (cX7_isBeat, yX7_isBeat, 2, (some .boolean), 7, 1, 1, 22, 270, 51), (cX7_isSpan, yX7_isSpan, 3, (some .boolean), 7, 2, 2, 43, 266, 51), (cX7_isPhrase, yX7_isPhrase, 3, (some .boolean), 7, 2, 2, 43, 341, 51), (cX7_addSign, yX7_addSign, 2, (some .int), 7, 1, 3, 65, 280, 51)]
def mm_tab_12 : List mm_T := [(cX7_isInPhrase, yX7_isInPhrase, 3, (some .boolean), 7, 3, 2, 40, 355, 51), (cX7_copyOf, yX7_copyOf, 4, (some .int), 7, 3, 2, 46, 376, 51), (cX7_canTryPhrase, yX7_canTryPhrase, 3, (some .boolean), 7, 0, 3, 65, 392, 51), (cX8_in, yX8_in, 3, (some .boolean), 8, 3, 0, 0, 717, 58), (cX8_isBeat, yX8_isBeat, 2, (some .boolean), 8, 1, 1, 22, 733, 58), (cX8_isColumn, yX8_isColumn, 1, (some .boolean), 8, 1, 1, 22, 760, 58), (cX8_isSign, yX8_isSign, 2, (some .boolean), 8, 1, 1, 22, 776, 58), (cX8_records, yX8_records, 2, none, 8, 0, 0, 0, 721, 58)]
def mm_tab_13 : List mm_T := [(cX8_endOf, yX8_endOf, 3, (some .int), 8, 1, 0, 0, 788, 58), (cX8_fills, yX8_fills, 4, none, 8, 0, 0, 0, 745, 58), (cX8_covering, yX8_covering, 3, (some .int), 8, 2, 0, 0, 749, 58), (cX8_isFree, yX8_isFree, 7, (some .boolean), 8, 3, 1, 23, 741, 58), (cX8_puts, yX8_puts, 9, (some .int), 8, 6, 0, 0, 753, 58), (cX8_adds, yX8_adds, 7, (some .int), 8, 6, 2, 49, 737, 58), (cX8_isSpan, yX8_isSpan, 3, (some .boolean), 8, 2, 2, 43, 729, 58), (cX8_reset, yX8_reset, 3, (some .int), 8, 1, 1, 22, 714, 58)]
def mm_tab_14 : List mm_T := [(cX8_addMove, yX8_addMove, 6, (some .int), 8, 5, 3, 75, 725, 58), (cX8_addHold, yX8_addHold, 3, (some .int), 8, 2, 3, 75, 757, 58), (cX8_addTurn, yX8_addTurn, 4, (some .int), 8, 3, 3, 75, 764, 58), (cX8_addRelease, yX8_addRelease, 4, (some .int), 8, 3, 3, 75, 768, 58), (cX8_removeSign, yX8_removeSign, 4, (some .int), 8, 1, 2, 43, 772, 58), (cX8_turnedColumn, yX8_turnedColumn, 1, (some .int), 8, 1, 0, 0, 791, 58), (cX8_turnedWay, yX8_turnedWay, 2, (some .int), 8, 2, 0, 0, 794, 58), (cX8_collects, yX8_collects, 15, (some .int), 8, 5, 1, 22, 784, 58)]
def mm_tab_15 : List mm_T := [(cX8_copyPhrase, yX8_copyPhrase, 11, (some .int), 8, 5, 2, 56, 780, 58), (cX8_setLeap, yX8_setLeap, 3, (some .int), 8, 1, 1, 22, 798, 58), (cX8_undo, yX8_undo, 2, (some .int), 8, 0, 0, 0, 802, 58), (cX8_count, yX8_count, 2, (some .int), 8, 1, 0, 0, 806, 58), (cX8_sign, yX8_sign, 4, (some .int), 8, 2, 2, 43, 810, 58), (cX8_signAt, yX8_signAt, 4, (some .int), 8, 2, 2, 43, 814, 58), (cX8_isBearing, yX8_isBearing, 4, (some .boolean), 8, 2, 1, 22, 826, 58), (cX8_feet, yX8_feet, 2, (some .int), 8, 1, 2, 45, 822, 58)]
def mm_tab_16 : List mm_T := [(cX8_isTwice, yX8_isTwice, 4, (some .boolean), 8, 2, 2, 45, 838, 58), (cX8_twice, yX8_twice, 2, (some .int), 8, 1, 3, 68, 834, 58), (cX8_flight, yX8_flight, 4, (some .int), 8, 1, 3, 66, 850, 58), (cX8_isWrong, yX8_isWrong, 2, (some .boolean), 8, 1, 4, 89, 846, 58), (cX8_bears, yX8_bears, 2, (some .int), 8, 1, 3, 66, 818, 58), (cX8_toldTwice, yX8_toldTwice, 2, (some .int), 8, 1, 4, 89, 830, 58), (cX8_isFaulty, yX8_isFaulty, 2, (some .int), 8, 1, 5, 110, 842, 58), (cX8_nextFault, yX8_nextFault, 3, (some .int), 8, 1, 5, 110, 854, 58)]
def mm_tab_17 : List mm_T := [(cX8_beats, yX8_beats, 9, (some .int), 8, 1, 5, 110, 858, 58), (cX8_leastLeap, yX8_leastLeap, 2, (some .int), 8, 0, 6, 138, 862, 58), (cX8_covered, yX8_covered, 6, (some .int), 8, 2, 2, 42, 867, 58), (cX8_facing, yX8_facing, 4, (some .int), 8, 1, 1, 22, 875, 58), (cX8_unit, yX8_unit, 3, (some .int), 8, 2, 0, 0, 882, 58), (cX8_isTogether, yX8_isTogether, 4, (some .boolean), 8, 1, 1, 22, 886, 58), (cX8_place, yX8_place, 6, (some .int), 8, 2, 2, 45, 879, 58), (cX8_floor, yX8_floor, 3, (some .int), 8, 2, 3, 70, 871, 58)]
def mm_tab_18 : List mm_T := [(cX8_home, yX8_home, 4, (some .int), 8, 0, 3, 70, 890, 58), (cX8_size, yX8_size, 1, (some .int), 8, 1, 0, 0, 897, 58), (cX8_farthest, yX8_farthest, 5, (some .int), 8, 0, 3, 70, 894, 58), (cX8_isLike, yX8_isLike, 9, (some .boolean), 8, 4, 1, 22, 905, 58), (cX8_alike, yX8_alike, 9, (some .int), 8, 4, 2, 50, 901, 58), (cX8_type, yX8_type, 2, (some .int), 8, 1, 1, 22, 909, 58), (cX8_clearText, yX8_clearText, 2, (some .int), 8, 0, 0, 0, 913, 58), (cX8_here, yX8_here, 1, (some .int), 8, 0, 0, 0, 937, 58)]
def mm_tab_19 : List mm_T := [(cX8_passes, yX8_passes, 3, (some .boolean), 8, 1, 1, 20, 941, 58), (cX8_digit, yX8_digit, 4, (some .int), 8, 2, 1, 22, 933, 58), (cX8_length, yX8_length, 3, (some .int), 8, 0, 2, 45, 949, 58), (cX8_lays, yX8_lays, 8, (some .boolean), 8, 5, 1, 28, 953, 58), (cX8_readsMove, yX8_readsMove, 4, (some .boolean), 8, 1, 3, 67, 945, 58), (cX8_readsTurn, yX8_readsTurn, 4, (some .boolean), 8, 1, 3, 67, 957, 58), (cX8_readsItem, yX8_readsItem, 3, (some .boolean), 8, 0, 4, 90, 929, 58), (cX8_reads, yX8_reads, 2, (some .int), 8, 0, 5, 112, 925, 58)]
def mm_tab_20 : List mm_T := [(cX8_keeps, yX8_keeps, 2, none, 8, 0, 0, 0, 921, 58), (cX8_swaps, yX8_swaps, 3, none, 8, 0, 0, 0, 961, 58), (cX8_fault, yX8_fault, 2, (some .int), 8, 0, 6, 133, 917, 58), (cX8_lay, yX8_lay, 1, (some .int), 8, 0, 7, 154, 965, 58), (cJ9_floorMod_7cf53, yJ9_floorMod_7cf53, 3, (some .int), 10, 2, 0, 0, 605, 62), (cJ9_abs_0f7a4, yJ9_abs_0f7a4, 1, (some .int), 10, 1, 0, 0, 626, 62), (cJ9_max_7cf53, yJ9_max_7cf53, 2, (some .int), 10, 2, 0, 0, 559, 62), (cJ9_min_7cf53, yJ9_min_7cf53, 2, (some .int), 10, 2, 0, 0, 519, 62)]
def mm_tab_21 : List mm_T := [(cJ7_fill_53178, yJ7_fill_53178, 4, none, 9, 2, 0, 0, 413, 61)]
def mm_tab : List mm_T := mm_tab_0 ++ mm_tab_1 ++ mm_tab_2 ++ mm_tab_3 ++ mm_tab_4 ++ mm_tab_5 ++ mm_tab_6 ++ mm_tab_7 ++ mm_tab_8 ++ mm_tab_9 ++ mm_tab_10 ++ mm_tab_11 ++ mm_tab_12 ++ mm_tab_13 ++ mm_tab_14 ++ mm_tab_15 ++ mm_tab_16 ++ mm_tab_17 ++ mm_tab_18 ++ mm_tab_19 ++ mm_tab_20 ++ mm_tab_21
def mm_d0 : mm_T := (⟨#[]⟩, ⟨"", "", ""⟩, 0, none, 0, 0, 0, 0, 0, 0)
def mm_rec (j : Nat) : mm_T := mm_tab.getD j mm_d0
def mm_code (j : Nat) : ByteArray := (mm_rec j).1
def mm_y (j : Nat) : MethodName := (mm_rec j).2.1
def mm_maxL (j : Nat) : Nat := (mm_rec j).2.2.1
def mm_ret (j : Nat) : Option FieldType := (mm_rec j).2.2.2.1
def mm_cno (j : Nat) : Nat := (mm_rec j).2.2.2.2.1
def mm_np (j : Nat) : Nat := (mm_rec j).2.2.2.2.2.1
def mm_fr (j : Nat) : Nat := (mm_rec j).2.2.2.2.2.2.1
def mm_lo (j : Nat) : Nat := (mm_rec j).2.2.2.2.2.2.2.1
def mm_icode (j : Nat) : Nat := (mm_rec j).2.2.2.2.2.2.2.2.1
def mm_iini (j : Nat) : Nat := (mm_rec j).2.2.2.2.2.2.2.2.2
/-- the names of the method's own kinds, by number -/
def mm_cn (k : Nat) : String := match k with
  | 0 => RX0 | 1 => RX1 | 2 => RX2 | 3 => RX3 | 4 => RX4 | 5 => RX5 | 6 => RX6 | 7 => RX7 | 8 => RX8 | 9 => RJ7 | _ => RJ9
/-- fields: (owner, entry), (kind, place, by nest, the word's place in the tables) -/
def mm_flds_0 : List ((Nat × Nat) × (Nat × Nat × Bool × Nat)) := [((0, 18), (0, 2, false, 185)), ((0, 9), (0, 0, false, 183)), ((0, 15), (0, 1, false, 184)), ((0, 39), (2, 0, true, 82)), ((1, 11), (1, 0, false, 111)), ((1, 15), (1, 1, false, 113)), ((1, 25), (2, 0, true, 80)), ((1, 30), (2, 1, true, 86)), ((1, 33), (2, 2, true, 90)), ((1, 34), (2, 3, true, 94)), ((2, 9), (2, 0, false, 77)), ((2, 18), (2, 2, false, 88)), ((2, 15), (2, 1, false, 84)), ((2, 21), (2, 3, false, 93)), ((3, 9), (3, 0, false, 199)), ((3, 18), (3, 2, false, 202))]
def mm_flds_1 : List ((Nat × Nat) × (Nat × Nat × Bool × Nat)) := [((3, 22), (3, 3, false, 203)), ((3, 15), (3, 1, false, 201)), ((3, 63), (2, 0, true, 83)), ((3, 73), (2, 2, true, 91)), ((5, 21), (4, 3, false, 161)), ((5, 24), (4, 4, false, 162)), ((5, 27), (4, 5, false, 163)), ((5, 36), (2, 2, true, 89)), ((5, 50), (2, 0, true, 81)), ((5, 18), (4, 2, false, 159)), ((5, 9), (4, 0, false, 155)), ((5, 15), (4, 1, false, 157)), ((6, 34), (2, 0, true, 78)), ((6, 9), (5, 0, false, 125)), ((6, 37), (2, 1, true, 85)), ((6, 15), (5, 1, false, 126))]
def mm_flds_2 : List ((Nat × Nat) × (Nat × Nat × Bool × Nat)) := [((6, 25), (5, 4, false, 129)), ((6, 28), (5, 5, false, 131)), ((6, 18), (5, 2, false, 127)), ((6, 22), (5, 3, false, 128)), ((6, 31), (5, 6, false, 133)), ((7, 10), (6, 0, false, 213)), ((7, 65), (2, 0, true, 79)), ((7, 25), (6, 3, false, 216)), ((7, 110), (2, 2, true, 92)), ((7, 16), (6, 1, false, 214)), ((7, 19), (6, 2, false, 215)), ((7, 153), (2, 1, true, 87)), ((7, 53), (6, 7, false, 220)), ((7, 160), (1, 0, true, 112)), ((7, 164), (3, 0, true, 200)), ((7, 32), (6, 4, false, 217))]
def mm_flds_3 : List ((Nat × Nat) × (Nat × Nat × Bool × Nat)) := [((7, 189), (5, 4, true, 130)), ((7, 192), (5, 5, true, 132)), ((7, 57), (6, 8, false, 221)), ((7, 39), (6, 5, false, 218)), ((7, 221), (4, 2, true, 160)), ((7, 224), (4, 0, true, 156)), ((7, 227), (4, 1, true, 158)), ((7, 46), (6, 6, false, 219)), ((8, 7), (7, 0, false, 679)), ((8, 36), (7, 2, false, 681)), ((8, 13), (7, 1, false, 680)), ((8, 29), (7, 9, false, 688)), ((8, 26), (7, 8, false, 687)), ((8, 16), (7, 3, false, 682)), ((8, 88), (7, 5, false, 684)), ((8, 19), (7, 4, false, 683))]
def mm_flds_4 : List ((Nat × Nat) × (Nat × Nat × Bool × Nat)) := [((8, 132), (7, 6, false, 685)), ((8, 23), (7, 7, false, 686))]
def mm_flds : List ((Nat × Nat) × (Nat × Nat × Bool × Nat)) := mm_flds_0 ++ mm_flds_1 ++ mm_flds_2 ++ mm_flds_3 ++ mm_flds_4
/-- calls: (owner, entry), (0 virtual, 1 static, 2 static by nest, 3 arraycopy; method, kind of the receiver, places of the words) -/
def mm_calls_0 : List ((Nat × Nat) × (Nat × Nat × Nat × Nat × Nat × Nat × Nat)) := [((0, 21), (1, 168, 0, 641, 412, 61, 0)), ((0, 27), (0, 14, 2, 646, 513, 514, 52)), ((0, 33), (1, 45, 0, 647, 381, 60, 0)), ((0, 43), (1, 166, 0, 648, 558, 62, 0)), ((0, 49), (1, 44, 0, 649, 378, 60, 0)), ((0, 52), (1, 41, 0, 650, 651, 60, 0)), ((1, 19), (3, 0, 0, 252, 254, 253, 59)), ((2, 25), (3, 0, 0, 397, 254, 253, 59)), ((2, 31), (1, 33, 0, 285, 286, 60, 0)), ((2, 37), (1, 40, 0, 288, 289, 60, 0)), ((2, 40), (1, 34, 0, 295, 296, 60, 0)), ((2, 43), (0, 8, 2, 485, 350, 351, 52)), ((2, 46), (1, 36, 0, 486, 363, 60, 0)), ((2, 49), (0, 12, 2, 498, 482, 483, 52)), ((2, 52), (1, 168, 0, 516, 412, 61, 0)), ((2, 58), (1, 167, 0, 517, 518, 62, 0))]
def mm_calls_1 : List ((Nat × Nat) × (Nat × Nat × Nat × Nat × Nat × Nat × Nat)) := [((3, 25), (0, 6, 2, 410, 346, 347, 52)), ((3, 31), (1, 168, 0, 411, 412, 61, 0)), ((3, 37), (0, 17, 3, 414, 416, 5, 57)), ((3, 41), (0, 25, 3, 418, 420, 6, 57)), ((3, 45), (2, 91, 0, 426, 307, 51, 0)), ((3, 49), (0, 26, 3, 427, 429, 8, 57)), ((3, 52), (0, 20, 3, 431, 433, 9, 57)), ((3, 56), (0, 24, 3, 442, 444, 11, 57)), ((3, 59), (1, 18, 0, 455, 456, 57, 0)), ((3, 66), (1, 19, 0, 459, 460, 57, 0)), ((3, 70), (1, 35, 0, 458, 293, 60, 0)), ((3, 74), (0, 10, 2, 462, 299, 300, 52)), ((3, 77), (0, 21, 3, 435, 437, 10, 57)), ((3, 81), (1, 29, 0, 448, 310, 60, 0)), ((3, 84), (0, 22, 3, 449, 451, 12, 57)), ((3, 87), (1, 31, 0, 454, 324, 60, 0))]
def mm_calls_2 : List ((Nat × Nat) × (Nat × Nat × Nat × Nat × Nat × Nat × Nat)) := [((3, 90), (1, 23, 0, 439, 440, 57, 0)), ((3, 93), (2, 89, 0, 446, 246, 51, 0)), ((3, 97), (1, 28, 0, 447, 272, 60, 0)), ((3, 101), (1, 30, 0, 453, 317, 60, 0)), ((3, 105), (0, 27, 3, 422, 424, 7, 57)), ((4, 11), (1, 32, 0, 274, 275, 60, 0)), ((4, 15), (1, 33, 0, 291, 286, 60, 0)), ((4, 19), (1, 35, 0, 292, 293, 60, 0)), ((4, 22), (1, 34, 0, 361, 296, 60, 0)), ((4, 25), (1, 36, 0, 362, 363, 60, 0)), ((4, 28), (1, 37, 0, 365, 366, 60, 0)), ((4, 31), (1, 38, 0, 368, 369, 60, 0)), ((4, 34), (1, 39, 0, 371, 372, 60, 0)), ((4, 37), (1, 45, 0, 380, 381, 60, 0)), ((4, 40), (1, 46, 0, 383, 384, 60, 0)), ((5, 30), (1, 168, 0, 589, 412, 61, 0))]
def mm_calls_3 : List ((Nat × Nat) × (Nat × Nat × Nat × Nat × Nat × Nat × Nat)) := [((5, 42), (0, 8, 2, 590, 350, 351, 52)), ((5, 46), (0, 48, 4, 591, 593, 15, 55)), ((5, 53), (1, 164, 0, 603, 604, 62, 0)), ((5, 59), (0, 50, 4, 606, 608, 17, 55)), ((5, 63), (1, 40, 0, 595, 289, 60, 0)), ((5, 68), (1, 36, 0, 596, 363, 60, 0)), ((5, 71), (1, 39, 0, 597, 372, 60, 0)), ((5, 74), (0, 49, 4, 598, 600, 16, 55)), ((5, 78), (1, 34, 0, 602, 296, 60, 0)), ((5, 81), (1, 37, 0, 610, 366, 60, 0)), ((5, 84), (1, 33, 0, 611, 286, 60, 0)), ((5, 93), (1, 165, 0, 624, 625, 62, 0)), ((5, 96), (1, 166, 0, 627, 558, 62, 0)), ((6, 38), (1, 168, 0, 507, 412, 61, 0)), ((6, 44), (0, 53, 5, 508, 510, 13, 54)), ((6, 48), (0, 55, 5, 524, 526, 14, 54))]
def mm_calls_4 : List ((Nat × Nat) × (Nat × Nat × Nat × Nat × Nat × Nat × Nat)) := [((6, 51), (0, 14, 2, 512, 513, 514, 52)), ((6, 55), (1, 54, 0, 520, 521, 54, 0)), ((6, 59), (1, 36, 0, 523, 363, 60, 0)), ((6, 65), (0, 56, 5, 552, 537, 538, 54)), ((6, 68), (1, 166, 0, 557, 558, 62, 0)), ((7, 61), (1, 89, 0, 245, 246, 51, 0)), ((7, 69), (0, 3, 1, 248, 249, 250, 53)), ((7, 73), (0, 5, 2, 255, 256, 257, 52)), ((7, 77), (0, 93, 6, 263, 265, 0, 51)), ((7, 81), (1, 28, 0, 271, 272, 60, 0)), ((7, 87), (0, 95, 6, 277, 279, 2, 51)), ((7, 91), (1, 91, 0, 306, 307, 51, 0)), ((7, 95), (0, 92, 6, 267, 269, 1, 51)), ((7, 98), (1, 29, 0, 309, 310, 60, 0)), ((7, 102), (1, 30, 0, 316, 317, 60, 0)), ((7, 106), (1, 31, 0, 323, 324, 60, 0))]
def mm_calls_5 : List ((Nat × Nat) × (Nat × Nat × Nat × Nat × Nat × Nat × Nat)) := [((7, 113), (0, 11, 2, 330, 331, 332, 52)), ((7, 116), (0, 94, 6, 338, 340, 3, 51)), ((7, 119), (1, 90, 0, 342, 343, 51, 0)), ((7, 122), (0, 6, 2, 345, 346, 347, 52)), ((7, 125), (0, 8, 2, 349, 350, 351, 52)), ((7, 128), (1, 96, 0, 353, 354, 51, 0)), ((7, 131), (1, 40, 0, 357, 289, 60, 0)), ((7, 134), (1, 33, 0, 356, 286, 60, 0)), ((7, 137), (1, 42, 0, 358, 359, 60, 0)), ((7, 140), (1, 97, 0, 374, 375, 51, 0)), ((7, 143), (0, 10, 2, 298, 299, 300, 52)), ((7, 146), (0, 98, 6, 389, 391, 4, 51)), ((7, 150), (0, 7, 2, 393, 394, 395, 52)), ((7, 156), (0, 16, 3, 406, 407, 408, 57)), ((7, 161), (0, 4, 1, 467, 468, 469, 53)), ((7, 165), (1, 36, 0, 479, 363, 60, 0))]
def mm_calls_6 : List ((Nat × Nat) × (Nat × Nat × Nat × Nat × Nat × Nat × Nat)) := [((7, 168), (1, 34, 0, 480, 296, 60, 0)), ((7, 171), (0, 12, 2, 481, 482, 483, 52)), ((7, 174), (1, 37, 0, 487, 366, 60, 0)), ((7, 177), (1, 38, 0, 488, 369, 60, 0)), ((7, 180), (1, 39, 0, 489, 372, 60, 0)), ((7, 183), (0, 13, 2, 494, 495, 496, 52)), ((7, 186), (0, 52, 5, 503, 504, 505, 54)), ((7, 195), (0, 56, 5, 536, 537, 538, 54)), ((7, 198), (0, 57, 5, 548, 549, 550, 54)), ((7, 202), (0, 59, 5, 553, 554, 555, 54)), ((7, 205), (0, 60, 5, 560, 561, 562, 54)), ((7, 208), (0, 58, 5, 564, 565, 566, 54)), ((7, 211), (0, 61, 5, 572, 573, 574, 54)), ((7, 214), (0, 14, 2, 580, 513, 514, 52)), ((7, 218), (0, 47, 4, 585, 586, 587, 55)), ((7, 230), (0, 51, 4, 620, 621, 622, 55))]
def mm_calls_7 : List ((Nat × Nat) × (Nat × Nat × Nat × Nat × Nat × Nat × Nat)) := [((7, 233), (1, 166, 0, 632, 558, 62, 0)), ((7, 238), (0, 0, 0, 637, 638, 639, 56)), ((7, 241), (0, 1, 0, 642, 643, 644, 56)), ((7, 245), (0, 2, 0, 653, 654, 655, 56)), ((7, 248), (0, 15, 3, 661, 662, 663, 57)), ((7, 251), (0, 9, 2, 281, 282, 283, 52)), ((7, 254), (1, 44, 0, 377, 378, 60, 0)), ((7, 257), (1, 43, 0, 386, 387, 60, 0)), ((8, 32), (1, 99, 0, 715, 716, 58, 0)), ((8, 40), (0, 105, 7, 742, 744, 23, 58)), ((8, 43), (0, 106, 7, 746, 748, 24, 58)), ((8, 47), (0, 107, 7, 738, 740, 22, 58)), ((8, 50), (0, 103, 7, 718, 720, 18, 58)), ((8, 53), (0, 108, 7, 750, 752, 25, 58)), ((8, 57), (0, 100, 7, 730, 732, 20, 58)), ((8, 61), (0, 110, 7, 726, 728, 19, 58))]
def mm_calls_8 : List ((Nat × Nat) × (Nat × Nat × Nat × Nat × Nat × Nat × Nat)) := [((8, 65), (0, 109, 7, 734, 736, 21, 58)), ((8, 68), (1, 101, 0, 758, 759, 58, 0)), ((8, 71), (0, 102, 7, 773, 775, 26, 58)), ((8, 74), (0, 104, 7, 785, 787, 28, 58)), ((8, 78), (1, 117, 0, 789, 790, 58, 0)), ((8, 81), (1, 118, 0, 792, 793, 58, 0)), ((8, 84), (0, 119, 7, 781, 783, 27, 58)), ((8, 91), (0, 126, 7, 823, 825, 30, 58)), ((8, 94), (0, 128, 7, 835, 837, 32, 58)), ((8, 97), (0, 127, 7, 819, 821, 29, 58)), ((8, 100), (0, 129, 7, 831, 833, 31, 58)), ((8, 103), (0, 130, 7, 847, 849, 34, 58)), ((8, 106), (0, 131, 7, 843, 845, 33, 58)), ((8, 109), (0, 136, 7, 863, 856, 857, 58)), ((8, 112), (0, 139, 7, 872, 874, 35, 58)), ((8, 115), (1, 140, 0, 880, 881, 58, 0))]
def mm_calls_9 : List ((Nat × Nat) × (Nat × Nat × Nat × Nat × Nat × Nat × Nat)) := [((8, 119), (0, 141, 7, 883, 885, 37, 58)), ((8, 122), (0, 142, 7, 876, 878, 36, 58)), ((8, 125), (1, 145, 0, 895, 896, 58, 0)), ((8, 128), (0, 147, 7, 902, 904, 38, 58)), ((8, 135), (0, 151, 7, 934, 936, 43, 58)), ((8, 139), (0, 153, 7, 930, 932, 42, 58)), ((8, 142), (0, 154, 7, 946, 948, 46, 58)), ((8, 145), (0, 155, 7, 950, 952, 47, 58)), ((8, 149), (0, 152, 7, 938, 940, 44, 58)), ((8, 152), (0, 156, 7, 942, 944, 45, 58)), ((8, 155), (0, 157, 7, 954, 956, 48, 58)), ((8, 158), (0, 158, 7, 926, 928, 41, 58)), ((8, 162), (0, 160, 7, 918, 920, 39, 58)), ((8, 165), (0, 159, 7, 922, 924, 40, 58)), ((8, 168), (0, 161, 7, 958, 960, 49, 58)), ((8, 171), (0, 162, 7, 966, 915, 916, 58))]
def mm_calls : List ((Nat × Nat) × (Nat × Nat × Nat × Nat × Nat × Nat × Nat)) := mm_calls_0 ++ mm_calls_1 ++ mm_calls_2 ++ mm_calls_3 ++ mm_calls_4 ++ mm_calls_5 ++ mm_calls_6 ++ mm_calls_7 ++ mm_calls_8 ++ mm_calls_9
/-- statics: (owner, entry), (the first row?, the word's place) -/
def mm_stats_0 : List ((Nat × Nat) × (Bool × Nat)) := [((5, 87), (true, 612)), ((5, 90), (false, 614))]
def mm_stats : List ((Nat × Nat) × (Bool × Nat)) := mm_stats_0
def mm_fld (c i : Nat) : Option ((Nat × Nat) × (Nat × Nat × Bool × Nat)) := mm_flds.find? (fun e => Nat.beq e.1.1 c && Nat.beq e.1.2 i)
def mm_cll (c i : Nat) : Option ((Nat × Nat) × (Nat × Nat × Nat × Nat × Nat × Nat × Nat)) := mm_calls.find? (fun e => Nat.beq e.1.1 c && Nat.beq e.1.2 i)
def mm_stt (c i : Nat) : Option ((Nat × Nat) × (Bool × Nat)) := mm_stats.find? (fun e => Nat.beq e.1.1 c && Nat.beq e.1.2 i)
-- steps
def mm_nx (pc : Nat) (lo : mm_L) (st : List mm_V) (M : mm_M) : mm_R := some (.inl (pc, lo, st, M))
def mm_jmp (pc : Nat) (off : Int) (lo : mm_L) (st : List mm_V) (M : mm_M) : mm_R := if 0 ≤ (pc : Int) + off then mm_nx ((pc : Int) + off).toNat lo st M else none
def mm_bin (f : Int32 → Int32 → Int32) (pc : Nat) (lo : mm_L) (st : List mm_V) (M : mm_M) : mm_R := match st with
  | .inl y :: .inl x :: r => mm_nx (pc + 1) lo (.inl (f x y) :: r) M
  | _ => none
def mm_un (f : Int32 → Int32) (pc : Nat) (lo : mm_L) (st : List mm_V) (M : mm_M) : mm_R := match st with
  | .inl x :: r => mm_nx (pc + 1) lo (.inl (f x) :: r) M
  | _ => none
def mm_ldi (k pc' : Nat) (lo : mm_L) (st : List mm_V) (M : mm_M) : mm_R := match lo[k]? with
  | some (some (.inl x)) => mm_nx pc' lo (.inl x :: st) M
  | _ => none
def mm_lda (k pc' : Nat) (lo : mm_L) (st : List mm_V) (M : mm_M) : mm_R := match lo[k]? with
  | some (some (.inr x)) => mm_nx pc' lo (.inr x :: st) M
  | _ => none
def mm_sti (k pc' : Nat) (lo : mm_L) (st : List mm_V) (M : mm_M) : mm_R := match st with
  | .inl x :: r => if k < lo.length then mm_nx pc' (lo.set k (some (.inl x))) r M else none
  | _ => none
def mm_inc (k : Nat) (n : Int) (pc' : Nat) (lo : mm_L) (st : List mm_V) (M : mm_M) : mm_R := match lo[k]? with
  | some (some (.inl x)) => mm_nx pc' (lo.set k (some (.inl (x + Int32.ofInt n)))) st M
  | _ => none
def mm_if (c : ClassFile.Cond) (x y : Int32) : Bool := match c with
  | .eq => decide (x = y) | .ne => decide (¬ x = y) | .lt => decide (x < y) | .ge => decide (y ≤ x) | .gt => decide (y < x) | .le => decide (x ≤ y)
def mm_br (b : Bool) (pc : Nat) (off : Int) (lo : mm_L) (st : List mm_V) (M : mm_M) : mm_R := if 0 ≤ (pc : Int) + off then mm_nx (if b = true then ((pc : Int) + off).toNat else pc + 3) lo st M else none
def mm_if1 (c : ClassFile.Cond) (pc : Nat) (off : Int) (lo : mm_L) (st : List mm_V) (M : mm_M) : mm_R := match st with
  | .inl x :: r => mm_br (mm_if c x 0) pc off lo r M
  | _ => none
def mm_if2 (c : ClassFile.Cond) (pc : Nat) (off : Int) (lo : mm_L) (st : List mm_V) (M : mm_M) : mm_R := match st with
  | .inl y :: .inl x :: r => mm_br (mm_if c x y) pc off lo r M
  | _ => none
def mm_tsw (d lo' hi : Int) (offs : Array Int) (pc : Nat) (lo : mm_L) (st : List mm_V) (M : mm_M) : mm_R := match st with
  | .inl x :: r => if x.toInt < lo' ∨ hi < x.toInt then mm_jmp pc d lo r M else match offs[(x.toInt - lo').toNat]? with
    | some off => mm_jmp pc off lo r M
    | none => none
  | _ => none
def mm_lsw (d : Int) (ps : Array (Int × Int)) (pc : Nat) (lo : mm_L) (st : List mm_V) (M : mm_M) : mm_R := match st with
  | .inl x :: r => if (ps.toList.zip (ps.toList.drop 1)).all (fun (a, next) => a.1 < next.1) = true then mm_jmp pc (Op.lookupswitch.offset ps.toList d x.toInt) lo r M else none
  | _ => none
def mm_get (e : (Nat × Nat) × (Nat × Nat × Bool × Nat)) (pc : Nat) (lo : mm_L) (st : List mm_V) (M : mm_M) : mm_R := match st with
  | .inr o :: r => match mm_shape[o]? with
    | some (.inl (ci, fs)) => if ci = e.2.1 then match fs[e.2.2.1]? with
        | some none => mm_nx (pc + 3) lo (.inl (M o e.2.2.1) :: r) M
        | some (some q) => mm_nx (pc + 3) lo (.inr q :: r) M
        | none => none
      else none
    | _ => none
  | _ => none
def mm_put (e : (Nat × Nat) × (Nat × Nat × Bool × Nat)) (pc : Nat) (lo : mm_L) (st : List mm_V) (M : mm_M) : mm_R := match st with
  | .inl v :: .inr o :: r => match mm_shape[o]? with
    | some (.inl (ci, fs)) => if ci = e.2.1 then match fs[e.2.2.1]? with
        | some none => mm_nx (pc + 3) lo r (mm_up M o e.2.2.1 v)
        | _ => none
      else none
    | _ => none
  | _ => none
def mm_ald (ch : Bool) (pc : Nat) (lo : mm_L) (st : List mm_V) (M : mm_M) : mm_R := match st with
  | .inl i :: .inr o :: r => match mm_shape[o]? with
    | some (.inr (c, n)) => if c = ch ∧ ¬ (i < 0 ∨ n ≤ i.toNatClampNeg) then mm_nx (pc + 1) lo (.inl (M o i.toNatClampNeg) :: r) M else none
    | some (.inl _) => none
    | none => if ch = false ∧ (o = 40 ∨ o = 41) ∧ ¬ (i < 0 ∨ 8 ≤ i.toNatClampNeg) then mm_nx (pc + 1) lo (.inl ((if o = 40 then mm_ux else mm_uy) i.toNatClampNeg) :: r) M else none
  | _ => none
def mm_ast (ch : Bool) (pc : Nat) (lo : mm_L) (st : List mm_V) (M : mm_M) : mm_R := match st with
  | .inl v :: .inl i :: .inr o :: r => match mm_shape[o]? with
    | some (.inr (c, n)) => if c = ch ∧ ¬ (i < 0 ∨ n ≤ i.toNatClampNeg) then mm_nx (pc + 1) lo r (mm_up M o i.toNatClampNeg (if ch = true then vp_nar .char v else v)) else none
    | _ => none
  | _ => none
def mm_len (pc : Nat) (lo : mm_L) (st : List mm_V) (M : mm_M) : mm_R := match st with
  | .inr o :: r => match mm_shape[o]? with
    | some (.inr (_, n)) => mm_nx (pc + 1) lo (.inl (Int32.ofNat n) :: r) M
    | _ => none
  | _ => none
def mm_gst (e : (Nat × Nat) × (Bool × Nat)) (pc : Nat) (lo : mm_L) (st : List mm_V) (M : mm_M) : mm_R := mm_nx (pc + 3) lo (.inr (if e.2.1 = true then 40 else 41) :: st) M
def mm_roomy (j k na : Nat) (r : List mm_V) : Bool := Nat.ble (mm_fr k + 1) (mm_fr j) && Nat.ble (8 + (mm_maxL k + 11) + mm_lo k) (mm_lo j) && Nat.ble r.length 8 && Nat.ble na (mm_maxL k)
def mm_cpy (j pc : Nat) (lo : mm_L) (st : List mm_V) (M : mm_M) : mm_R := match st with
  | .inl n :: .inl dp :: .inr a :: .inl sp :: .inr b :: r => match mm_shape[a]?, mm_shape[b]? with
    | some (.inr (false, na)), some (.inr (false, nb)) =>
      if (¬ sp < 0 ∧ ¬ dp < 0 ∧ ¬ n < 0 ∧ sp.toNatClampNeg + n.toNatClampNeg ≤ nb ∧ dp.toNatClampNeg + n.toNatClampNeg ≤ na) ∧ 1 ≤ mm_fr j ∧ 26 ≤ mm_lo j ∧ r.length ≤ 8 then mm_nx (pc + 3) lo r (mm_set M a (va_cpy (M b) (M a) sp.toNatClampNeg dp.toNatClampNeg n.toNatClampNeg)) else none
    | _, _ => none
  | _ => none
def mm_inv (j : Nat) (e : (Nat × Nat) × (Nat × Nat × Nat × Nat × Nat × Nat × Nat)) (st : List mm_V) : mm_R :=
  match st.drop (mm_np e.2.2.1) with
  | .inr o :: r => match mm_shape[o]? with
    | some (.inl (ci, _)) => if e.2.1 = 0 ∧ ci = e.2.2.2.1 ∧ mm_roomy j e.2.2.1 (mm_np e.2.2.1 + 1) r = true then some (.inr (.inl (e.2.2.1, .inr o :: (st.take (mm_np e.2.2.1)).reverse, r))) else none
    | _ => none
  | _ => none
def mm_ins (j : Nat) (e : (Nat × Nat) × (Nat × Nat × Nat × Nat × Nat × Nat × Nat)) (pc : Nat) (lo : mm_L) (st : List mm_V) (M : mm_M) : mm_R :=
  if e.2.1 = 3 then mm_cpy j pc lo st M
  else if (e.2.1 = 1 ∨ e.2.1 = 2) ∧ mm_np e.2.2.1 ≤ st.length ∧ mm_roomy j e.2.2.1 (mm_np e.2.2.1) (st.drop (mm_np e.2.2.1)) = true then some (.inr (.inl (e.2.2.1, (st.take (mm_np e.2.2.1)).reverse, st.drop (mm_np e.2.2.1)))) else none
def mm_rti (j : Nat) (st : List mm_V) : mm_R := match st with
  | [.inl v] => if mm_ret j = some .int ∨ (mm_ret j = some .boolean ∧ (v = 0 ∨ v = 1)) then some (.inr (.inr (some v))) else none
  | _ => none
def mm_rtv (j : Nat) (st : List mm_V) : mm_R := match st with
  | [] => if mm_ret j = none then some (.inr (.inr none)) else none
  | _ => none
/-- one instruction -/
def mm_do (j pc : Nat) (i : Instr) (n : Nat) (lo : mm_L) (st : List mm_V) (M : mm_M) : mm_R := match i with
  | .iconst v => if n = 1 then mm_nx (pc + 1) lo (.inl (Int32.ofInt v) :: st) M else none
  | .bipush v => if n = 2 then mm_nx (pc + 2) lo (.inl (Int8.ofInt v).toInt32 :: st) M else none
  | .sipush v => if n = 3 then mm_nx (pc + 3) lo (.inl (Int16.ofInt v).toInt32 :: st) M else none
  | .iload_n k => if n = 1 then mm_ldi k.val (pc + 1) lo st M else none
  | .iload k => if n = 2 then mm_ldi k (pc + 2) lo st M else none
  | .aload_n k => if n = 1 then mm_lda k.val (pc + 1) lo st M else none
  | .aload k => if n = 2 then mm_lda k (pc + 2) lo st M else none
  | .istore_n k => if n = 1 then mm_sti k.val (pc + 1) lo st M else none
  | .istore k => if n = 2 then mm_sti k (pc + 2) lo st M else none
  | .iinc k v => if n = 3 then mm_inc k v (pc + 3) lo st M else none
  | .iadd => if n = 1 then mm_bin (fun x y => x + y) pc lo st M else none
  | .isub => if n = 1 then mm_bin (fun x y => x - y) pc lo st M else none
  | .imul => if n = 1 then mm_bin (fun x y => x * y) pc lo st M else none
  | .iand => if n = 1 then mm_bin (fun x y => x &&& y) pc lo st M else none
  | .ior => if n = 1 then mm_bin (fun x y => x ||| y) pc lo st M else none
  | .ixor => if n = 1 then mm_bin (fun x y => x ^^^ y) pc lo st M else none
  | .ishl => if n = 1 then mm_bin (fun x y => x <<< (y &&& 31)) pc lo st M else none
  | .ishr => if n = 1 then mm_bin (fun x y => x >>> (y &&& 31)) pc lo st M else none
  | .irem => if n = 1 ∧ st.head? ≠ some (.inl 0) then mm_bin (fun x y => x - x / y * y) pc lo st M else none
  | .ineg => if n = 1 then mm_un (fun x => -x) pc lo st M else none
  | .i2c => if n = 1 then mm_un (fun x => (x.toUInt32 % 65536).toInt32) pc lo st M else none
  | .dup => if n = 1 then (match st with | v :: r => mm_nx (pc + 1) lo (v :: v :: r) M | _ => none) else none
  | .dup2 => if n = 1 then (match st with | v :: w :: r => mm_nx (pc + 1) lo (v :: w :: v :: w :: r) M | _ => none) else none
  | .pop => if n = 1 then (match st with | _ :: r => mm_nx (pc + 1) lo r M | _ => none) else none
  | .goto off => if n = 3 then mm_jmp pc off lo st M else none
  | .ifCond c off => if n = 3 then mm_if1 c pc off lo st M else none
  | .if_icmp c off => if n = 3 then mm_if2 c pc off lo st M else none
  | .tableswitch d l h offs => mm_tsw d l h offs pc lo st M
  | .lookupswitch d ps => mm_lsw d ps pc lo st M
  | .getfield k => if n = 3 then (match mm_fld (mm_cno j) k with | some e => mm_get e pc lo st M | none => none) else none
  | .putfield k => if n = 3 then (match mm_fld (mm_cno j) k with | some e => mm_put e pc lo st M | none => none) else none
  | .getstatic k => if n = 3 then (match mm_stt (mm_cno j) k with | some e => mm_gst e pc lo st M | none => none) else none
  | .iaload => if n = 1 then mm_ald false pc lo st M else none
  | .caload => if n = 1 then mm_ald true pc lo st M else none
  | .iastore => if n = 1 then mm_ast false pc lo st M else none
  | .castore => if n = 1 then mm_ast true pc lo st M else none
  | .arraylength => if n = 1 then mm_len pc lo st M else none
  | .invokevirtual k => if n = 3 then (match mm_cll (mm_cno j) k with | some e => mm_inv j e st | none => none) else none
  | .invokestatic k => if n = 3 then (match mm_cll (mm_cno j) k with | some e => mm_ins j e pc lo st M | none => none) else none
  | .ireturn => if n = 1 then mm_rti j st else none
  | .return_ => if n = 1 then mm_rtv j st else none
  | _ => none
def mm_step (j pc : Nat) (lo : mm_L) (st : List mm_V) (M : mm_M) : mm_R := match decode (mm_code j) pc with
  | .ok q => mm_do j pc q.1 q.2 lo st M
  | .error _ => none
def mm_ent (k : Nat) (as : List mm_V) : mm_L := as.map some ++ List.replicate (mm_maxL k - as.length) none
def mm_rv (r : Option Int32) : List mm_V := match r with | some v => [.inl v] | none => []
def mm_run : Nat → Nat → Nat → mm_L → List mm_V → mm_M → Option (Option Int32 × mm_M)
  | 0, _, _, _, _, _ => none
  | n + 1, j, pc, lo, st, M => match mm_step j pc lo st M with
    | some (.inl q) => mm_run n j q.1 q.2.1 q.2.2.1 q.2.2.2
    | some (.inr (.inl q)) => match mm_run n q.1 0 (mm_ent q.1 q.2.1) [] M with
      | some a => mm_run n j (pc + 3) lo (mm_rv a.1 ++ q.2.2) a.2
      | none => none
    | some (.inr (.inr r)) => some (r, M)
    | none => none
end
section
/-! WHAT THE TABLES SAY, decided once -/
def mm_GW : List Cond := lw_tbl.filter goodWord
theorem mm_gw_of {w : Cond} {i : Nat} (h1 : lw_tbl[i]? = some w) (h2 : goodWord w = true) : w ∈ mm_GW := List.mem_filter.mpr ⟨List.mem_of_getElem? h1, h2⟩
theorem mm_gw_lw {w : Cond} (h : w ∈ mm_GW) : w ∈ lw_tbl := (List.mem_filter.mp h).1
theorem mm_gw_good {w : Cond} (h : w ∈ mm_GW) : goodWord w = true := (List.mem_filter.mp h).2
def mm_w (i : Nat) (w : Cond) : Bool := decide (lw_tbl[i]? = some w) && goodWord w
theorem mm_w_in {i : Nat} {w : Cond} (h : mm_w i w = true) : w ∈ mm_GW := by
  simp only [mm_w, Bool.and_eq_true, decide_eq_true_eq] at h
  exact mm_gw_of h.1 h.2
def mm_hOk (y : MethodName) (n : Nat) : Bool := decide (y.cls ≠ "java/lang/invoke/MethodHandle" ∧ y.cls ≠ "java/lang/invoke/VarHandle" ∧ (parseMethodDescriptor y.desc).map (fun d => d.parameters.length) = some n)
def mm_tOk (q : mm_T) : Bool := plainFor q.2.1 && mm_w q.2.2.2.2.2.2.2.2.1 (.code q.2.1 q.1 q.2.2.1 q.2.2.2.1) && mm_w q.2.2.2.2.2.2.2.2.2 (.initialized q.2.1.cls) && decide (q.2.1.cls = mm_cn q.2.2.2.2.1) && mm_hOk q.2.1 q.2.2.2.2.2.1
def mm_fOk (e : (Nat × Nat) × (Nat × Nat × Bool × Nat)) : Bool := match vwCl[e.2.1]? with
  | some q => decide (e.2.2.1 < q.2.2) && (match e.2.2.2.1 with
    | true => decide (lw_tbl[e.2.2.2.2]? = some (.fieldLinkNest (mm_cn e.1.1) e.1.2 (q.2.1 e.2.2.1).1 (q.2.1 e.2.2.1).2.1 (q.2.1 e.2.2.1).2.2.1 "LimbScore"))
    | false => mm_w e.2.2.2.2 (.fieldLink (mm_cn e.1.1) e.1.2 (q.2.1 e.2.2.1).1 (q.2.1 e.2.2.1).2.1 (q.2.1 e.2.2.1).2.2.1))
  | none => false
def mm_cOk (e : (Nat × Nat) × (Nat × Nat × Nat × Nat × Nat × Nat × Nat)) : Bool := match e with
  | ((c, i), (kd, k, ci, i1, i2, i3, i4)) => match kd with
    | 0 => decide (k < mm_tab.length) && mm_w i1 (.methodLink (mm_cn c) i (mm_y k)) && mm_w i2 (.instanceMethod (mm_y k)) && mm_w i3 (.selects (mm_y k).cls (mm_y k) (mm_y k)) && mm_w i4 (.initialized (mm_y k).cls) && decide ((vwCl[ci]?).map (fun q => q.1) = some (mm_y k).cls)
    | 1 => decide (k < mm_tab.length) && mm_w i1 (.methodLink (mm_cn c) i (mm_y k)) && mm_w i2 (.static (mm_y k)) && mm_w i3 (.initialized (mm_y k).cls)
    | 2 => decide (k < mm_tab.length) && decide (lw_tbl[i1]? = some (.methodLinkNest (mm_cn c) i (mm_y k) "LimbScore")) && mm_w i2 (.static (mm_y k)) && mm_w i3 (.initialized (mm_y k).cls)
    | _ => mm_w i1 (.methodLink (mm_cn c) i arraycopyName) && mm_w i2 (.native arraycopyName) && mm_w i3 (.static arraycopyName) && mm_w i4 (.initialized "java/lang/System")
def mm_sOk (e : (Nat × Nat) × (Bool × Nat)) : Bool := mm_w e.2.2 (.fieldLink (mm_cn e.1.1) e.1.2 "LimbScore$Walk" (if e.2.1 = true then "UNIT_X" else "UNIT_Y") "[I")
def mm_eOk (e : mm_E) : Bool := match e with
  | .inl (ci, fs) => match vwCl[ci]? with
    | some q => decide (fs.length = q.2.2) && (List.range q.2.2).all (fun k => if fs[k]? = some none then decide (parseFieldDescriptor (q.2.1 k).2.2.1 = some .int) && !(q.2.1 k).2.2.2 else true)
    | none => false
  | .inr _ => true
def mm_kOk (q : vw_C) : Bool := (u_ws q.1 q.2.1 q.2.2).all (fun w => decide (w ∈ lw_tbl) && goodWord w) && (List.range q.2.2).all (fun k => (parseFieldDescriptor (q.2.1 k).2.2.1).isSome) && decide (∀ a, a < q.2.2 → ∀ b, b < q.2.2 → a ≠ b → (q.2.1 a).2.1 ≠ (q.2.1 b).2.1)
set_option maxRecDepth 100000 in
theorem mm_tab_0_ok : mm_tab_0.all mm_tOk = true := by decide +kernel
set_option maxRecDepth 100000 in
theorem mm_tab_1_ok : mm_tab_1.all mm_tOk = true := by decide +kernel
set_option maxRecDepth 100000 in
theorem mm_tab_2_ok : mm_tab_2.all mm_tOk = true := by decide +kernel
set_option maxRecDepth 100000 in
theorem mm_tab_3_ok : mm_tab_3.all mm_tOk = true := by decide +kernel
set_option maxRecDepth 100000 in
theorem mm_tab_4_ok : mm_tab_4.all mm_tOk = true := by decide +kernel
set_option maxRecDepth 100000 in
theorem mm_tab_5_ok : mm_tab_5.all mm_tOk = true := by decide +kernel
set_option maxRecDepth 100000 in
theorem mm_tab_6_ok : mm_tab_6.all mm_tOk = true := by decide +kernel
set_option maxRecDepth 100000 in
theorem mm_tab_7_ok : mm_tab_7.all mm_tOk = true := by decide +kernel
set_option maxRecDepth 100000 in
theorem mm_tab_8_ok : mm_tab_8.all mm_tOk = true := by decide +kernel
set_option maxRecDepth 100000 in
theorem mm_tab_9_ok : mm_tab_9.all mm_tOk = true := by decide +kernel
set_option maxRecDepth 100000 in
theorem mm_tab_10_ok : mm_tab_10.all mm_tOk = true := by decide +kernel
set_option maxRecDepth 100000 in
theorem mm_tab_11_ok : mm_tab_11.all mm_tOk = true := by decide +kernel
set_option maxRecDepth 100000 in
theorem mm_tab_12_ok : mm_tab_12.all mm_tOk = true := by decide +kernel
set_option maxRecDepth 100000 in
theorem mm_tab_13_ok : mm_tab_13.all mm_tOk = true := by decide +kernel
set_option maxRecDepth 100000 in
theorem mm_tab_14_ok : mm_tab_14.all mm_tOk = true := by decide +kernel
set_option maxRecDepth 100000 in
theorem mm_tab_15_ok : mm_tab_15.all mm_tOk = true := by decide +kernel
set_option maxRecDepth 100000 in
theorem mm_tab_16_ok : mm_tab_16.all mm_tOk = true := by decide +kernel
set_option maxRecDepth 100000 in
theorem mm_tab_17_ok : mm_tab_17.all mm_tOk = true := by decide +kernel
set_option maxRecDepth 100000 in
theorem mm_tab_18_ok : mm_tab_18.all mm_tOk = true := by decide +kernel
set_option maxRecDepth 100000 in
theorem mm_tab_19_ok : mm_tab_19.all mm_tOk = true := by decide +kernel
set_option maxRecDepth 100000 in
theorem mm_tab_20_ok : mm_tab_20.all mm_tOk = true := by decide +kernel
set_option maxRecDepth 100000 in
theorem mm_tab_21_ok : mm_tab_21.all mm_tOk = true := by decide +kernel
theorem mm_tab_ok : mm_tab.all mm_tOk = true := by
  unfold mm_tab
  simp only [List.all_append, Bool.and_eq_true]
  exact ⟨⟨⟨⟨⟨⟨⟨⟨⟨⟨⟨⟨⟨⟨⟨⟨⟨⟨⟨⟨⟨mm_tab_0_ok, mm_tab_1_ok⟩, mm_tab_2_ok⟩, mm_tab_3_ok⟩, mm_tab_4_ok⟩, mm_tab_5_ok⟩, mm_tab_6_ok⟩, mm_tab_7_ok⟩, mm_tab_8_ok⟩, mm_tab_9_ok⟩, mm_tab_10_ok⟩, mm_tab_11_ok⟩, mm_tab_12_ok⟩, mm_tab_13_ok⟩, mm_tab_14_ok⟩, mm_tab_15_ok⟩, mm_tab_16_ok⟩, mm_tab_17_ok⟩, mm_tab_18_ok⟩, mm_tab_19_ok⟩, mm_tab_20_ok⟩, mm_tab_21_ok⟩
set_option maxRecDepth 100000 in
theorem mm_flds_0_ok : mm_flds_0.all mm_fOk = true := by decide +kernel
set_option maxRecDepth 100000 in
theorem mm_flds_1_ok : mm_flds_1.all mm_fOk = true := by decide +kernel
set_option maxRecDepth 100000 in
theorem mm_flds_2_ok : mm_flds_2.all mm_fOk = true := by decide +kernel
set_option maxRecDepth 100000 in
theorem mm_flds_3_ok : mm_flds_3.all mm_fOk = true := by decide +kernel
set_option maxRecDepth 100000 in
theorem mm_flds_4_ok : mm_flds_4.all mm_fOk = true := by decide +kernel
theorem mm_flds_ok : mm_flds.all mm_fOk = true := by
  unfold mm_flds
  simp only [List.all_append, Bool.and_eq_true]
  exact ⟨⟨⟨⟨mm_flds_0_ok, mm_flds_1_ok⟩, mm_flds_2_ok⟩, mm_flds_3_ok⟩, mm_flds_4_ok⟩
set_option maxRecDepth 100000 in
theorem mm_calls_0_ok : mm_calls_0.all mm_cOk = true := by decide +kernel
set_option maxRecDepth 100000 in
theorem mm_calls_1_ok : mm_calls_1.all mm_cOk = true := by decide +kernel
set_option maxRecDepth 100000 in
theorem mm_calls_2_ok : mm_calls_2.all mm_cOk = true := by decide +kernel
set_option maxRecDepth 100000 in
theorem mm_calls_3_ok : mm_calls_3.all mm_cOk = true := by decide +kernel
set_option maxRecDepth 100000 in
theorem mm_calls_4_ok : mm_calls_4.all mm_cOk = true := by decide +kernel
set_option maxRecDepth 100000 in
theorem mm_calls_5_ok : mm_calls_5.all mm_cOk = true := by decide +kernel
set_option maxRecDepth 100000 in
theorem mm_calls_6_ok : mm_calls_6.all mm_cOk = true := by decide +kernel
set_option maxRecDepth 100000 in
theorem mm_calls_7_ok : mm_calls_7.all mm_cOk = true := by decide +kernel
set_option maxRecDepth 100000 in
theorem mm_calls_8_ok : mm_calls_8.all mm_cOk = true := by decide +kernel
set_option maxRecDepth 100000 in
theorem mm_calls_9_ok : mm_calls_9.all mm_cOk = true := by decide +kernel
theorem mm_calls_ok : mm_calls.all mm_cOk = true := by
  unfold mm_calls
  simp only [List.all_append, Bool.and_eq_true]
  exact ⟨⟨⟨⟨⟨⟨⟨⟨⟨mm_calls_0_ok, mm_calls_1_ok⟩, mm_calls_2_ok⟩, mm_calls_3_ok⟩, mm_calls_4_ok⟩, mm_calls_5_ok⟩, mm_calls_6_ok⟩, mm_calls_7_ok⟩, mm_calls_8_ok⟩, mm_calls_9_ok⟩
set_option maxRecDepth 100000 in
theorem mm_stats_0_ok : mm_stats_0.all mm_sOk = true := by decide +kernel
theorem mm_stats_ok : mm_stats.all mm_sOk = true := mm_stats_0_ok
set_option maxRecDepth 100000 in
theorem mm_shape_ok : mm_shape.all mm_eOk = true := by decide +kernel
set_option maxRecDepth 100000 in
theorem mm_kinds_ok : (vwCl : List vw_C).all mm_kOk = true := by decide +kernel
theorem mm_good (ws : List Cond) (h : ∀ w ∈ ws, w ∈ mm_GW) : GoodIn mm_GW ws := fun w hw => ⟨h w hw, good_of_word (mm_gw_good (h w hw))⟩
end
section
/-! THE WORLD OF THE SMALL MACHINE: its objects at addresses ad 0, ad 1 .. -/
def mm_tv (ad : Nat → Nat) (v : mm_V) : Value := match v with
  | .inl x => .int x
  | .inr o => .ref (ad o)
def mm_fv (ad : Nat → Nat) (r : Nat → Int32) (k : Nat) (f : Option Nat) : Value := match f with
  | none => .int (r k)
  | some q => .ref (ad q)
def mm_ce (ad : Nat → Nat) (cI cC : ClassId) (M : mm_M) (o : Nat) (e : mm_E) : va_E := match e with
  | .inl q => .inr (q.1, q.2.mapIdx (mm_fv ad (M o)))
  | .inr q => .inl (if q.1 = true then cC else cI, q.2, .inl (M o))
def mm_world (ad : Nat → Nat) (cI cC : ClassId) (M : mm_M) : va_W := mm_shape.mapIdx (fun o e => (ad o, mm_ce ad cI cC M o e))
def mm_tys (cI cC : ClassId) : List (ClassId × FieldType) := [(cI, .int), (cC, .char)]
theorem mm_tv_cat (ad : Nat → Nat) (v : mm_V) : (mm_tv ad v).category = 1 := by cases v <;> rfl
theorem mm_sum (ad : Nat → Nat) (st : List mm_V) : ((st.map (mm_tv ad)).map (fun v => v.category)).sum = st.length := by
  induction st with
  | nil => rfl
  | cons v r ih => simp [mm_tv_cat] at ih ⊢; omega
theorem mm_get_w {ad : Nat → Nat} {cI cC : ClassId} {M : mm_M} {o : Nat} {e : mm_E} (h : mm_shape[o]? = some e) : (mm_world ad cI cC M)[o]? = some (ad o, mm_ce ad cI cC M o e) := by
  simp [mm_world, List.getElem?_mapIdx, h]
theorem mm_addr {ad : Nat → Nat} {cI cC : ClassId} {M M' : mm_M} {k : Nat} {q : Nat × va_E} (h : (mm_world ad cI cC M)[k]? = some q) : ∃ q', (mm_world ad cI cC M')[k]? = some q' ∧ q'.1 = q.1 := by
  simp only [mm_world, List.getElem?_mapIdx, Option.map_eq_some_iff] at h ⊢
  obtain ⟨e, h1, rfl⟩ := h
  exact ⟨_, ⟨e, h1, rfl⟩, rfl⟩
theorem mm_D {ad : Nat → Nat} {cI cC : ClassId} {M M' : mm_M} {A : Nat → Prop} (h : va_D A (mm_world ad cI cC M)) : va_D A (mm_world ad cI cC M') := by
  refine ⟨fun i j p q hi hj hpq => ?_, fun k q hk => ?_⟩
  · obtain ⟨p', h1, e1⟩ := mm_addr (M' := M) hi
    obtain ⟨q', h2, e2⟩ := mm_addr (M' := M) hj
    exact h.1 i j p' q' h1 h2 (by rw [e1, e2, hpq])
  · obtain ⟨q', h1, e1⟩ := mm_addr (M' := M) hk
    rw [← e1]
    exact h.2 k q' h1
theorem mm_A {ad : Nat → Nat} {cI cC : ClassId} {M M' : mm_M} {sz sz' : Nat} (hs : sz ≤ sz') : ∀ q, va_A (mm_world ad cI cC M') sz' q → va_A (mm_world ad cI cC M) sz q := by
  intro q h
  rcases h with ⟨k, e, h⟩ | h
  · obtain ⟨q', h1, e1⟩ := mm_addr (M' := M) h
    exact Or.inl ⟨k, q'.2, h1.trans (congrArg some (Prod.ext e1 rfl))⟩
  · exact Or.inr (by omega)
theorem mm_set_w {ad : Nat → Nat} {cI cC : ClassId} {M : mm_M} {o : Nat} {ch : Bool} {n : Nat} (h : mm_shape[o]? = some (.inr (ch, n))) (f : Nat → Int32) :
    (mm_world ad cI cC M).set o (ad o, .inl (if ch = true then cC else cI, n, .inl f)) = mm_world ad cI cC (mm_set M o f) := by
  apply List.ext_getElem?
  intro i
  rw [List.getElem?_set]
  have hlt : o < (mm_world ad cI cC M).length := by
    simp only [mm_world, List.length_mapIdx]
    exact (List.getElem?_eq_some_iff.mp h).1
  by_cases hi : o = i
  · subst hi
    rw [if_pos rfl, if_pos hlt, mm_get_w h]
    simp [mm_ce, mm_set]
  · rw [if_neg hi]
    simp only [mm_world, List.getElem?_mapIdx]
    cases hs : mm_shape[i]? with
    | none => rfl
    | some e => cases e <;> simp [mm_ce, mm_set, Ne.symm hi]
theorem mm_put_w {ad : Nat → Nat} {cI cC : ClassId} {M : mm_M} {o ci k : Nat} {fs : List (Option Nat)} (h : mm_shape[o]? = some (.inl (ci, fs))) (hk : fs[k]? = some none) (v : Int32) :
    (mm_world ad cI cC M).set o (ad o, .inr (ci, (fs.mapIdx (mm_fv ad (M o))).set k (.int v))) = mm_world ad cI cC (mm_up M o k v) := by
  apply List.ext_getElem?
  intro i
  rw [List.getElem?_set]
  have hlt : o < (mm_world ad cI cC M).length := by
    simp only [mm_world, List.length_mapIdx]
    exact (List.getElem?_eq_some_iff.mp h).1
  by_cases hi : o = i
  · subst hi
    rw [if_pos rfl, if_pos hlt, mm_get_w h]
    simp only [mm_ce]
    refine congrArg (fun l => some (ad o, (Sum.inr (ci, l) : va_E))) ?_
    apply List.ext_getElem?
    intro j
    rw [List.getElem?_set]
    have hk2 := (List.getElem?_eq_some_iff.mp hk).1
    by_cases hj : k = j
    · subst hj
      rw [if_pos rfl, if_pos (by simpa using hk2), List.getElem?_mapIdx, hk]
      simp [mm_fv, mm_up, upd]
    · rw [if_neg hj]
      simp only [List.getElem?_mapIdx]
      cases hf : fs[j]? with
      | none => rfl
      | some f => cases f <;> simp [mm_fv, mm_up, upd, Ne.symm hj]
  · rw [if_neg hi]
    simp only [mm_world, List.getElem?_mapIdx]
    cases hs : mm_shape[i]? with
    | none => rfl
    | some e => cases e <;> simp [mm_ce, mm_up, Ne.symm hi]
-- locals
def mm_ls (ad : Nat → Nat) (lo : mm_L) (ls : Array Slot) : Prop := lv_wf ls ∧ ls.size = lo.length ∧ ∀ (k : Nat) (v : mm_V), lo[k]? = some (some v) → ls[k]? = some (.val (mm_tv ad v))
def mm_lq (ad : Nat → Nat) (lo : mm_L) (k : Nat) : Option (Nat × Value) := match lo[k]? with
  | some (some v) => some (k, mm_tv ad v)
  | _ => none
def mm_lvs (ad : Nat → Nat) (lo : mm_L) : List (Nat × Value) := (List.range lo.length).filterMap (mm_lq ad lo)
theorem mm_lvs_mem {ad : Nat → Nat} {lo : mm_L} {k : Nat} {v : mm_V} (h : lo[k]? = some (some v)) : (k, mm_tv ad v) ∈ mm_lvs ad lo :=
  List.mem_filterMap.mpr ⟨k, List.mem_range.mpr (List.getElem?_eq_some_iff.mp h).1, by simp [mm_lq, h]⟩
theorem mm_lvs_of {ad : Nat → Nat} {lo : mm_L} {q : Nat × Value} (h : q ∈ mm_lvs ad lo) : ∃ v, lo[q.1]? = some (some v) ∧ q.2 = mm_tv ad v := by
  obtain ⟨k, -, hk⟩ := List.mem_filterMap.mp h
  unfold mm_lq at hk
  split at hk
  · cases hk
    exact ⟨_, by assumption, rfl⟩
  · cases hk
theorem mm_ls_has {ad : Nat → Nat} {lo : mm_L} {ls : Array Slot} (h : mm_ls ad lo ls) : lv_has ls lo.length (mm_lvs ad lo) := by
  refine ⟨h.2.1, h.1, fun q hq => ?_⟩
  obtain ⟨v, h1, h2⟩ := mm_lvs_of hq
  rw [h.2.2 _ _ h1, h2]
theorem mm_ls_set {ad : Nat → Nat} {lo : mm_L} {ls : Array Slot} {k : Nat} {v : mm_V}
    (h : lv_has ls lo.length ((k, mm_tv ad v) :: (mm_lvs ad lo).filter (fun q => !(q.1 == k) && !(q.1 + 1 == k && q.2.category == 2)))) : mm_ls ad (lo.set k (some v)) ls := by
  refine ⟨h.2.1, by rw [List.length_set]; exact h.1, fun j w hw => ?_⟩
  rw [List.getElem?_set] at hw
  by_cases hj : k = j
  · subst hj
    rw [if_pos rfl] at hw
    split at hw
    · cases hw
      exact h.2.2 (k, mm_tv ad v) List.mem_cons_self
    · cases hw
  · rw [if_neg hj] at hw
    refine h.2.2 (j, mm_tv ad w) (List.mem_cons_of_mem _ (List.mem_filter.mpr ⟨mm_lvs_mem hw, ?_⟩))
    have hc := mm_tv_cat ad w
    simp [Ne.symm hj, hc]
theorem mm_sl (ad : Nat → Nat) (as : List mm_V) : lg_sl (as.map (mm_tv ad)) = as.map (fun v => Slot.val (mm_tv ad v)) := by
  induction as with
  | nil => rfl
  | cons v r ih =>
    have hc := mm_tv_cat ad v
    simp only [List.map_cons, lg_sl, List.flatMap_cons] at ih ⊢
    rw [ih]
    simp [hc]
theorem mm_lv_args (ad : Nat → Nat) (as : List mm_V) : ∀ (i k : Nat) (v : mm_V), as[k]? = some v → (i + k, mm_tv ad v) ∈ lv_args i (as.map (mm_tv ad)) := by
  induction as with
  | nil => intro i k v h; simp at h
  | cons w r ih =>
    intro i k v h
    have hc := mm_tv_cat ad w
    simp only [List.map_cons, lv_args, hc]
    cases k with
    | zero =>
      simp at h
      subst h
      exact List.mem_cons_self
    | succ k =>
      simp at h
      have h1 := ih (i + 1) k v h
      rw [show i + 1 + k = i + (k + 1) by omega] at h1
      exact List.mem_cons_of_mem _ (by simpa using h1)
theorem mm_ent_len {k : Nat} {as : List mm_V} (h : as.length ≤ mm_maxL k) : (mm_ent k as).length = mm_maxL k := by
  simp [mm_ent]; omega
theorem mm_ls_ent {ad : Nat → Nat} {k : Nat} {as : List mm_V} (h : as.length ≤ mm_maxL k) : mm_ls ad (mm_ent k as) ((lg_sl (as.map (mm_tv ad)) ++ List.replicate (mm_maxL k - (lg_sl (as.map (mm_tv ad))).length) Slot.unset).toArray) := by
  have hlen : (lg_sl (as.map (mm_tv ad))).length = as.length := by rw [mm_sl]; simp
  have h1 := lv_entry (as.map (mm_tv ad)) (n := mm_maxL k) (by rw [hlen]; exact h)
  refine ⟨h1.2.1, by rw [h1.1, mm_ent_len h], fun j v hj => ?_⟩
  have h2 : as[j]? = some v := by
    simp only [mm_ent] at hj
    by_cases hjl : j < as.length
    · rw [List.getElem?_append_left (by simpa using hjl), List.getElem?_map] at hj
      cases ha : as[j]? with
      | none => rw [ha] at hj; cases hj
      | some w => rw [ha] at hj; simp at hj; rw [hj]
    · rw [List.getElem?_append_right (by simpa using hjl), List.getElem?_replicate] at hj
      split at hj <;> cases hj
  have h3 := mm_lv_args ad as 0 j v h2
  rw [Nat.zero_add] at h3
  exact h1.2.2 _ h3
end
section
/-! EACH STEP OF THE SMALL MACHINE IS A STEP OF THE MACHINE -/
def mm_X (ad : Nat → Nat) (A : Nat → Prop) (U : State) (H : Heap) : Prop :=
  (∀ f ∈ mm_flds, f.2.2.2.1 = true → ∀ q, vwCl[f.2.1]? = some q → va_Nw (.fieldLinkNest (mm_cn f.1.1) f.1.2 (q.2.1 f.2.2.1).1 (q.2.1 f.2.2.1).2.1 (q.2.1 f.2.2.1).2.2.1 "LimbScore") U) ∧
  (∀ f ∈ mm_calls, f.2.1 = 2 → va_Nw (.methodLinkNest (mm_cn f.1.1) f.1.2 (mm_y f.2.2.1) "LimbScore") U) ∧
  (va_Z "LimbScore$Walk" "UNIT_X" "[I" (.ref (ad 40)) A U H ∧ va_T .int (ad 40) 8 (fun j => .int (mm_ux j)) A U H) ∧
  (va_Z "LimbScore$Walk" "UNIT_Y" "[I" (.ref (ad 41)) A U H ∧ va_T .int (ad 41) 8 (fun j => .int (mm_uy j)) A U H)
theorem mm_X_blind {ad : Nat → Nat} {A : Nat → Prop} {U : State} (g : JFrame) (mk : MethodId) (a : Array Value) (h : mm_X ad A U U.heap) : mm_X ad A (U.calling g mk a) (U.calling g mk a).heap := by
  obtain ⟨h1, h2, ⟨h3, h4⟩, h5, h6⟩ := h
  exact ⟨fun f hf hn q hq => va_Nw.same rfl (u := U) rfl (h1 f hf hn q hq), fun f hf hn => va_Nw.same rfl (u := U) rfl (h2 f hf hn),
    ⟨va_Z.moved (u := U) (U := U.calling g mk a) (Vm.Alike.refl U.vm) h3, va_T.moved (u := U) (U := U.calling g mk a) (Vm.Alike.refl U.vm) h4⟩,
    va_Z.moved (u := U) (U := U.calling g mk a) (Vm.Alike.refl U.vm) h5, va_T.moved (u := U) (U := U.calling g mk a) (Vm.Alike.refl U.vm) h6⟩
theorem mm_X_go {ad : Nat → Nat} {A B : Nat → Prop} {s U : State} {H : Heap} {locs : List Loc} (h : mm_X ad A s s.heap) (hW : s.WarmedH U.vm) (hU : U.heap = H) (hS : va_S A s.heap H locs) (hB : ∀ q, B q → A q) : mm_X ad B U U.heap := by
  obtain ⟨h1, h2, ⟨h3, h4⟩, h5, h6⟩ := h
  have hk : ∀ a : Nat, a < s.heap.size → ¬ A a → U.heap[a]? = s.heap[a]? := fun a z1 z2 => by rw [hU]; exact hS.2.1 a z1 z2
  exact ⟨fun f hf hn q hq => va_Nw.warmF hW (h1 f hf hn q hq), fun f hf hn => va_Nw.warmM hW (h2 f hf hn),
    ⟨((h3.kept hk).narrow hB).moved hW.alike, ((h4.kept hk).narrow hB).moved hW.alike⟩, ((h5.kept hk).narrow hB).moved hW.alike, ((h6.kept hk).narrow hB).moved hW.alike⟩
section MMS
variable {p : Program} {l : Launch} {e : Env} {R : Room} {s : State} {m : MethodId} {args : Array Value} {below : List Frame} {meth : Method} {c : Code} {Q : State → Prop} {j : Nat} {D : va_G} {ad : Nat → Nat} {cI cC : ClassId} {A : Nat → Prop}
def mm_C (p : Program) (R : Room) (s : State) (m : MethodId) (args : Array Value) (meth : Method) (c : Code) (j : Nat) (D : va_G) (ad : Nat → Nat) (cI cC : ClassId) (A : Nat → Prop) : Prop :=
  p.tables.exec = Jvm.exec ∧ c.code = mm_code j ∧ c.maxLocals = mm_maxL j ∧ meth.sig.returnType = mm_ret j ∧ meth.locks = false ∧ s.vm.findClass (mm_cn (mm_cno j)) = some m.cls ∧ (∀ w ∈ mm_GW, w.before args s = true) ∧ va_K D vwCl (mm_tys cI cC) s ∧ mm_X ad A s s.heap ∧ (∀ q, s.heap.size ≤ q → A q) ∧ mm_fr j ≤ R.frames ∧ mm_lo j ≤ R.locals
def mm_G (p : Program) (l : Launch) (e : Env) (R : Room) (s : State) (m : MethodId) (args : Array Value) (below : List Frame) (meth : Method) (c : Code) (Q : State → Prop) (j : Nat) (D : va_G) (ad : Nat → Nat) (cI cC : ClassId) (A : Nat → Prop) (q : mm_F) : Prop :=
  ∀ (H : Heap) (locs : List Loc) (ls : Array Slot), va_P D vwCl (mm_world ad cI cC q.2.2.2) H → va_D A (mm_world ad cI cC q.2.2.2) → va_S A s.heap H locs → mm_ls ad q.2.1 ls → q.2.1.length = mm_maxL j → W p l e R s m args below meth c H locs 0 0 Q (F0 m q.1 ls (q.2.2.1.map (mm_tv ad)))
variable {pc pc' : Nat} {lo : mm_L} {st : List mm_V} {M : mm_M} {q : mm_F}
/-- the step changes the stack and the place alone -/
theorem mm_s_nx (h : mm_nx pc' lo st M = some (.inl q)) (k : mm_G p l e R s m args below meth c Q j D ad cI cC A q) : mm_G p l e R s m args below meth c Q j D ad cI cC A (pc', lo, st, M) := by
  unfold mm_nx at h
  cases h
  exact k
theorem mm_s_row {st1 st2 : List mm_V} (row : ∀ (H : Heap) (locs : List Loc) (ls : Array Slot), mm_ls ad lo ls → va_P D vwCl (mm_world ad cI cC M) H → va_S A s.heap H locs → W p l e R s m args below meth c H locs 0 0 Q (F0 m pc' ls (st2.map (mm_tv ad))) → W p l e R s m args below meth c H locs 0 0 Q (F0 m pc ls (st1.map (mm_tv ad))))
    (k : mm_G p l e R s m args below meth c Q j D ad cI cC A (pc', lo, st2, M)) : mm_G p l e R s m args below meth c Q j D ad cI cC A (pc, lo, st1, M) := by
  intro H locs ls hP hD hS hl hn
  exact row H locs ls hl hP hS (k H locs ls hP hD hS hl hn)
theorem mm_s_jmp {off : Int} {pc0 : Nat} (h : mm_jmp pc0 off lo st M = some (.inl q)) (k : mm_G p l e R s m args below meth c Q j D ad cI cC A q) : ∃ tgt : Nat, (pc0 : Int) + off = (tgt : Int) ∧ mm_G p l e R s m args below meth c Q j D ad cI cC A (tgt, lo, st, M) := by
  unfold mm_jmp at h
  split at h
  · rename_i hz
    exact ⟨((pc0 : Int) + off).toNat, by omega, mm_s_nx h k⟩
  · cases h
theorem mm_s_bin {f : Int32 → Int32 → Int32} (row : ∀ (H : Heap) (locs : List Loc) (ls : Array Slot) (rest : List Value) (x y : Int32), st.head? = some (.inl y) → W p l e R s m args below meth c H locs 0 0 Q (F0 m (pc + 1) ls (.int (f x y) :: rest)) → W p l e R s m args below meth c H locs 0 0 Q (F0 m pc ls (.int y :: .int x :: rest)))
    (h : mm_bin f pc lo st M = some (.inl q)) (k : mm_G p l e R s m args below meth c Q j D ad cI cC A q) : mm_G p l e R s m args below meth c Q j D ad cI cC A (pc, lo, st, M) := by
  unfold mm_bin at h
  split at h
  · exact mm_s_row (fun H locs ls _ _ _ w => row H locs ls _ _ _ rfl w) (mm_s_nx h k)
  · cases h
theorem mm_s_un {f : Int32 → Int32} (row : ∀ (H : Heap) (locs : List Loc) (ls : Array Slot) (rest : List Value) (x : Int32), W p l e R s m args below meth c H locs 0 0 Q (F0 m (pc + 1) ls (.int (f x) :: rest)) → W p l e R s m args below meth c H locs 0 0 Q (F0 m pc ls (.int x :: rest)))
    (h : mm_un f pc lo st M = some (.inl q)) (k : mm_G p l e R s m args below meth c Q j D ad cI cC A q) : mm_G p l e R s m args below meth c Q j D ad cI cC A (pc, lo, st, M) := by
  unfold mm_un at h
  split at h
  · exact mm_s_row (fun H locs ls _ _ _ w => row H locs ls _ _ w) (mm_s_nx h k)
  · cases h
theorem mm_s_ldi {i : Nat} (row : ∀ (H : Heap) (locs : List Loc) (ls : Array Slot) (rest : List Value) (x : Int32), ls[i]? = some (.val (.int x)) → W p l e R s m args below meth c H locs 0 0 Q (F0 m pc' ls (.int x :: rest)) → W p l e R s m args below meth c H locs 0 0 Q (F0 m pc ls rest))
    (h : mm_ldi i pc' lo st M = some (.inl q)) (k : mm_G p l e R s m args below meth c Q j D ad cI cC A q) : mm_G p l e R s m args below meth c Q j D ad cI cC A (pc, lo, st, M) := by
  unfold mm_ldi at h
  split at h
  · rename_i x hx
    exact mm_s_row (fun H locs ls hl _ _ w => row H locs ls _ x (hl.2.2 _ _ hx) w) (mm_s_nx h k)
  · cases h
theorem mm_s_lda {i : Nat} (row : ∀ (H : Heap) (locs : List Loc) (ls : Array Slot) (rest : List Value) (x : Nat), ls[i]? = some (.val (.ref x)) → W p l e R s m args below meth c H locs 0 0 Q (F0 m pc' ls (.ref x :: rest)) → W p l e R s m args below meth c H locs 0 0 Q (F0 m pc ls rest))
    (h : mm_lda i pc' lo st M = some (.inl q)) (k : mm_G p l e R s m args below meth c Q j D ad cI cC A q) : mm_G p l e R s m args below meth c Q j D ad cI cC A (pc, lo, st, M) := by
  unfold mm_lda at h
  split at h
  · rename_i x hx
    exact mm_s_row (fun H locs ls hl _ _ w => row H locs ls _ (ad x) (hl.2.2 _ _ hx) w) (mm_s_nx h k)
  · cases h
theorem mm_s_sti {i : Nat} (row : ∀ (H : Heap) (locs : List Loc) (ls : Array Slot) (rest : List Value) (x : Int32), lv_has ls lo.length (mm_lvs ad lo) → i < lo.length → (∀ ls' : Array Slot, lv_has ls' lo.length ((i, Value.int x) :: (mm_lvs ad lo).filter (fun q => !(q.1 == i) && !(q.1 + 1 == i && q.2.category == 2))) → W p l e R s m args below meth c H locs 0 0 Q (F0 m pc' ls' rest)) → W p l e R s m args below meth c H locs 0 0 Q (F0 m pc ls (.int x :: rest)))
    (h : mm_sti i pc' lo st M = some (.inl q)) (k : mm_G p l e R s m args below meth c Q j D ad cI cC A q) : mm_G p l e R s m args below meth c Q j D ad cI cC A (pc, lo, st, M) := by
  unfold mm_sti at h
  split at h
  · rename_i x r
    split at h
    · rename_i hi
      have k1 := mm_s_nx h k
      intro H locs ls hP hD hS hl hn
      exact row H locs ls _ x (mm_ls_has hl) hi (fun ls' h' => k1 H locs ls' hP hD hS (mm_ls_set (v := .inl x) h') (by simpa using hn))
    · cases h
  · cases h
theorem mm_s_inc {i : Nat} {n : Int} (hx : p.tables.exec = Jvm.exec) (hb : c.code = mm_code j) (hd : decode (mm_code j) pc = .ok (.iinc i n, 3))
    (h : mm_inc i n (pc + 3) lo st M = some (.inl q)) (k : mm_G p l e R s m args below meth c Q j D ad cI cC A q) : mm_G p l e R s m args below meth c Q j D ad cI cC A (pc, lo, st, M) := by
  unfold mm_inc at h
  split at h
  · rename_i x hx1
    have k1 := mm_s_nx h k
    intro H locs ls hP hD hS hl hn
    obtain ⟨kq, hkq⟩ := List.getElem?_of_mem (mm_lvs_mem (ad := ad) hx1)
    exact lv_iinc hx hb hd (mm_ls_has hl) hkq rfl (List.getElem?_eq_some_iff.mp hx1).1 rfl (fun ls' h' => k1 H locs ls' hP hD hS (mm_ls_set (v := .inl (x + Int32.ofInt n)) h') (by simpa using hn))
  · cases h
theorem mm_s_br {b : Bool} {off : Int} (h : mm_br b pc off lo st M = some (.inl q)) (k : mm_G p l e R s m args below meth c Q j D ad cI cC A q) : ∃ tgt : Nat, (pc : Int) + off = (tgt : Int) ∧ (b = true → mm_G p l e R s m args below meth c Q j D ad cI cC A (tgt, lo, st, M)) ∧ (b = false → mm_G p l e R s m args below meth c Q j D ad cI cC A (pc + 3, lo, st, M)) := by
  unfold mm_br at h
  split at h
  · refine ⟨((pc : Int) + off).toNat, by omega, fun hb => ?_, fun hb => ?_⟩
    · rw [if_pos hb] at h
      exact mm_s_nx h k
    · rw [if_neg (by simp [hb])] at h
      exact mm_s_nx h k
  · cases h
theorem mm_s_if1 {cd : ClassFile.Cond} {off : Int} (hx : p.tables.exec = Jvm.exec) (hb : c.code = mm_code j) (hd : decode (mm_code j) pc = .ok (.ifCond cd off, 3))
    (h : mm_if1 cd pc off lo st M = some (.inl q)) (k : mm_G p l e R s m args below meth c Q j D ad cI cC A q) : mm_G p l e R s m args below meth c Q j D ad cI cC A (pc, lo, st, M) := by
  unfold mm_if1 at h
  split at h
  · rename_i x r
    intro H locs ls hP hD hS hl hn
    obtain ⟨tgt, ht, k1, k2⟩ := mm_s_br h k
    cases cd
    · exact lv_if_eq hx hb hd ht (fun z => k1 (decide_eq_true z) H locs ls hP hD hS hl hn) (fun z => k2 (decide_eq_false z) H locs ls hP hD hS hl hn)
    · exact lv_if_ne hx hb hd ht (fun z => k1 (decide_eq_true z) H locs ls hP hD hS hl hn) (fun z => k2 (decide_eq_false (fun w => w z)) H locs ls hP hD hS hl hn)
    · exact lv_if_lt hx hb hd ht (fun z => k1 (decide_eq_true z) H locs ls hP hD hS hl hn) (fun z => k2 (decide_eq_false z) H locs ls hP hD hS hl hn)
    · exact lv_if_ge hx hb hd ht (fun z => k1 (decide_eq_true z) H locs ls hP hD hS hl hn) (fun z => k2 (decide_eq_false z) H locs ls hP hD hS hl hn)
    · exact lv_if_gt hx hb hd ht (fun z => k1 (decide_eq_true z) H locs ls hP hD hS hl hn) (fun z => k2 (decide_eq_false z) H locs ls hP hD hS hl hn)
    · exact lv_if_le hx hb hd ht (fun z => k1 (decide_eq_true z) H locs ls hP hD hS hl hn) (fun z => k2 (decide_eq_false z) H locs ls hP hD hS hl hn)
  · cases h
theorem mm_s_if2 {cd : ClassFile.Cond} {off : Int} (hx : p.tables.exec = Jvm.exec) (hb : c.code = mm_code j) (hd : decode (mm_code j) pc = .ok (.if_icmp cd off, 3))
    (h : mm_if2 cd pc off lo st M = some (.inl q)) (k : mm_G p l e R s m args below meth c Q j D ad cI cC A q) : mm_G p l e R s m args below meth c Q j D ad cI cC A (pc, lo, st, M) := by
  unfold mm_if2 at h
  split at h
  · rename_i y x r
    intro H locs ls hP hD hS hl hn
    obtain ⟨tgt, ht, k1, k2⟩ := mm_s_br h k
    cases cd
    · exact lv_icmp_eq hx hb hd ht (fun z => k1 (decide_eq_true z) H locs ls hP hD hS hl hn) (fun z => k2 (decide_eq_false z) H locs ls hP hD hS hl hn)
    · exact lv_icmp_ne hx hb hd ht (fun z => k1 (decide_eq_true z) H locs ls hP hD hS hl hn) (fun z => k2 (decide_eq_false (fun w => w z)) H locs ls hP hD hS hl hn)
    · exact lv_icmp_lt hx hb hd ht (fun z => k1 (decide_eq_true z) H locs ls hP hD hS hl hn) (fun z => k2 (decide_eq_false z) H locs ls hP hD hS hl hn)
    · exact lv_icmp_ge hx hb hd ht (fun z => k1 (decide_eq_true z) H locs ls hP hD hS hl hn) (fun z => k2 (decide_eq_false z) H locs ls hP hD hS hl hn)
    · exact lv_icmp_gt hx hb hd ht (fun z => k1 (decide_eq_true z) H locs ls hP hD hS hl hn) (fun z => k2 (decide_eq_false z) H locs ls hP hD hS hl hn)
    · exact lv_icmp_le hx hb hd ht (fun z => k1 (decide_eq_true z) H locs ls hP hD hS hl hn) (fun z => k2 (decide_eq_false z) H locs ls hP hD hS hl hn)
  · cases h
theorem mm_s_tsw {d lo' hi : Int} {offs : Array Int} {len : Nat} (hx : p.tables.exec = Jvm.exec) (hb : c.code = mm_code j) (hd : decode (mm_code j) pc = .ok (.tableswitch d lo' hi offs, len))
    (h : mm_tsw d lo' hi offs pc lo st M = some (.inl q)) (k : mm_G p l e R s m args below meth c Q j D ad cI cC A q) : mm_G p l e R s m args below meth c Q j D ad cI cC A (pc, lo, st, M) := by
  unfold mm_tsw at h
  split at h
  · rename_i x r
    intro H locs ls hP hD hS hl hn
    split at h
    · rename_i hz
      obtain ⟨tgt, ht, k1⟩ := mm_s_jmp h k
      exact lv_tableOut hx hb hd hz ht (k1 H locs ls hP hD hS hl hn)
    · rename_i hz
      split at h
      · rename_i off ho
        obtain ⟨tgt, ht, k1⟩ := mm_s_jmp h k
        exact lv_tableIn hx hb hd (fun z => hz (Or.inl z)) (fun z => hz (Or.inr z)) ho ht (k1 H locs ls hP hD hS hl hn)
      · cases h
  · cases h
theorem mm_s_lsw {d : Int} {ps : Array (Int × Int)} {len : Nat} (hx : p.tables.exec = Jvm.exec) (hb : c.code = mm_code j) (hd : decode (mm_code j) pc = .ok (.lookupswitch d ps, len))
    (h : mm_lsw d ps pc lo st M = some (.inl q)) (k : mm_G p l e R s m args below meth c Q j D ad cI cC A q) : mm_G p l e R s m args below meth c Q j D ad cI cC A (pc, lo, st, M) := by
  unfold mm_lsw at h
  split at h
  · rename_i x r
    intro H locs ls hP hD hS hl hn
    split at h
    · rename_i hz
      obtain ⟨tgt, ht, k1⟩ := mm_s_jmp h k
      exact lv_lookup hx hb hd hz rfl ht (k1 H locs ls hP hD hS hl hn)
    · cases h
  · cases h
/-- what the shape and the fields' table say of a field -/
theorem mm_fact {f : (Nat × Nat) × (Nat × Nat × Bool × Nat)} (hf : f ∈ mm_flds) : ∃ r : vw_C, vwCl[f.2.1]? = some r ∧ f.2.2.1 < r.2.2 ∧ (f.2.2.2.1 = false → Cond.fieldLink (mm_cn f.1.1) f.1.2 (r.2.1 f.2.2.1).1 (r.2.1 f.2.2.1).2.1 (r.2.1 f.2.2.1).2.2.1 ∈ mm_GW) := by
  have h := List.all_eq_true.mp mm_flds_ok f hf
  unfold mm_fOk at h
  split at h
  · rename_i r hr
    simp only [Bool.and_eq_true, decide_eq_true_eq] at h
    refine ⟨r, hr, h.1, fun hn => ?_⟩
    have h2 := h.2
    rw [hn] at h2
    exact mm_w_in h2
  · cases h
theorem mm_kind {r : vw_C} {ci : Nat} (hr : vwCl[ci]? = some r) : (∀ w ∈ u_ws r.1 r.2.1 r.2.2, w ∈ mm_GW) ∧ (∃ ty : Nat → FieldType, ∀ k, k < r.2.2 → parseFieldDescriptor (r.2.1 k).2.2.1 = some (ty k)) ∧ (∀ a, a < r.2.2 → ∀ b, b < r.2.2 → a ≠ b → (r.2.1 a).2.1 ≠ (r.2.1 b).2.1) := by
  have h := List.all_eq_true.mp mm_kinds_ok r (List.mem_of_getElem? hr)
  unfold mm_kOk at h
  simp only [Bool.and_eq_true, decide_eq_true_eq] at h
  obtain ⟨⟨h1, h2⟩, h3⟩ := h
  refine ⟨fun w hw => ?_, ⟨fun k => (parseFieldDescriptor (r.2.1 k).2.2.1).getD .int, fun k hk => ?_⟩, h3⟩
  · have z := List.all_eq_true.mp h1 w hw
    simp only [Bool.and_eq_true, decide_eq_true_eq] at z
    exact List.mem_filter.mpr z
  · have z := List.all_eq_true.mp h2 k (List.mem_range.mpr hk)
    cases hz : parseFieldDescriptor (r.2.1 k).2.2.1 with
    | none => rw [hz] at z; cases z
    | some t => simp [hz]
theorem mm_fd_in {cn i : Nat} {f : (Nat × Nat) × (Nat × Nat × Bool × Nat)} (h : mm_fld cn i = some f) : f ∈ mm_flds ∧ f.1 = (cn, i) := by
  unfold mm_fld at h
  have h2 := List.find?_some h
  simp only [Bool.and_eq_true] at h2
  exact ⟨List.mem_of_find?_eq_some h, Prod.ext (Nat.eq_of_beq_eq_true h2.1) (Nat.eq_of_beq_eq_true h2.2)⟩
theorem mm_s_get {f : (Nat × Nat) × (Nat × Nat × Bool × Nat)} {i : Nat} (C0 : mm_C p R s m args meth c j D ad cI cC A) (hf : mm_fld (mm_cno j) i = some f) (hd : decode (mm_code j) pc = .ok (.getfield i, 3))
    (h : mm_get f pc lo st M = some (.inl q)) (k : mm_G p l e R s m args below meth c Q j D ad cI cC A q) : mm_G p l e R s m args below meth c Q j D ad cI cC A (pc, lo, st, M) := by
  obtain ⟨hx, hb, hml, hr, hlk, hown, hts, hK, hX, hA, -, -⟩ := C0
  obtain ⟨hfm, hfi⟩ := mm_fd_in hf
  obtain ⟨⟨fa, fb⟩, fc, fk, fn, fw⟩ := f
  cases hfi
  obtain ⟨r, hr1, hr2, hr3⟩ := mm_fact hfm
  obtain ⟨hin, -, -⟩ := mm_kind hr1
  have key : ∀ (o : Nat) (fs : List (Option Nat)) (v : Value) (rest : List mm_V) (v' : mm_V), st = .inr o :: rest → mm_shape[o]? = some (.inl (fc, fs)) → (fs.mapIdx (mm_fv ad (M o)))[fk]? = some v → v = mm_tv ad v' → mm_G p l e R s m args below meth c Q j D ad cI cC A (pc + 3, lo, v' :: rest, M) → mm_G p l e R s m args below meth c Q j D ad cI cC A (pc, lo, st, M) := by
    intro o fs v rest v' hst ho hv hv' k1
    subst hst
    intro H locs ls hP hD hS hl hn
    have w := k1 H locs ls hP hD hS hl hn
    cases fn with
    | false => exact va_get (tys := mm_tys cI cC) hx hb hts hin hown hK hP o (mm_get_w ho) hr1 fk hr2 (hts _ (hr3 rfl)) (fun _ z => z) (by rw [hv, hv']) hd w
    | true => exact va_getN (host := "LimbScore") (tys := mm_tys cI cC) hx hb hts hin hown hK hP o (mm_get_w ho) hr1 fk hr2 (va_Nw.use rfl (hX.1 _ hfm rfl r hr1)) (fun _ z => z) (by rw [hv, hv']) hd w
  unfold mm_get at h
  split at h
  · rename_i o rest
    split at h
    · rename_i ci fs ho
      split at h
      · rename_i hci
        simp only at hci
        subst hci
        split at h
        · rename_i hfs
          exact key o fs _ rest (.inl (M o fk)) rfl ho (by rw [List.getElem?_mapIdx, hfs]; rfl) rfl (mm_s_nx h k)
        · rename_i g hfs
          exact key o fs _ rest (.inr g) rfl ho (by rw [List.getElem?_mapIdx, hfs]; rfl) rfl (mm_s_nx h k)
        · cases h
      · cases h
    · cases h
  · cases h
theorem mm_s_put {f : (Nat × Nat) × (Nat × Nat × Bool × Nat)} {i : Nat} (C0 : mm_C p R s m args meth c j D ad cI cC A) (hf : mm_fld (mm_cno j) i = some f) (hd : decode (mm_code j) pc = .ok (.putfield i, 3))
    (h : mm_put f pc lo st M = some (.inl q)) (k : mm_G p l e R s m args below meth c Q j D ad cI cC A q) : mm_G p l e R s m args below meth c Q j D ad cI cC A (pc, lo, st, M) := by
  obtain ⟨hx, hb, hml, hr, hlk, hown, hts, hK, hX, hA, -, -⟩ := C0
  obtain ⟨hfm, hfi⟩ := mm_fd_in hf
  obtain ⟨⟨fa, fb⟩, fc, fk, fn, fw⟩ := f
  cases hfi
  obtain ⟨r, hr1, hr2, hr3⟩ := mm_fact hfm
  obtain ⟨hin, ⟨ty, hty⟩, hnm⟩ := mm_kind hr1
  unfold mm_put at h
  split at h
  · rename_i v o rest
    split at h
    · rename_i ci fs ho
      split at h
      · rename_i hci
        simp only at hci
        subst hci
        split at h
        · rename_i hfs
          have k1 := mm_s_nx h k
          have hsh := List.all_eq_true.mp mm_shape_ok _ (List.mem_of_getElem? ho)
          simp only [mm_eOk, hr1, Bool.and_eq_true, decide_eq_true_eq] at hsh
          have hs2 := List.all_eq_true.mp hsh.2 fk (List.mem_range.mpr hr2)
          simp only [] at hfs
          rw [if_pos hfs] at hs2
          simp only [Bool.and_eq_true, decide_eq_true_eq, Bool.not_eq_true'] at hs2
          intro H locs ls hP hD hS hl hn
          have go : ∀ (H1 : Heap) (locs1 : List Loc), va_P D vwCl ((mm_world ad cI cC M).set o (ad o, .inr (ci, (fs.mapIdx (mm_fv ad (M o))).set fk (.int v)))) H1 → va_D A ((mm_world ad cI cC M).set o (ad o, .inr (ci, (fs.mapIdx (mm_fv ad (M o))).set fk (.int v)))) → va_S A s.heap H1 locs1 → W p l e R s m args below meth c H1 locs1 0 0 Q (F0 m (pc + 3) ls (rest.map (mm_tv ad))) := by
            intro H1 locs1 hP1 hD1 hS1
            rw [mm_put_w ho hfs] at hP1 hD1
            exact k1 H1 locs1 ls hP1 hD1 hS1 hl hn
          have hlen : fk < (fs.mapIdx (mm_fv ad (M o))).length := by rw [List.length_mapIdx, hsh.1]; exact hr2
          cases fn with
          | false => exact va_put (tys := mm_tys cI cC) (ty := .int) hx hb hts hin ty hty hnm hown hK hP hD hS o (mm_get_w ho) hr1 fk hr2 (hts _ (hr3 rfl)) (fun _ z => z) hs2.2 hs2.1 rfl rfl hlen hd go
          | true => exact va_putN (host := "LimbScore") (tys := mm_tys cI cC) (ty := .int) hx hb hts hin ty hty hnm hown hK hP hD hS o (mm_get_w ho) hr1 fk hr2 (va_Nw.use rfl (hX.1 _ hfm rfl r hr1)) (fun _ z => z) hs2.2 hs2.1 rfl rfl hlen hd go
        · cases h
      · cases h
    · cases h
  · cases h
theorem mm_s_gst {f : (Nat × Nat) × (Bool × Nat)} {i : Nat} (C0 : mm_C p R s m args meth c j D ad cI cC A) (hf : mm_stt (mm_cno j) i = some f) (hd : decode (mm_code j) pc = .ok (.getstatic i, 3))
    (h : mm_gst f pc lo st M = some (.inl q)) (k : mm_G p l e R s m args below meth c Q j D ad cI cC A q) : mm_G p l e R s m args below meth c Q j D ad cI cC A (pc, lo, st, M) := by
  obtain ⟨hx, hb, hml, hr, hlk, hown, hts, hK, hX, hA, -, -⟩ := C0
  have hfm : f ∈ mm_stats := List.mem_of_find?_eq_some hf
  have hfi := List.find?_some hf
  simp only [Bool.and_eq_true] at hfi
  have e1 := Nat.eq_of_beq_eq_true hfi.1
  have e2 := Nat.eq_of_beq_eq_true hfi.2
  have hw := mm_w_in (List.all_eq_true.mp mm_stats_ok f hfm)
  rw [e1, e2] at hw
  obtain ⟨-, -, ⟨z1, -⟩, z2, -⟩ := hX
  unfold mm_gst at h
  refine mm_s_row (fun H locs ls hl hP hS w => ?_) (mm_s_nx h k)
  cases hfb : f.2.1 with
  | true =>
    rw [hfb] at hw w
    exact va_gets hx hb z1 hS hown (hts _ hw) (fun _ z => z) hd w
  | false =>
    rw [hfb] at hw w
    exact va_gets hx hb z2 hS hown (hts _ hw) (fun _ z => z) hd w
theorem mm_s_len (C0 : mm_C p R s m args meth c j D ad cI cC A) (hd : decode (mm_code j) pc = .ok (.arraylength, 1))
    (h : mm_len pc lo st M = some (.inl q)) (k : mm_G p l e R s m args below meth c Q j D ad cI cC A q) : mm_G p l e R s m args below meth c Q j D ad cI cC A (pc, lo, st, M) := by
  obtain ⟨hx, hb, hml, hr, hlk, hown, hts, hK, hX, hA, -, -⟩ := C0
  unfold mm_len at h
  split at h
  · rename_i o rest
    split at h
    · rename_i ch n ho
      refine mm_s_row (fun H locs ls hl hP hS w => ?_) (mm_s_nx h k)
      cases ch with
      | false => exact va_alen (tys := mm_tys cI cC) hx hb hK hP o 0 (mm_get_w ho) rfl rfl hd w
      | true => exact va_alen (tys := mm_tys cI cC) hx hb hK hP o 1 (mm_get_w ho) rfl rfl hd w
    · cases h
  · cases h
theorem mm_s_ald {ch : Bool} (C0 : mm_C p R s m args meth c j D ad cI cC A) (hd : decode (mm_code j) pc = .ok (if ch = true then .caload else .iaload, 1))
    (h : mm_ald ch pc lo st M = some (.inl q)) (k : mm_G p l e R s m args below meth c Q j D ad cI cC A q) : mm_G p l e R s m args below meth c Q j D ad cI cC A (pc, lo, st, M) := by
  obtain ⟨hx, hb, hml, hr, hlk, hown, hts, hK, hX, hA, -, -⟩ := C0
  unfold mm_ald at h
  split at h
  · rename_i i o rest
    split at h
    · rename_i c' n ho
      split at h
      · rename_i hc
        obtain ⟨rfl, hin⟩ := hc
        refine mm_s_row (fun H locs ls hl hP hS w => ?_) (mm_s_nx h k)
        cases c' with
        | false => exact va_iald (tys := mm_tys cI cC) hx hb hK hP o 0 (mm_get_w ho) rfl hin hd w
        | true => exact va_cald (tys := mm_tys cI cC) hx hb hK hP o 1 (mm_get_w ho) rfl hin hd w
      · cases h
    · cases h
    · split at h
      · rename_i hc
        obtain ⟨rfl, ho, hin⟩ := hc
        obtain ⟨-, -, ⟨-, z1⟩, -, z2⟩ := hX
        refine mm_s_row (fun H locs ls hl hP hS w => ?_) (mm_s_nx h k)
        by_cases h40 : o = 40
        · subst h40
          exact va_ti hx hb z1 hS hin rfl hd w
        · rcases ho with ho | ho
          · exact absurd ho h40
          · subst ho
            exact va_ti hx hb z2 hS hin rfl hd w
      · cases h
  · cases h
theorem mm_s_ast {ch : Bool} (C0 : mm_C p R s m args meth c j D ad cI cC A) (hd : decode (mm_code j) pc = .ok (if ch = true then .castore else .iastore, 1))
    (h : mm_ast ch pc lo st M = some (.inl q)) (k : mm_G p l e R s m args below meth c Q j D ad cI cC A q) : mm_G p l e R s m args below meth c Q j D ad cI cC A (pc, lo, st, M) := by
  obtain ⟨hx, hb, hml, hr, hlk, hown, hts, hK, hX, hA, -, -⟩ := C0
  unfold mm_ast at h
  split at h
  · rename_i v i o rest
    split at h
    · rename_i c' n ho
      split at h
      · rename_i hc
        obtain ⟨rfl, hin⟩ := hc
        have k1 := mm_s_nx h k
        intro H locs ls hP hD hS hl hn
        cases c' with
        | false =>
          refine va_iast (tys := mm_tys cI cC) hx hb hK hP hD hS o 0 (mm_get_w ho) rfl hin hd (fun H1 locs1 hP1 hD1 hS1 => ?_)
          have hP1 : va_P D vwCl ((mm_world ad cI cC M).set o (ad o, .inl (if (false : Bool) = true then cC else cI, n, .inl (upd (M o) i.toNatClampNeg v)))) H1 := hP1
          have hD1 : va_D A ((mm_world ad cI cC M).set o (ad o, .inl (if (false : Bool) = true then cC else cI, n, .inl (upd (M o) i.toNatClampNeg v)))) := hD1
          rw [mm_set_w ho] at hP1 hD1
          exact k1 H1 locs1 ls hP1 hD1 hS1 hl hn
        | true =>
          refine va_cast (tys := mm_tys cI cC) hx hb hK hP hD hS o 1 (mm_get_w ho) rfl hin hd (fun H1 locs1 hP1 hD1 hS1 => ?_)
          have hP1 : va_P D vwCl ((mm_world ad cI cC M).set o (ad o, .inl (if (true : Bool) = true then cC else cI, n, .inl (upd (M o) i.toNatClampNeg (vp_nar .char v))))) H1 := hP1
          have hD1 : va_D A ((mm_world ad cI cC M).set o (ad o, .inl (if (true : Bool) = true then cC else cI, n, .inl (upd (M o) i.toNatClampNeg (vp_nar .char v))))) := hD1
          rw [mm_set_w ho] at hP1 hD1
          exact k1 H1 locs1 ls hP1 hD1 hS1 hl hn
      · cases h
    · cases h
  · cases h
end MMS
end
section
/-! THE SMALL MACHINE IS SOUND: what it answers, the machine answers -/
/-- an instruction that goes on: neither a call nor an end -/
def mm_on (x : mm_R) : Prop := x = none ∨ ∃ q, x = some (.inl q)
theorem mm_on_none : mm_on none := Or.inl rfl
theorem mm_on_nx {pc : Nat} {lo : mm_L} {st : List mm_V} {M : mm_M} : mm_on (mm_nx pc lo st M) := Or.inr ⟨_, rfl⟩
theorem mm_on_ite {b : Prop} {d : Decidable b} {x y : mm_R} (hx : mm_on x) (hy : mm_on y) : mm_on (if b then x else y) := by
  by_cases h : b
  · rw [if_pos h]; exact hx
  · rw [if_neg h]; exact hy
theorem mm_on_not {x : mm_R} {z : (Nat × List mm_V × List mm_V) ⊕ Option Int32} (hx : mm_on x) (h : x = some (.inr z)) : False := by
  rcases hx with hx | ⟨q, hx⟩ <;> rw [hx] at h <;> cases h
theorem mm_on_jmp {pc : Nat} {off : Int} {lo : mm_L} {st : List mm_V} {M : mm_M} : mm_on (mm_jmp pc off lo st M) := mm_on_ite mm_on_nx mm_on_none
theorem mm_on_br {b : Bool} {pc : Nat} {off : Int} {lo : mm_L} {st : List mm_V} {M : mm_M} : mm_on (mm_br b pc off lo st M) := mm_on_ite mm_on_nx mm_on_none
set_option maxHeartbeats 4000000 in
theorem mm_on_do {j pc : Nat} {i : Instr} {n : Nat} {lo : mm_L} {st : List mm_V} {M : mm_M} (h1 : ∀ k, i ≠ .invokevirtual k) (h2 : ∀ k, i ≠ .invokestatic k) (h3 : i ≠ .ireturn) (h4 : i ≠ .return_) : mm_on (mm_do j pc i n lo st M) := by
  have a1 : ∀ k pc', mm_on (mm_ldi k pc' lo st M) := fun k pc' => by unfold mm_ldi; split <;> first | exact mm_on_nx | exact mm_on_none
  have a2 : ∀ k pc', mm_on (mm_lda k pc' lo st M) := fun k pc' => by unfold mm_lda; split <;> first | exact mm_on_nx | exact mm_on_none
  have a3 : ∀ k pc', mm_on (mm_sti k pc' lo st M) := fun k pc' => by unfold mm_sti; split <;> first | exact mm_on_ite mm_on_nx mm_on_none | exact mm_on_none
  have a4 : ∀ k v pc', mm_on (mm_inc k v pc' lo st M) := fun k v pc' => by unfold mm_inc; split <;> first | exact mm_on_nx | exact mm_on_none
  have a5 : ∀ f, mm_on (mm_bin f pc lo st M) := fun f => by unfold mm_bin; split <;> first | exact mm_on_nx | exact mm_on_none
  have a6 : ∀ f, mm_on (mm_un f pc lo st M) := fun f => by unfold mm_un; split <;> first | exact mm_on_nx | exact mm_on_none
  have a7 : ∀ c off, mm_on (mm_if1 c pc off lo st M) := fun c off => by unfold mm_if1; split <;> first | exact mm_on_br | exact mm_on_none
  have a8 : ∀ c off, mm_on (mm_if2 c pc off lo st M) := fun c off => by unfold mm_if2; split <;> first | exact mm_on_br | exact mm_on_none
  have a9 : ∀ d l h offs, mm_on (mm_tsw d l h offs pc lo st M) := fun d l h offs => by
    unfold mm_tsw
    split
    · refine mm_on_ite mm_on_jmp ?_
      split <;> first | exact mm_on_jmp | exact mm_on_none
    · exact mm_on_none
  have b1 : ∀ d ps, mm_on (mm_lsw d ps pc lo st M) := fun d ps => by unfold mm_lsw; split <;> first | exact mm_on_ite mm_on_jmp mm_on_none | exact mm_on_none
  have b2 : ∀ e, mm_on (mm_get e pc lo st M) := fun e => by
    unfold mm_get
    split
    · split
      · refine mm_on_ite ?_ mm_on_none
        split <;> first | exact mm_on_nx | exact mm_on_none
      · exact mm_on_none
    · exact mm_on_none
  have b3 : ∀ e, mm_on (mm_put e pc lo st M) := fun e => by
    unfold mm_put
    split
    · split
      · refine mm_on_ite ?_ mm_on_none
        split <;> first | exact mm_on_nx | exact mm_on_none
      · exact mm_on_none
    · exact mm_on_none
  have b4 : ∀ ch, mm_on (mm_ald ch pc lo st M) := fun ch => by
    unfold mm_ald
    split
    · split <;> first | exact mm_on_ite mm_on_nx mm_on_none | exact mm_on_none
    · exact mm_on_none
  have b5 : ∀ ch, mm_on (mm_ast ch pc lo st M) := fun ch => by
    unfold mm_ast
    split
    · split <;> first | exact mm_on_ite mm_on_nx mm_on_none | exact mm_on_none
    · exact mm_on_none
  have b6 : mm_on (mm_len pc lo st M) := by
    unfold mm_len
    split
    · split <;> first | exact mm_on_nx | exact mm_on_none
    · exact mm_on_none
  cases i with
  | invokevirtual k => exact absurd rfl (h1 k)
  | invokestatic k => exact absurd rfl (h2 k)
  | ireturn => exact absurd rfl h3
  | return_ => exact absurd rfl h4
  | iconst v => exact mm_on_ite mm_on_nx mm_on_none
  | bipush v => exact mm_on_ite mm_on_nx mm_on_none
  | sipush v => exact mm_on_ite mm_on_nx mm_on_none
  | iload_n v => exact mm_on_ite (a1 _ _) mm_on_none
  | iload v => exact mm_on_ite (a1 _ _) mm_on_none
  | aload_n v => exact mm_on_ite (a2 _ _) mm_on_none
  | aload v => exact mm_on_ite (a2 _ _) mm_on_none
  | istore_n v => exact mm_on_ite (a3 _ _) mm_on_none
  | istore v => exact mm_on_ite (a3 _ _) mm_on_none
  | iinc v w => exact mm_on_ite (a4 _ _ _) mm_on_none
  | iadd => exact mm_on_ite (a5 _) mm_on_none
  | isub => exact mm_on_ite (a5 _) mm_on_none
  | imul => exact mm_on_ite (a5 _) mm_on_none
  | iand => exact mm_on_ite (a5 _) mm_on_none
  | ior => exact mm_on_ite (a5 _) mm_on_none
  | ixor => exact mm_on_ite (a5 _) mm_on_none
  | ishl => exact mm_on_ite (a5 _) mm_on_none
  | ishr => exact mm_on_ite (a5 _) mm_on_none
  | irem => exact mm_on_ite (a5 _) mm_on_none
  | ineg => exact mm_on_ite (a6 _) mm_on_none
  | i2c => exact mm_on_ite (a6 _) mm_on_none
  | dup => exact mm_on_ite (by split <;> first | exact mm_on_nx | exact mm_on_none) mm_on_none
  | dup2 => exact mm_on_ite (by split <;> first | exact mm_on_nx | exact mm_on_none) mm_on_none
  | pop => exact mm_on_ite (by split <;> first | exact mm_on_nx | exact mm_on_none) mm_on_none
  | goto off => exact mm_on_ite mm_on_jmp mm_on_none
  | ifCond c off => exact mm_on_ite (a7 _ _) mm_on_none
  | if_icmp c off => exact mm_on_ite (a8 _ _) mm_on_none
  | tableswitch d l h offs => exact a9 _ _ _ _
  | lookupswitch d ps => exact b1 _ _
  | getfield k => exact mm_on_ite (by split <;> first | exact b2 _ | exact mm_on_none) mm_on_none
  | putfield k => exact mm_on_ite (by split <;> first | exact b3 _ | exact mm_on_none) mm_on_none
  | getstatic k => exact mm_on_ite (by split <;> first | exact mm_on_nx | exact mm_on_none) mm_on_none
  | iaload => exact mm_on_ite (b4 _) mm_on_none
  | caload => exact mm_on_ite (b4 _) mm_on_none
  | iastore => exact mm_on_ite (b5 _) mm_on_none
  | castore => exact mm_on_ite (b5 _) mm_on_none
  | arraylength => exact mm_on_ite b6 mm_on_none
  | _ => exact mm_on_none
section MMT
variable {p : Program} {l : Launch} {e : Env} {R : Room} {s : State} {m : MethodId} {args : Array Value} {below : List Frame} {meth : Method} {c : Code} {Q : State → Prop} {j : Nat} {D : va_G} {ad : Nat → Nat} {cI cC : ClassId} {A : Nat → Prop}
variable {pc pc' : Nat} {lo : mm_L} {st : List mm_V} {M : mm_M} {q : mm_F}
theorem mm_n {n k : Nat} {x : mm_R} {y : mm_F ⊕ ((Nat × List mm_V × List mm_V) ⊕ Option Int32)} (h : (if n = k then x else none) = some y) : n = k ∧ x = some y := by
  split at h
  · exact ⟨by assumption, h⟩
  · cases h
theorem mm_cl_in {cn i : Nat} {f : (Nat × Nat) × (Nat × Nat × Nat × Nat × Nat × Nat × Nat)} (h : mm_cll cn i = some f) : f ∈ mm_calls ∧ f.1 = (cn, i) := by
  unfold mm_cll at h
  have h2 := List.find?_some h
  simp only [Bool.and_eq_true] at h2
  exact ⟨List.mem_of_find?_eq_some h, Prod.ext (Nat.eq_of_beq_eq_true h2.1) (Nat.eq_of_beq_eq_true h2.2)⟩
theorem mm_s_cpy {f : (Nat × Nat) × (Nat × Nat × Nat × Nat × Nat × Nat × Nat)} {i : Nat} (C0 : mm_C p R s m args meth c j D ad cI cC A) (hf : mm_cll (mm_cno j) i = some f) (hk3 : f.2.1 = 3) (hd : decode (mm_code j) pc = .ok (.invokestatic i, 3))
    (h : mm_cpy j pc lo st M = some (.inl q)) (k : mm_G p l e R s m args below meth c Q j D ad cI cC A q) : mm_G p l e R s m args below meth c Q j D ad cI cC A (pc, lo, st, M) := by
  obtain ⟨hx, hb, hml, hr, hlk, hown, hts, hK, hX, hA, hfr, hlo⟩ := C0
  obtain ⟨hfm, hfi⟩ := mm_cl_in hf
  have hok := List.all_eq_true.mp mm_calls_ok f hfm
  obtain ⟨⟨fa, fb⟩, kd, fk, fc, i1, i2, i3, i4⟩ := f
  cases hfi
  simp only at hk3
  subst hk3
  simp only [mm_cOk, Bool.and_eq_true] at hok
  obtain ⟨⟨⟨o1, o2⟩, o3⟩, o4⟩ := hok
  unfold mm_cpy at h
  split at h
  · rename_i n dp a sp b rest
    split at h
    · rename_i na nb ha hb0
      split at h
      · rename_i hc
        obtain ⟨⟨c1, c2, c3, c4, c5⟩, c6, c7, c8⟩ := hc
        have k1 := mm_s_nx h k
        intro H locs ls hP hD hS hl hn
        have hnf : nativeFrameWords "java/lang/System" "arraycopy" 5 + 11 = 18 := by decide +kernel
        refine va_copyi (tys := mm_tys cI cC) (ty := .int) hx hb (by rw [hml, hl.2.1, hn]) hown (hts _ (mm_w_in o1)) (hts _ (mm_w_in o2)) (hts _ (mm_w_in o3)) (hts _ (mm_w_in o4)) hK hP hD hS b a 0 0 (mm_get_w hb0) (mm_get_w ha) rfl rfl rfl c1 c2 c3 c4 c5 (fun _ _ => rfl) (by omega) (by rw [hnf, mm_sum]; omega) hd (fun H1 locs1 hP1 hD1 hS1 => ?_)
        have hP1 : va_P D vwCl ((mm_world ad cI cC M).set a (ad a, .inl (if (false : Bool) = true then cC else cI, na, .inl (va_cpy (M b) (M a) sp.toNatClampNeg dp.toNatClampNeg n.toNatClampNeg)))) H1 := hP1
        have hD1 : va_D A ((mm_world ad cI cC M).set a (ad a, .inl (if (false : Bool) = true then cC else cI, na, .inl (va_cpy (M b) (M a) sp.toNatClampNeg dp.toNatClampNeg n.toNatClampNeg)))) := hD1
        rw [mm_set_w ha] at hP1 hD1
        exact k1 H1 locs1 ls hP1 hD1 hS1 hl hn
      · cases h
    · cases h
  · cases h
set_option maxHeartbeats 4000000 in
theorem mm_s_step (C0 : mm_C p R s m args meth c j D ad cI cC A) (h : mm_step j pc lo st M = some (.inl q)) (k : mm_G p l e R s m args below meth c Q j D ad cI cC A q) : mm_G p l e R s m args below meth c Q j D ad cI cC A (pc, lo, st, M) := by
  obtain ⟨hx, hb, hml, hr, hlk, hown, hts, hK, hX, hA, hfr, hlo⟩ := id C0
  unfold mm_step at h
  cases hd : decode (mm_code j) pc with
  | error e => rw [hd] at h; cases h
  | ok z =>
    obtain ⟨i, n⟩ := z
    rw [hd] at h
    replace h : mm_do j pc i n lo st M = some (.inl q) := h
    cases i with
    | iconst v => have hz := mm_n h; clear h; obtain ⟨rfl, h⟩ := hz; exact mm_s_row (fun H locs ls hl hP hS w => lv_iconst hx hb hd rfl w) (mm_s_nx h k)
    | bipush v => have hz := mm_n h; clear h; obtain ⟨rfl, h⟩ := hz; exact mm_s_row (fun H locs ls hl hP hS w => lv_bipush hx hb hd rfl w) (mm_s_nx h k)
    | sipush v => have hz := mm_n h; clear h; obtain ⟨rfl, h⟩ := hz; exact mm_s_row (fun H locs ls hl hP hS w => lv_sipush hx hb hd rfl w) (mm_s_nx h k)
    | iload_n v => have hz := mm_n h; clear h; obtain ⟨rfl, h⟩ := hz; exact mm_s_ldi (fun H locs ls rest x z w => lv_iload_n hx hb hd rfl z w) h k
    | iload v => have hz := mm_n h; clear h; obtain ⟨rfl, h⟩ := hz; exact mm_s_ldi (fun H locs ls rest x z w => lv_iload hx hb hd z w) h k
    | aload_n v => have hz := mm_n h; clear h; obtain ⟨rfl, h⟩ := hz; exact mm_s_lda (fun H locs ls rest x z w => lv_aload_n hx hb hd rfl z w) h k
    | aload v => have hz := mm_n h; clear h; obtain ⟨rfl, h⟩ := hz; exact mm_s_lda (fun H locs ls rest x z w => lv_aload hx hb hd z w) h k
    | istore_n v => have hz := mm_n h; clear h; obtain ⟨rfl, h⟩ := hz; exact mm_s_sti (fun H locs ls rest x z hi w => lv_istore_n hx hb hd rfl z hi rfl w) h k
    | istore v => have hz := mm_n h; clear h; obtain ⟨rfl, h⟩ := hz; exact mm_s_sti (fun H locs ls rest x z hi w => lv_istore hx hb hd z hi rfl w) h k
    | iinc v w => have hz := mm_n h; clear h; obtain ⟨rfl, h⟩ := hz; exact mm_s_inc hx hb hd h k
    | iadd => have hz := mm_n h; clear h; obtain ⟨rfl, h⟩ := hz; exact mm_s_bin (fun H locs ls rest x y _ w => lv_iadd hx hb hd w) h k
    | isub => have hz := mm_n h; clear h; obtain ⟨rfl, h⟩ := hz; exact mm_s_bin (fun H locs ls rest x y _ w => lv_isub hx hb hd w) h k
    | imul => have hz := mm_n h; clear h; obtain ⟨rfl, h⟩ := hz; exact mm_s_bin (fun H locs ls rest x y _ w => lv_imul hx hb hd w) h k
    | iand => have hz := mm_n h; clear h; obtain ⟨rfl, h⟩ := hz; exact mm_s_bin (fun H locs ls rest x y _ w => lv_iand hx hb hd w) h k
    | ior => have hz := mm_n h; clear h; obtain ⟨rfl, h⟩ := hz; exact mm_s_bin (fun H locs ls rest x y _ w => lv_ior hx hb hd w) h k
    | ixor => have hz := mm_n h; clear h; obtain ⟨rfl, h⟩ := hz; exact mm_s_bin (fun H locs ls rest x y _ w => lv_ixor hx hb hd w) h k
    | ishl => have hz := mm_n h; clear h; obtain ⟨rfl, h⟩ := hz; exact mm_s_bin (fun H locs ls rest x y _ w => lv_ishl hx hb hd w) h k
    | ishr => have hz := mm_n h; clear h; obtain ⟨rfl, h⟩ := hz; exact mm_s_bin (fun H locs ls rest x y _ w => lv_ishr hx hb hd w) h k
    | irem =>
      replace h : (if n = 1 ∧ st.head? ≠ some (.inl 0) then mm_bin (fun x y => x - x / y * y) pc lo st M else none) = some (.inl q) := h
      split at h
      · rename_i hz
        obtain ⟨hn1, hz⟩ := hz
        subst hn1
        exact mm_s_bin (fun H locs ls rest x y hy w => lv_irem hx hb hd (fun e0 => hz (by rw [hy, e0])) w) h k
      · cases h
    | ineg => have hz := mm_n h; clear h; obtain ⟨rfl, h⟩ := hz; exact mm_s_un (fun H locs ls rest x w => lv_ineg hx hb hd w) h k
    | i2c => have hz := mm_n h; clear h; obtain ⟨rfl, h⟩ := hz; exact mm_s_un (fun H locs ls rest x w => lv_i2c hx hb hd rfl w) h k
    | dup =>
      have hz := mm_n h; clear h; obtain ⟨rfl, h⟩ := hz
      split at h
      · exact mm_s_row (fun H locs ls hl hP hS w => lv_dup hx hb hd (mm_tv_cat ad _) w) (mm_s_nx h k)
      · cases h
    | dup2 =>
      have hz := mm_n h; clear h; obtain ⟨rfl, h⟩ := hz
      split at h
      · exact mm_s_row (fun H locs ls hl hP hS w => lv_dup2_11 hx hb hd (mm_tv_cat ad _) (mm_tv_cat ad _) w) (mm_s_nx h k)
      · cases h
    | pop =>
      have hz := mm_n h; clear h; obtain ⟨rfl, h⟩ := hz
      split at h
      · exact mm_s_row (fun H locs ls hl hP hS w => lv_pop hx hb hd (mm_tv_cat ad _) w) (mm_s_nx h k)
      · cases h
    | goto off =>
      have hz := mm_n h; clear h; obtain ⟨rfl, h⟩ := hz
      obtain ⟨tgt, ht, k1⟩ := mm_s_jmp h k
      exact mm_s_row (fun H locs ls hl hP hS w => lv_goto hx hb hd ht w) k1
    | ifCond cd off => have hz := mm_n h; clear h; obtain ⟨rfl, h⟩ := hz; exact mm_s_if1 hx hb hd h k
    | if_icmp cd off => have hz := mm_n h; clear h; obtain ⟨rfl, h⟩ := hz; exact mm_s_if2 hx hb hd h k
    | tableswitch d l h' offs => exact mm_s_tsw hx hb hd h k
    | lookupswitch d ps => exact mm_s_lsw hx hb hd h k
    | getfield i =>
      have hz := mm_n h; clear h; obtain ⟨rfl, h⟩ := hz
      split at h
      · rename_i f hf
        exact mm_s_get C0 hf hd h k
      · cases h
    | putfield i =>
      have hz := mm_n h; clear h; obtain ⟨rfl, h⟩ := hz
      split at h
      · rename_i f hf
        exact mm_s_put C0 hf hd h k
      · cases h
    | getstatic i =>
      have hz := mm_n h; clear h; obtain ⟨rfl, h⟩ := hz
      split at h
      · rename_i f hf
        exact mm_s_gst C0 hf hd h k
      · cases h
    | iaload => have hz := mm_n h; clear h; obtain ⟨rfl, h⟩ := hz; exact mm_s_ald (ch := false) C0 hd h k
    | caload => have hz := mm_n h; clear h; obtain ⟨rfl, h⟩ := hz; exact mm_s_ald (ch := true) C0 hd h k
    | iastore => have hz := mm_n h; clear h; obtain ⟨rfl, h⟩ := hz; exact mm_s_ast (ch := false) C0 hd h k
    | castore => have hz := mm_n h; clear h; obtain ⟨rfl, h⟩ := hz; exact mm_s_ast (ch := true) C0 hd h k
    | arraylength => have hz := mm_n h; clear h; obtain ⟨rfl, h⟩ := hz; exact mm_s_len C0 hd h k
    | invokevirtual i =>
      have hz := mm_n h; clear h; obtain ⟨rfl, h⟩ := hz
      split at h
      · unfold mm_inv at h
        split at h
        · split at h
          · split at h <;> cases h
          · cases h
        · cases h
      · cases h
    | invokestatic i =>
      have hz := mm_n h; clear h; obtain ⟨rfl, h⟩ := hz
      split at h
      · rename_i f hf
        unfold mm_ins at h
        split at h
        · rename_i hk3
          exact mm_s_cpy C0 hf hk3 hd h k
        · split at h <;> cases h
      · cases h
    | ireturn =>
      have hz := mm_n h; clear h; obtain ⟨rfl, h⟩ := hz
      unfold mm_rti at h
      split at h
      · split at h <;> cases h
      · cases h
    | return_ =>
      have hz := mm_n h; clear h; obtain ⟨rfl, h⟩ := hz
      unfold mm_rtv at h
      split at h
      · split at h <;> cases h
      · cases h
    | _ => exact absurd (show (none : mm_R) = some (.inl q) from h) (by simp)
-- contracts
def mm_pre (D : va_G) (ad : Nat → Nat) (cI cC : ClassId) (M : mm_M) (sz : Nat) (U : State) : Prop :=
  U.heap.size = sz ∧ va_P D vwCl (mm_world ad cI cC M) U.heap ∧ va_K D vwCl (mm_tys cI cC) U ∧ va_D (fun _ => True) (mm_world ad cI cC M) ∧ mm_X ad (va_A (mm_world ad cI cC M) sz) U U.heap
def mm_B (D : va_G) (ad : Nat → Nat) (cI cC : ClassId) (M' : mm_M) (t : State) : Prop := va_P D vwCl (mm_world ad cI cC M') t.heap ∧ va_K D vwCl (mm_tys cI cC) t
def mm_post (r0 : Option Int32) (M0 : mm_M) (D : va_G) (ad : Nat → Nat) (cI cC : ClassId) (A : Nat → Prop) : Array Value → State → Outcome → State → Prop := match r0 with
  | none => va_Qv (fun M' : mm_M => M' = M0) (mm_B D ad cI cC) A
  | some v => va_Qi (fun (r : Int32) (M' : mm_M) => r = v ∧ M' = M0) (mm_B D ad cI cC) A
def mm_ws (k : Nat) : List Cond := .code (mm_y k) (mm_code k) (mm_maxL k) (mm_ret k) :: mm_GW
def mm_rm (k : Nat) : Room := { frames := mm_fr k, cells := 0, slots := 0, locals := mm_lo k }
def mm_met (l : Launch) (k : Nat) (as : List mm_V) (M : mm_M) (r0 : Option Int32) (M0 : mm_M) : Prop := ∀ (D : va_G) (ad : Nat → Nat) (cI cC : ClassId) (sz : Nat),
  Met l (mm_y k) (mm_ws k) (mm_rm k) (va_Pc (as.map (mm_tv ad)) (mm_pre D ad cI cC M sz)) (mm_post r0 M0 D ad cI cC (va_A (mm_world ad cI cC M) sz)) 0 0 (va_A (mm_world ad cI cC M) sz)
theorem mm_blind {as : List Value} {sz : Nat} : FrameBlind (va_Pc as (mm_pre D ad cI cC M sz)) := by
  intro a U g mk q
  obtain ⟨q0, q1, qP, qK, qD, qX⟩ := q
  exact ⟨q0, q1, qP, va_K.moved (u := U) (U := U.calling g mk a) (Vm.Alike.refl U.vm) qK, qD, mm_X_blind g mk a qX⟩
theorem mm_rec_ok {k : Nat} (hk : k < mm_tab.length) : plainFor (mm_y k) = true ∧ Cond.code (mm_y k) (mm_code k) (mm_maxL k) (mm_ret k) ∈ mm_GW ∧ Cond.initialized (mm_y k).cls ∈ mm_GW ∧ (mm_y k).cls = mm_cn (mm_cno k) ∧ (mm_y k).cls ≠ "java/lang/invoke/MethodHandle" ∧ (mm_y k).cls ≠ "java/lang/invoke/VarHandle" ∧ (parseMethodDescriptor (mm_y k).desc).map (fun d => d.parameters.length) = some (mm_np k) := by
  have hm : mm_rec k ∈ mm_tab := by
    have e1 : mm_rec k = mm_tab[k] := by simp [mm_rec, List.getD, List.getElem?_eq_getElem hk]
    rw [e1]
    exact List.getElem_mem hk
  have h := List.all_eq_true.mp mm_tab_ok _ hm
  simp only [mm_tOk, mm_hOk, Bool.and_eq_true, decide_eq_true_eq] at h
  obtain ⟨⟨⟨⟨h1, h2⟩, h3⟩, h4⟩, h5⟩ := h
  exact ⟨h1, mm_w_in h2, mm_w_in h3, h4, h5⟩
theorem mm_ws_good {k : Nat} (hk : k < mm_tab.length) (ws : List Cond) (hw : ∀ w ∈ ws, w ∈ mm_GW) : GoodIn mm_GW (ws ++ mm_ws k) := by
  refine mm_good _ (fun w h => ?_)
  rcases List.mem_append.mp h with h | h
  · exact hw w h
  · rcases List.mem_cons.mp h with rfl | h
    · exact (mm_rec_ok hk).2.1
    · exact h
theorem mm_enter (C0 : mm_C p R s m args meth c j D ad cI cC A) {k : Nat} {as : List mm_V} {H : Heap} {locs : List Loc} (hP : va_P D vwCl (mm_world ad cI cC M) H) (hD : va_D A (mm_world ad cI cC M)) (hS : va_S A s.heap H locs) (U : State) (hU : U.heap = H) (hW : s.WarmedH U.vm) :
    va_Pc (as.map (mm_tv ad)) (mm_pre D ad cI cC M H.size) (as.map (mm_tv ad)).toArray U := by
  obtain ⟨hx, hb, hml, hr, hlk, hown, hts, hK, hX, hA, hfr, hlo⟩ := C0
  refine ⟨rfl, by rw [hU], by rw [hU]; exact hP, va_K.moved hW.alike hK, hD.weaken (fun _ _ _ _ => trivial), mm_X_go hX hW hU hS ?_⟩
  intro q h
  rcases h with ⟨i, e0, h⟩ | h
  · exact hD.2 i (q, e0) h
  · exact hA q (Nat.le_trans hS.1 h)
/-- behind a call -/
theorem mm_leave (C0 : mm_C p R s m args meth c j D ad cI cC A) {as : List mm_V} {r : List mm_V} {r0 : Option Int32} {M0 : mm_M} {H : Heap} {locs : List Loc} {ls : Array Slot} {a : Array Value}
    (hP : va_P D vwCl (mm_world ad cI cC M) H) (hD : va_D A (mm_world ad cI cC M)) (hS : va_S A s.heap H locs) (hl : mm_ls ad lo ls) (hn : lo.length = mm_maxL j)
    (hr : va_Run p l e R s m args below meth c H locs 0 0 0 0 (F0 m pc ls (st.map (mm_tv ad))) (r.map (mm_tv ad)) (mm_post r0 M0 D ad cI cC (va_A (mm_world ad cI cC M) H.size) a) (va_A (mm_world ad cI cC M) H.size))
    (k : mm_G p l e R s m args below meth c Q j D ad cI cC A (pc + 3, lo, mm_rv r0 ++ r, M0)) : W p l e R s m args below meth c H locs 0 0 Q (F0 m pc ls (st.map (mm_tv ad))) := by
  obtain ⟨hx, hb, hml, hr0, hlk, hown, hts, hK, hX, hA, hfr, hlo⟩ := C0
  have hF : ∀ q, va_A (mm_world ad cI cC M) H.size q → A q := by
    intro q h
    rcases h with ⟨i, e0, h⟩ | h
    · exact hD.2 i (q, e0) h
    · exact hA q (Nat.le_trans hS.1 h)
  cases r0 with
  | none =>
    refine va_callv (a := a) hr hS (fun q _ h => hF q h) hF (fun u t H1 locs1 ht hvm hw hB hz1 hk1 hS1 => ?_)
    subst hw
    obtain ⟨hP1, -⟩ := hB
    rw [ht] at hP1
    exact k H1 locs1 ls hP1 (mm_D hD) hS1 hl hn
  | some v =>
    refine va_calli (a := a) hr hS (fun q _ h => hF q h) hF (fun r1 u t H1 locs1 ht hvm hw hB hz1 hk1 hS1 => ?_)
    obtain ⟨rfl, rfl⟩ := hw
    obtain ⟨hP1, -⟩ := hB
    rw [ht] at hP1
    exact k H1 locs1 ls hP1 (mm_D hD) hS1 hl hn
theorem mm_s_call (C0 : mm_C p R s m args meth c j D ad cI cC A) {k : Nat} {as r : List mm_V} {r0 : Option Int32} {M0 : mm_M} (h : mm_step j pc lo st M = some (.inr (.inl (k, as, r)))) (hM : k < mm_tab.length → as.length ≤ mm_maxL k → mm_met l k as M r0 M0)
    (kk : mm_G p l e R s m args below meth c Q j D ad cI cC A (pc + 3, lo, mm_rv r0 ++ r, M0)) : mm_G p l e R s m args below meth c Q j D ad cI cC A (pc, lo, st, M) := by
  obtain ⟨hx, hb, hml, hr, hlk, hown, hts, hK, hX, hA, hfr, hlo⟩ := id C0
  unfold mm_step at h
  cases hd : decode (mm_code j) pc with
  | error e => rw [hd] at h; cases h
  | ok z =>
    obtain ⟨i, n⟩ := z
    rw [hd] at h
    replace h : mm_do j pc i n lo st M = some (.inr (.inl (k, as, r))) := h
    have nx : ∀ {P' L' S' M'}, ¬ (mm_nx P' L' S' M' = some (.inr (.inl (k, as, r)))) := fun z => by cases z
    cases i with
    | invokevirtual i =>
      have hz := mm_n h; clear h; obtain ⟨rfl, h⟩ := hz
      split at h
      · rename_i f hf
        obtain ⟨hfm, hfi⟩ := mm_cl_in hf
        have hok := List.all_eq_true.mp mm_calls_ok f hfm
        unfold mm_inv at h
        split at h
        · rename_i o r' hdrop
          split at h
          · rename_i ci fs ho
            split at h
            · rename_i hc
              obtain ⟨⟨fa, fb⟩, kd, fk, fc, i1, i2, i3, i4⟩ := f
              cases hfi
              cases h
              obtain ⟨hk0, hci, hroom⟩ := hc
              simp only at hk0 hci hroom hdrop
              subst hk0
              subst hci
              simp only [mm_cOk, Bool.and_eq_true, decide_eq_true_eq] at hok
              obtain ⟨⟨⟨⟨⟨o0, o1⟩, o2⟩, o3⟩, o4⟩, o5⟩ := hok
              simp only [mm_roomy, Bool.and_eq_true] at hroom
              obtain ⟨⟨⟨g1, g2⟩, g3⟩, g4⟩ := hroom
              have g1 := Nat.le_of_ble_eq_true g1
              have g2 := Nat.le_of_ble_eq_true g2
              have g3 := Nat.le_of_ble_eq_true g3
              have g4 := Nat.le_of_ble_eq_true g4
              have hlen : mm_np fk ≤ st.length := by
                have z : (st.drop (mm_np fk)).length = (r.length + 1) := by rw [hdrop]; rfl
                rw [List.length_drop] at z
                omega
              have hna : ((st.take (mm_np fk)).reverse).length = mm_np fk := by simp; omega
              have hM1 := hM o0 (by simp only [List.length_cons, hna]; exact g4) D ad cI cC
              have hrk := mm_rec_ok o0
              intro H locs ls hP hD hS hl hn
              obtain ⟨rq, hrq1, hrq2⟩ : ∃ rq : vw_C, vwCl[ci]? = some rq ∧ rq.1 = (mm_y fk).cls := by
                cases hv : vwCl[ci]? with
                | none => rw [hv] at o5; cases o5
                | some rq => rw [hv] at o5; exact ⟨rq, rfl, Option.some.inj o5⟩
              have hrec : ∃ cellB : Cell, H[ad o]? = some cellB ∧ cellB.vm.isStatics = false ∧ s.vm.findClass (mm_y fk).cls = some cellB.cls := by
                rw [← hrq2]
                exact va_recv hK hP hrq1 (mm_get_w ho)
              have hst : st.map (mm_tv ad) = ((st.take (mm_np fk)).reverse.map (mm_tv ad)).reverse ++ .ref (ad o) :: r.map (mm_tv ad) := by
                rw [← List.map_reverse, List.reverse_reverse]
                conv => lhs; rw [← List.take_append_drop (mm_np fk) st, hdrop, List.map_append]
                rfl
              refine mm_leave (a := (Value.ref (ad o) :: (st.take (mm_np fk)).reverse.map (mm_tv ad)).toArray) C0 (as := .inr o :: (st.take (mm_np fk)).reverse) hP hD hS hl hn (va_runV (As := (st.take (mm_np fk)).reverse.map (mm_tv ad)) (nL := mm_maxL j) (own := mm_cn (mm_cno j)) (Ts := mm_GW) ⟨hx, hb, hml, hown, hts⟩ (hM1 H.size)
                (cwV (C := (mm_y fk).cls) (mm_np fk) hts (mm_ws_good o0 [.methodLink (mm_cn (mm_cno j)) i (mm_y fk), .instanceMethod (mm_y fk), .selects (mm_y fk).cls (mm_y fk) (mm_y fk), .initialized (mm_y fk).cls] ?_) rfl rfl rfl ⟨rfl, hrk.2.2.2.2⟩ ⟨?_, ?_⟩)
                ⟨mm_blind, hrec, fun U hU hW => mm_enter (as := .inr o :: (st.take (mm_np fk)).reverse) (k := fk) C0 hP hD hS U hU hW⟩ rfl (by rw [List.length_map]; exact hna) (by show ls.size = _; rw [hl.2.1, hn]) hst (lv_room (by rw [mm_sum]; exact g3)) hd ⟨Nat.zero_le _, Nat.zero_le _⟩) kk
              · intro w hw
                simp only [List.mem_cons, List.not_mem_nil, or_false] at hw
                rcases hw with rfl | rfl | rfl | rfl
                · exact mm_w_in o1
                · exact mm_w_in o2
                · exact mm_w_in o3
                · exact mm_w_in o4
              · exact Nat.le_trans g1 hfr
              · exact Nat.le_trans g2 hlo
            · cases h
          · cases h
        · cases h
      · cases h
    | invokestatic i =>
      have hz := mm_n h; clear h; obtain ⟨rfl, h⟩ := hz
      split at h
      · rename_i f hf
        obtain ⟨hfm, hfi⟩ := mm_cl_in hf
        have hok := List.all_eq_true.mp mm_calls_ok f hfm
        unfold mm_ins at h
        split at h
        · unfold mm_cpy at h
          split at h
          · split at h
            · split at h
              · exact absurd h nx
              · cases h
            · cases h
          · cases h
        · split at h
          · rename_i hc
            obtain ⟨⟨fa, fb⟩, kd, fk, fc, i1, i2, i3, i4⟩ := f
            cases hfi
            cases h
            obtain ⟨hk0, hlen, hroom⟩ := hc
            simp only at hk0 hlen hroom
            simp only [mm_roomy, Bool.and_eq_true] at hroom
            obtain ⟨⟨⟨g1, g2⟩, g3⟩, g4⟩ := hroom
            have g1 := Nat.le_of_ble_eq_true g1
            have g2 := Nat.le_of_ble_eq_true g2
            have g3 := Nat.le_of_ble_eq_true g3
            have g4 := Nat.le_of_ble_eq_true g4
            have hna : ((st.take (mm_np fk)).reverse).length = mm_np fk := by simp; omega
            have hst : st.map (mm_tv ad) = ((st.take (mm_np fk)).reverse.map (mm_tv ad)).reverse ++ (st.drop (mm_np fk)).map (mm_tv ad) := by
              rw [← List.map_reverse, List.reverse_reverse, ← List.map_append, List.take_append_drop]
            rcases hk0 with rfl | rfl
            · simp only [mm_cOk, Bool.and_eq_true, decide_eq_true_eq] at hok
              obtain ⟨⟨⟨o0, o1⟩, o2⟩, o3⟩ := hok
              have hM1 := hM o0 (by rw [hna]; exact g4) D ad cI cC
              have hrk := mm_rec_ok o0
              intro H locs ls hP hD hS hl hn
              refine mm_leave (a := ((st.take (mm_np fk)).reverse.map (mm_tv ad)).toArray) C0 (as := (st.take (mm_np fk)).reverse) hP hD hS hl hn (va_runS (As := (st.take (mm_np fk)).reverse.map (mm_tv ad)) (nL := mm_maxL j) (own := mm_cn (mm_cno j)) (Ts := mm_GW) ⟨hx, hb, hml, hown, hts⟩ (hM1 H.size)
                (va_cwS (mm_np fk) hts (mm_ws_good o0 [.methodLink (mm_cn (mm_cno j)) i (mm_y fk), .static (mm_y fk), .initialized (mm_y fk).cls] ?_) rfl rfl rfl hrk.2.2.2.2 ⟨?_, ?_⟩)
                ⟨mm_blind, fun U hU hW => mm_enter (as := (st.take (mm_np fk)).reverse) (k := fk) C0 hP hD hS U hU hW⟩ rfl (by rw [List.length_map]; exact hna) (by show ls.size = _; rw [hl.2.1, hn]) hst (lv_room (by rw [mm_sum]; exact g3)) hd ⟨Nat.zero_le _, Nat.zero_le _⟩) kk
              · intro w hw
                simp only [List.mem_cons, List.not_mem_nil, or_false] at hw
                rcases hw with rfl | rfl | rfl
                · exact mm_w_in o1
                · exact mm_w_in o2
                · exact mm_w_in o3
              · exact Nat.le_trans g1 hfr
              · exact Nat.le_trans g2 hlo
            · simp only [mm_cOk, Bool.and_eq_true, decide_eq_true_eq] at hok
              obtain ⟨⟨⟨o0, o1⟩, o2⟩, o3⟩ := hok
              have hM1 := hM o0 (by rw [hna]; exact g4) D ad cI cC
              have hrk := mm_rec_ok o0
              have hnest := hX.2.1 _ hfm rfl
              intro H locs ls hP hD hS hl hn
              exact mm_leave (a := ((st.take (mm_np fk)).reverse.map (mm_tv ad)).toArray) C0 (as := (st.take (mm_np fk)).reverse) hP hD hS hl hn (va_runSN (host := "LimbScore") (As := (st.take (mm_np fk)).reverse.map (mm_tv ad)) (nL := mm_maxL j) (own := mm_cn (mm_cno j)) (Ts := mm_GW) ⟨hx, hb, hml, hown, hts⟩ (hM1 H.size)
                ⟨va_cnB (Ts := mm_GW) (mm_np fk) hts (mm_ws_good o0 [] (fun w hw => by cases hw)) rfl rfl rfl hnest (hts _ (mm_w_in o3)) hrk.2.2.2.2 ⟨Nat.le_trans g1 hfr, Nat.le_trans g2 hlo⟩, hts _ (mm_w_in o2), trivial⟩
                ⟨mm_blind, fun U hU hW => mm_enter (as := (st.take (mm_np fk)).reverse) (k := fk) C0 hP hD hS U hU hW⟩ rfl (by rw [List.length_map]; exact hna) (by show ls.size = _; rw [hl.2.1, hn]) hst (lv_room (by rw [mm_sum]; exact g3)) hd ⟨Nat.zero_le _, Nat.zero_le _⟩) kk
          · cases h
      · cases h
    | ireturn =>
      have hz := mm_n h; clear h; obtain ⟨rfl, h⟩ := hz
      unfold mm_rti at h
      split at h
      · split at h <;> cases h
      · cases h
    | return_ =>
      have hz := mm_n h; clear h; obtain ⟨rfl, h⟩ := hz
      unfold mm_rtv at h
      split at h
      · split at h <;> cases h
      · cases h
    | _ => exact (mm_on_not (mm_on_do (by simp) (by simp) (by simp) (by simp)) h).elim
theorem mm_ofW {y : MethodName} {ws ws' : List Cond} {rm : Room} {Pc : Array Value → State → Prop} {Qc : Array Value → State → Outcome → State → Prop} {mc ms : Nat} {free : Addr → Prop} {cc : ByteArray} {maxL : Nat} {ret : Option FieldType}
    (hy : plainFor y = true) (hw : ws = Cond.code y cc maxL ret :: ws')
    (body : ∀ p e s m args below meth c s₁, BodyLoose p l y (headSpec ws rm) cc maxL ret e s m args below meth c s₁ → c.maxLocals = maxL → Pc args s →
      W p l e (headSpec ws rm).room s m args below meth c s.heap [] 0 0 (MQ below Qc args s mc ms free) (entryFrame m args maxL)) : Met l y ws rm Pc Qc mc ms free := by
  refine MetFree.of_bodySF (code := cc) (maxLocals := maxL) (ret := ret) hy ?_ ?_
  · intro args s m h hn
    obtain ⟨meth, c, h1, h2, h3, h4, h5, h6, -, -⟩ := Cond.code_spec hn (atoms_spec (ws := ws) h _ (by rw [hw]; exact List.mem_cons_self))
    exact ⟨meth, c, h1, h2, h3, h4, h5, h6⟩
  · intro p e s m args below meth c s₁ B hml hP _
    have hh0 : s₁.heap = s.heap := by rw [B.state]; rfl
    obtain ⟨t, a1, o, b1, b2, b3⟩ := body p e s m args below meth c s₁ B hml hP s₁ hh0 (Stand.of_body B)
    exact ⟨t, o, a1, b1, b2, ⟨b3.1, b3.2⟩⟩
theorem mm_s_ret (C0 : mm_C p R s m args meth c j D ad cI cC A) {r : Option Int32} (h : mm_step j pc lo st M = some (.inr (.inr r))) : mm_G p l e R s m args below meth c (MQ below (mm_post r M D ad cI cC A) args s 0 0 A) j D ad cI cC A (pc, lo, st, M) := by
  obtain ⟨hx, hb, hml, hr, hlk, hown, hts, hK, hX, hA, hfr, hlo⟩ := id C0
  unfold mm_step at h
  cases hd : decode (mm_code j) pc with
  | error e => rw [hd] at h; cases h
  | ok z =>
    obtain ⟨i, n⟩ := z
    rw [hd] at h
    replace h : mm_do j pc i n lo st M = some (.inr (.inr r)) := h
    have key : ∀ {lo' st' M' pc'}, ¬ (mm_nx pc' lo' st' M' = some (.inr (.inr r))) := fun z => by cases z
    cases i with
    | ireturn =>
      have hz := mm_n h; clear h; obtain ⟨rfl, h⟩ := hz
      unfold mm_rti at h
      split at h
      · rename_i v
        split at h
        · rename_i hc
          cases h
          intro H locs ls hP hD hS hl hn
          have hq : ∀ t : State, t.heap = H → s.WarmedH t.vm → mm_post (some v) M D ad cI cC A args s (.returned (some (.int v))) t := fun t ht hW => ⟨⟨v, M, rfl, ⟨rfl, rfl⟩, by rw [ht]; exact hP, va_K.moved hW.alike hK⟩, hS.F ht⟩
          rcases hc with hc | ⟨hc, hv⟩
          · exact W.iret hx hb (hr.trans hc) hq hS.2.2 hd hlk
          · exact W.zret hx hb (hr.trans hc) (by rcases hv with rfl | rfl <;> rfl) hq hS.2.2 hd hlk
        · cases h
      · cases h
    | return_ =>
      have hz := mm_n h; clear h; obtain ⟨rfl, h⟩ := hz
      unfold mm_rtv at h
      split at h
      · split at h
        · rename_i hc
          cases h
          intro H locs ls hP hD hS hl hn
          exact W.vret hx hb (hr.trans hc) (fun t ht hW => ⟨⟨M, rfl, rfl, by rw [ht]; exact hP, va_K.moved hW.alike hK⟩, hS.F ht⟩) hS.2.2 hd hlk
        · cases h
      · cases h
    | invokevirtual i =>
      have hz := mm_n h; clear h; obtain ⟨rfl, h⟩ := hz
      split at h
      · unfold mm_inv at h
        split at h
        · split at h
          · split at h <;> cases h
          · cases h
        · cases h
      · cases h
    | invokestatic i =>
      have hz := mm_n h; clear h; obtain ⟨rfl, h⟩ := hz
      split at h
      · unfold mm_ins at h
        split at h
        · unfold mm_cpy at h
          split at h
          · split at h
            · split at h
              · exact absurd h key
              · cases h
            · cases h
          · cases h
        · split at h <;> cases h
      · cases h
    | _ => exact (mm_on_not (mm_on_do (by simp) (by simp) (by simp) (by simp)) h).elim
end MMT
/-- what the small machine answers, the machine answers: by the number of its steps -/
theorem mm_sound (l : Launch) : ∀ n : Nat,
    (∀ (j pc : Nat) (lo : mm_L) (st : List mm_V) (M : mm_M) (r0 : Option Int32) (M0 : mm_M), mm_run n j pc lo st M = some (r0, M0) →
      ∀ (p : Program) (e : Env) (R : Room) (s : State) (m : MethodId) (args : Array Value) (below : List Frame) (meth : Method) (c : Code) (D : va_G) (ad : Nat → Nat) (cI cC : ClassId) (A : Nat → Prop),
        mm_C p R s m args meth c j D ad cI cC A → mm_G p l e R s m args below meth c (MQ below (mm_post r0 M0 D ad cI cC A) args s 0 0 A) j D ad cI cC A (pc, lo, st, M)) ∧
    (∀ (k : Nat) (as : List mm_V) (M : mm_M) (r0 : Option Int32) (M0 : mm_M), k < mm_tab.length → as.length ≤ mm_maxL k → mm_run n k 0 (mm_ent k as) [] M = some (r0, M0) → mm_met l k as M r0 M0) := by
  have meet : ∀ n : Nat, (∀ (j pc : Nat) (lo : mm_L) (st : List mm_V) (M : mm_M) (r0 : Option Int32) (M0 : mm_M), mm_run n j pc lo st M = some (r0, M0) →
      ∀ (p : Program) (e : Env) (R : Room) (s : State) (m : MethodId) (args : Array Value) (below : List Frame) (meth : Method) (c : Code) (D : va_G) (ad : Nat → Nat) (cI cC : ClassId) (A : Nat → Prop),
        mm_C p R s m args meth c j D ad cI cC A → mm_G p l e R s m args below meth c (MQ below (mm_post r0 M0 D ad cI cC A) args s 0 0 A) j D ad cI cC A (pc, lo, st, M)) →
      ∀ (k : Nat) (as : List mm_V) (M : mm_M) (r0 : Option Int32) (M0 : mm_M), k < mm_tab.length → as.length ≤ mm_maxL k → mm_run n k 0 (mm_ent k as) [] M = some (r0, M0) → mm_met l k as M r0 M0 := by
    intro n ih k as M r0 M0 hk hlen hrun D ad cI cC sz
    have hrk := mm_rec_ok hk
    refine mm_ofW (cc := mm_code k) (maxL := mm_maxL k) (ret := mm_ret k) hrk.1 rfl ?_
    intro p e s m args below meth c s₁ B hml hv
    obtain ⟨rfl, hsz, hP, hK, hD0, hX⟩ := hv
    subst hsz
    have hD := hD0.self (sz := s.heap.size)
    have hts := atoms_spec (ws := mm_ws k) B.pre
    have hown : s.vm.findClass (mm_y k).cls = some m.cls := findClass_of_methodNamed B.named
    rw [hrk.2.2.2.1] at hown
    have C0 : mm_C p (headSpec (mm_ws k) (mm_rm k)).room s m (as.map (mm_tv ad)).toArray meth c k D ad cI cC (va_A (mm_world ad cI cC M) s.heap.size) :=
      ⟨B.exec, B.bytes, hml, B.returns, B.notSynchronized, hown, fun w hw => hts w (List.mem_cons_of_mem _ hw), hK, hX, fun q h => Or.inr h, Nat.le_refl _, Nat.le_refl _⟩
    rw [lg_entry_eq]
    exact ih k 0 (mm_ent k as) [] M r0 M0 hrun p e _ s m _ below meth c D ad cI cC _ C0 s.heap [] _ hP hD va_S.rf (mm_ls_ent hlen) (mm_ent_len hlen)
  intro n
  induction n with
  | zero =>
    refine ⟨fun j pc lo st M r0 M0 h => (by cases h), fun k as M r0 M0 hk hlen h => (by cases h)⟩
  | succ n ih =>
    have first : ∀ (j pc : Nat) (lo : mm_L) (st : List mm_V) (M : mm_M) (r0 : Option Int32) (M0 : mm_M), mm_run (n + 1) j pc lo st M = some (r0, M0) →
      ∀ (p : Program) (e : Env) (R : Room) (s : State) (m : MethodId) (args : Array Value) (below : List Frame) (meth : Method) (c : Code) (D : va_G) (ad : Nat → Nat) (cI cC : ClassId) (A : Nat → Prop),
        mm_C p R s m args meth c j D ad cI cC A → mm_G p l e R s m args below meth c (MQ below (mm_post r0 M0 D ad cI cC A) args s 0 0 A) j D ad cI cC A (pc, lo, st, M) := by
      intro j pc lo st M r0 M0 h p e R s m args below meth c D ad cI cC A C0
      rw [mm_run] at h
      cases hs : mm_step j pc lo st M with
      | none => rw [hs] at h; cases h
      | some z =>
        rw [hs] at h
        rcases z with q | q | r
        · exact mm_s_step C0 hs (ih.1 j q.1 q.2.1 q.2.2.1 q.2.2.2 r0 M0 h p e R s m args below meth c D ad cI cC A C0)
        · simp only at h
          cases hc : mm_run n q.1 0 (mm_ent q.1 q.2.1) [] M with
          | none => rw [hc] at h; cases h
          | some a =>
            rw [hc] at h
            exact mm_s_call (k := q.1) (as := q.2.1) (r := q.2.2) (r0 := a.1) (M0 := a.2) C0 hs (fun hk hlen => ih.2 q.1 q.2.1 M a.1 a.2 hk hlen hc) (ih.1 j (pc + 3) lo (mm_rv a.1 ++ q.2.2) a.2 r0 M0 h p e R s m args below meth c D ad cI cC A C0)
        · simp only at h
          cases h
          exact mm_s_ret C0 hs
    exact ⟨first, meet (n + 1) first⟩
end
section
/-! WHAT A RUN OF THE SMALL MACHINE COMES TO -/
theorem mm_run_more : ∀ (n j pc : Nat) (lo : mm_L) (st : List mm_V) (M : mm_M) (x : Option Int32 × mm_M), mm_run n j pc lo st M = some x → mm_run (n + 1) j pc lo st M = some x := by
  intro n
  induction n with
  | zero => intro j pc lo st M x h; cases h
  | succ n ih =>
    intro j pc lo st M x h
    rw [mm_run] at h
    rw [mm_run]
    cases hs : mm_step j pc lo st M with
    | none => rw [hs] at h; cases h
    | some z =>
      rw [hs] at h
      rcases z with q | q | r
      · exact ih _ _ _ _ _ _ h
      · simp only at h ⊢
        cases hc : mm_run n q.1 0 (mm_ent q.1 q.2.1) [] M with
        | none => rw [hc] at h; cases h
        | some a =>
          rw [hc] at h
          rw [ih _ _ _ _ _ _ hc]
          exact ih _ _ _ _ _ _ h
      · exact h
theorem mm_run_mono {n k j pc : Nat} {lo : mm_L} {st : List mm_V} {M : mm_M} {x : Option Int32 × mm_M} (hn : n ≤ k) (h : mm_run n j pc lo st M = some x) : mm_run k j pc lo st M = some x := by
  induction k with
  | zero =>
    have : n = 0 := by omega
    subst this
    exact h
  | succ k ih =>
    by_cases e : n = k + 1
    · subst e; exact h
    · exact mm_run_more k _ _ _ _ _ _ (ih (by omega))
theorem mm_run_det {n k j pc : Nat} {lo : mm_L} {st : List mm_V} {M : mm_M} {x y : Option Int32 × mm_M} (h : mm_run n j pc lo st M = some x) (h2 : mm_run k j pc lo st M = some y) : x = y := by
  have a := mm_run_mono (Nat.le_max_left n k) h
  have b := mm_run_mono (Nat.le_max_right n k) h2
  rw [a] at b
  exact Option.some.inj b
abbrev mm_Q : Type := Option Int32 → mm_M → Prop
/-- from there the run ends, with Q -/
def wp (j pc : Nat) (lo : mm_L) (st : List mm_V) (M : mm_M) (Q : mm_Q) : Prop := ∃ (n : Nat) (r : Option Int32) (M' : mm_M), mm_run n j pc lo st M = some (r, M') ∧ Q r M'
/-- a call of method k ends, with Q -/
def wc (k : Nat) (as : List mm_V) (M : mm_M) (Q : mm_Q) : Prop := wp k 0 (mm_ent k as) [] M Q
section WP
variable {j pc pc' : Nat} {lo lo' : mm_L} {st st' : List mm_V} {M M' : mm_M} {Q : mm_Q}
theorem wp_nx (h : mm_step j pc lo st M = some (.inl (pc', lo', st', M'))) : wp j pc lo st M Q ↔ wp j pc' lo' st' M' Q := by
  constructor
  · rintro ⟨n, r, M2, h1, h2⟩
    cases n with
    | zero => cases h1
    | succ n =>
      rw [mm_run, h] at h1
      exact ⟨n, r, M2, h1, h2⟩
  · rintro ⟨n, r, M2, h1, h2⟩
    exact ⟨n + 1, r, M2, by rw [mm_run, h]; exact h1, h2⟩
theorem wp_end {r : Option Int32} (h : mm_step j pc lo st M = some (.inr (.inr r))) : wp j pc lo st M Q ↔ Q r M := by
  constructor
  · rintro ⟨n, r2, M2, h1, h2⟩
    cases n with
    | zero => cases h1
    | succ n =>
      rw [mm_run, h] at h1
      cases h1
      exact h2
  · intro h2
    exact ⟨1, r, M, by rw [mm_run, h], h2⟩
theorem wp_no (h : mm_step j pc lo st M = none) : wp j pc lo st M Q ↔ False := by
  constructor
  · rintro ⟨n, r2, M2, h1, h2⟩
    cases n with
    | zero => cases h1
    | succ n =>
      rw [mm_run, h] at h1
      cases h1
  · intro h2
    exact h2.elim
theorem wp_call {k : Nat} {as rest : List mm_V} (h : mm_step j pc lo st M = some (.inr (.inl (k, as, rest)))) : wp j pc lo st M Q ↔ wc k as M (fun r M' => wp j (pc + 3) lo (mm_rv r ++ rest) M' Q) := by
  constructor
  · rintro ⟨n, r2, M2, h1, h2⟩
    cases n with
    | zero => cases h1
    | succ n =>
      rw [mm_run, h] at h1
      simp only at h1
      cases hc : mm_run n k 0 (mm_ent k as) [] M with
      | none => rw [hc] at h1; cases h1
      | some a =>
        rw [hc] at h1
        exact ⟨n, a.1, a.2, hc, n, r2, M2, h1, h2⟩
  · rintro ⟨n, r, M2, h1, n2, r2, M3, h2, h3⟩
    refine ⟨max n n2 + 1, r2, M3, ?_, h3⟩
    rw [mm_run, h]
    simp only
    rw [mm_run_mono (Nat.le_max_left n n2) h1]
    exact mm_run_mono (Nat.le_max_right n n2) h2
theorem wp_mono {Q' : mm_Q} (h : wp j pc lo st M Q) (hq : ∀ r M', Q r M' → Q' r M') : wp j pc lo st M Q' := by
  obtain ⟨n, r, M2, h1, h2⟩ := h
  exact ⟨n, r, M2, h1, hq _ _ h2⟩
theorem wc_mono {k : Nat} {as : List mm_V} {Q' : mm_Q} (h : wc k as M Q) (hq : ∀ r M', Q r M' → Q' r M') : wc k as M Q' := wp_mono h hq
/-- the run has this answer and this memory -/
theorem wc_iff {k : Nat} {as : List mm_V} {r : Option Int32} (h : wc k as M (fun r' M2 => r' = r ∧ M2 = M')) : wc k as M Q ↔ Q r M' := by
  obtain ⟨n, r1, M1, h1, rfl, rfl⟩ := h
  constructor
  · rintro ⟨n2, r2, M2, h2, h3⟩
    have e := mm_run_det h1 h2
    cases e
    exact h3
  · intro h3
    exact ⟨n, r1, M1, h1, h3⟩
variable {cc : ByteArray} {x y : Int32} {o : Nat} {u v w : mm_V}
theorem mm_st_eq (hc : mm_code j = cc) {i : Instr} {n : Nat} (hd : decode cc pc = .ok (i, n)) : mm_step j pc lo st M = mm_do j pc i n lo st M := by
  unfold mm_step
  rw [hc, hd]
theorem wi_nx (hc : mm_code j = cc) {i : Instr} {n : Nat} (hd : decode cc pc = .ok (i, n)) (h : mm_do j pc i n lo st M = some (.inl (pc', lo', st', M'))) : wp j pc lo st M Q ↔ wp j pc' lo' st' M' Q := wp_nx ((mm_st_eq hc hd).trans h)
theorem wi_no (hc : mm_code j = cc) {i : Instr} {n : Nat} (hd : decode cc pc = .ok (i, n)) (h : mm_do j pc i n lo st M = none) : wp j pc lo st M Q ↔ False := wp_no ((mm_st_eq hc hd).trans h)
theorem wi_and {B : Prop} (hc : mm_code j = cc) {i : Instr} {n : Nat} (hd : decode cc pc = .ok (i, n)) (h1 : B → mm_do j pc i n lo st M = some (.inl (pc', lo', st', M'))) (h2 : ¬ B → mm_do j pc i n lo st M = none) : wp j pc lo st M Q ↔ (B ∧ wp j pc' lo' st' M' Q) := by
  by_cases hB : B
  · rw [wi_nx hc hd (h1 hB)]
    exact ⟨fun z => ⟨hB, z⟩, fun z => z.2⟩
  · rw [wi_no hc hd (h2 hB)]
    exact ⟨fun z => z.elim, fun z => hB z.1⟩
theorem wi_iconst {n : Int} {z : Int32} (hc : mm_code j = cc) (hd : decode cc pc = .ok (.iconst n, 1)) (hz : Int32.ofInt n = z) : wp j pc lo st M Q ↔ wp j (pc + 1) lo (.inl z :: st) M Q := by subst hz; exact wi_nx hc hd rfl
theorem wi_bipush {n : Int} {z : Int32} (hc : mm_code j = cc) (hd : decode cc pc = .ok (.bipush n, 2)) (hz : (Int8.ofInt n).toInt32 = z) : wp j pc lo st M Q ↔ wp j (pc + 2) lo (.inl z :: st) M Q := by subst hz; exact wi_nx hc hd rfl
theorem wi_sipush {n : Int} {z : Int32} (hc : mm_code j = cc) (hd : decode cc pc = .ok (.sipush n, 3)) (hz : (Int16.ofInt n).toInt32 = z) : wp j pc lo st M Q ↔ wp j (pc + 3) lo (.inl z :: st) M Q := by subst hz; exact wi_nx hc hd rfl
theorem wi_iload_n {k : Fin 4} (hc : mm_code j = cc) (hd : decode cc pc = .ok (.iload_n k, 1)) (hk : lo[k.val]? = some (some (.inl x))) : wp j pc lo st M Q ↔ wp j (pc + 1) lo (.inl x :: st) M Q :=
  wi_nx hc hd (by show (if 1 = 1 then mm_ldi k.val (pc + 1) lo st M else none) = _; rw [if_pos rfl, mm_ldi, hk]; rfl)
theorem wi_iload {k : Nat} (hc : mm_code j = cc) (hd : decode cc pc = .ok (.iload k, 2)) (hk : lo[k]? = some (some (.inl x))) : wp j pc lo st M Q ↔ wp j (pc + 2) lo (.inl x :: st) M Q :=
  wi_nx hc hd (by show (if 2 = 2 then mm_ldi k (pc + 2) lo st M else none) = _; rw [if_pos rfl, mm_ldi, hk]; rfl)
theorem wi_aload_n {k : Fin 4} (hc : mm_code j = cc) (hd : decode cc pc = .ok (.aload_n k, 1)) (hk : lo[k.val]? = some (some (.inr o))) : wp j pc lo st M Q ↔ wp j (pc + 1) lo (.inr o :: st) M Q :=
  wi_nx hc hd (by show (if 1 = 1 then mm_lda k.val (pc + 1) lo st M else none) = _; rw [if_pos rfl, mm_lda, hk]; rfl)
theorem wi_aload {k : Nat} (hc : mm_code j = cc) (hd : decode cc pc = .ok (.aload k, 2)) (hk : lo[k]? = some (some (.inr o))) : wp j pc lo st M Q ↔ wp j (pc + 2) lo (.inr o :: st) M Q :=
  wi_nx hc hd (by show (if 2 = 2 then mm_lda k (pc + 2) lo st M else none) = _; rw [if_pos rfl, mm_lda, hk]; rfl)
theorem wi_istore_n {k : Fin 4} (hc : mm_code j = cc) (hd : decode cc pc = .ok (.istore_n k, 1)) (hk : k.val < lo.length) (he : lo.set k.val (some (.inl x)) = lo') : wp j pc lo (.inl x :: st) M Q ↔ wp j (pc + 1) lo' st M Q := by
  subst he
  exact wi_nx hc hd (by show (if 1 = 1 then mm_sti k.val (pc + 1) lo (.inl x :: st) M else none) = _; rw [if_pos rfl]; simp only [mm_sti]; rw [if_pos hk]; rfl)
theorem wi_istore {k : Nat} (hc : mm_code j = cc) (hd : decode cc pc = .ok (.istore k, 2)) (hk : k < lo.length) (he : lo.set k (some (.inl x)) = lo') : wp j pc lo (.inl x :: st) M Q ↔ wp j (pc + 2) lo' st M Q := by
  subst he
  exact wi_nx hc hd (by show (if 2 = 2 then mm_sti k (pc + 2) lo (.inl x :: st) M else none) = _; rw [if_pos rfl]; simp only [mm_sti]; rw [if_pos hk]; rfl)
theorem wi_iinc {k : Nat} {n : Int} {z : Int32} (hc : mm_code j = cc) (hd : decode cc pc = .ok (.iinc k n, 3)) (hk : lo[k]? = some (some (.inl x))) (hz : Int32.ofInt n = z) (he : lo.set k (some (.inl (x + z))) = lo') : wp j pc lo st M Q ↔ wp j (pc + 3) lo' st M Q := by
  subst hz
  subst he
  exact wi_nx hc hd (by show (if 3 = 3 then mm_inc k n (pc + 3) lo st M else none) = _; rw [if_pos rfl, mm_inc, hk]; rfl)
theorem wi_iadd (hc : mm_code j = cc) (hd : decode cc pc = .ok (.iadd, 1)) : wp j pc lo (.inl y :: .inl x :: st) M Q ↔ wp j (pc + 1) lo (.inl (x + y) :: st) M Q := wi_nx hc hd rfl
theorem wi_isub (hc : mm_code j = cc) (hd : decode cc pc = .ok (.isub, 1)) : wp j pc lo (.inl y :: .inl x :: st) M Q ↔ wp j (pc + 1) lo (.inl (x - y) :: st) M Q := wi_nx hc hd rfl
theorem wi_imul (hc : mm_code j = cc) (hd : decode cc pc = .ok (.imul, 1)) : wp j pc lo (.inl y :: .inl x :: st) M Q ↔ wp j (pc + 1) lo (.inl (x * y) :: st) M Q := wi_nx hc hd rfl
theorem wi_iand (hc : mm_code j = cc) (hd : decode cc pc = .ok (.iand, 1)) : wp j pc lo (.inl y :: .inl x :: st) M Q ↔ wp j (pc + 1) lo (.inl (x &&& y) :: st) M Q := wi_nx hc hd rfl
theorem wi_ior (hc : mm_code j = cc) (hd : decode cc pc = .ok (.ior, 1)) : wp j pc lo (.inl y :: .inl x :: st) M Q ↔ wp j (pc + 1) lo (.inl (x ||| y) :: st) M Q := wi_nx hc hd rfl
theorem wi_ixor (hc : mm_code j = cc) (hd : decode cc pc = .ok (.ixor, 1)) : wp j pc lo (.inl y :: .inl x :: st) M Q ↔ wp j (pc + 1) lo (.inl (x ^^^ y) :: st) M Q := wi_nx hc hd rfl
theorem wi_ishl (hc : mm_code j = cc) (hd : decode cc pc = .ok (.ishl, 1)) : wp j pc lo (.inl y :: .inl x :: st) M Q ↔ wp j (pc + 1) lo (.inl (x <<< (y &&& 31)) :: st) M Q := wi_nx hc hd rfl
theorem wi_ishr (hc : mm_code j = cc) (hd : decode cc pc = .ok (.ishr, 1)) : wp j pc lo (.inl y :: .inl x :: st) M Q ↔ wp j (pc + 1) lo (.inl (x >>> (y &&& 31)) :: st) M Q := wi_nx hc hd rfl
theorem wi_irem (hc : mm_code j = cc) (hd : decode cc pc = .ok (.irem, 1)) : wp j pc lo (.inl y :: .inl x :: st) M Q ↔ (¬ y = 0 ∧ wp j (pc + 1) lo (.inl (x - x / y * y) :: st) M Q) := by
  have e : mm_do j pc .irem 1 lo (.inl y :: .inl x :: st) M = (if 1 = 1 ∧ some (Sum.inl y : mm_V) ≠ some (.inl 0) then mm_bin (fun x y => x - x / y * y) pc lo (.inl y :: .inl x :: st) M else none) := rfl
  refine wi_and hc hd (fun h => ?_) (fun h => ?_)
  · rw [e, if_pos ⟨rfl, by simpa using h⟩]; rfl
  · rw [e, if_neg (by simpa using h)]
theorem wi_ineg (hc : mm_code j = cc) (hd : decode cc pc = .ok (.ineg, 1)) : wp j pc lo (.inl x :: st) M Q ↔ wp j (pc + 1) lo (.inl (-x) :: st) M Q := wi_nx hc hd rfl
theorem wi_i2c (hc : mm_code j = cc) (hd : decode cc pc = .ok (.i2c, 1)) : wp j pc lo (.inl x :: st) M Q ↔ wp j (pc + 1) lo (.inl (x.toUInt32 % 65536).toInt32 :: st) M Q := wi_nx hc hd rfl
theorem wi_dup (hc : mm_code j = cc) (hd : decode cc pc = .ok (.dup, 1)) : wp j pc lo (v :: st) M Q ↔ wp j (pc + 1) lo (v :: v :: st) M Q := wi_nx hc hd rfl
theorem wi_dup2 (hc : mm_code j = cc) (hd : decode cc pc = .ok (.dup2, 1)) : wp j pc lo (v :: w :: st) M Q ↔ wp j (pc + 1) lo (v :: w :: v :: w :: st) M Q := wi_nx hc hd rfl
theorem wi_pop (hc : mm_code j = cc) (hd : decode cc pc = .ok (.pop, 1)) : wp j pc lo (v :: st) M Q ↔ wp j (pc + 1) lo st M Q := wi_nx hc hd rfl
theorem mm_jmp_to {off : Int} {tgt : Nat} (ht : (pc : Int) + off = (tgt : Int)) : mm_jmp pc off lo st M = some (.inl (tgt, lo, st, M)) := by
  unfold mm_jmp
  rw [if_pos (by omega), ht]
  rfl
theorem wi_goto {off : Int} {tgt : Nat} (hc : mm_code j = cc) (hd : decode cc pc = .ok (.goto off, 3)) (ht : (pc : Int) + off = (tgt : Int)) : wp j pc lo st M Q ↔ wp j tgt lo st M Q :=
  wi_nx hc hd (by show (if 3 = 3 then mm_jmp pc off lo st M else none) = _; rw [if_pos rfl, mm_jmp_to ht])
theorem mm_br_to {off : Int} {tgt : Nat} {b : Bool} (ht : (pc : Int) + off = (tgt : Int)) : mm_br b pc off lo st M = some (.inl (if b = true then tgt else pc + 3, lo, st, M)) := by
  unfold mm_br
  rw [if_pos (by omega), ht]
  rfl
theorem wi_if1 {cd : ClassFile.Cond} {off : Int} {tgt : Nat} {B : Prop} {dB : Decidable B} (hc : mm_code j = cc) (hd : decode cc pc = .ok (.ifCond cd off, 3)) (hB : mm_if cd x 0 = @decide B dB) (ht : (pc : Int) + off = (tgt : Int)) : wp j pc lo (.inl x :: st) M Q ↔ (if B then wp j tgt lo st M Q else wp j (pc + 3) lo st M Q) := by
  have e : mm_do j pc (.ifCond cd off) 3 lo (.inl x :: st) M = mm_br (mm_if cd x 0) pc off lo st M := rfl
  rw [hB, mm_br_to ht] at e
  rw [wi_nx hc hd e]
  by_cases h : B
  · rw [if_pos (decide_eq_true h), if_pos h]
  · rw [if_neg (by simpa using h), if_neg h]
theorem wi_if2 {cd : ClassFile.Cond} {off : Int} {tgt : Nat} {B : Prop} {dB : Decidable B} (hc : mm_code j = cc) (hd : decode cc pc = .ok (.if_icmp cd off, 3)) (hB : mm_if cd x y = @decide B dB) (ht : (pc : Int) + off = (tgt : Int)) : wp j pc lo (.inl y :: .inl x :: st) M Q ↔ (if B then wp j tgt lo st M Q else wp j (pc + 3) lo st M Q) := by
  have e : mm_do j pc (.if_icmp cd off) 3 lo (.inl y :: .inl x :: st) M = mm_br (mm_if cd x y) pc off lo st M := rfl
  rw [hB, mm_br_to ht] at e
  rw [wi_nx hc hd e]
  by_cases h : B
  · rw [if_pos (decide_eq_true h), if_pos h]
  · rw [if_neg (by simpa using h), if_neg h]
/-- a switch by a list of its arms -/
def wsw (j : Nat) (lo : mm_L) (st : List mm_V) (M : mm_M) (Q : mm_Q) (x : Int32) (d : Nat) : List (Int32 × Nat) → Prop
  | [] => wp j d lo st M Q
  | a :: r => if x = a.1 then wp j a.2 lo st M Q else wsw j lo st M Q x d r
theorem wi_tsw {d l h : Int} {offs : Array Int} {n td : Nat} {arms : List (Int32 × Nat)} (hc : mm_code j = cc) (hd : decode cc pc = .ok (.tableswitch d l h offs, n)) (htd : (pc : Int) + d = (td : Int))
    (h1 : ∀ a ∈ arms, (¬ (a.1.toInt < l ∨ h < a.1.toInt)) ∧ ∃ off, offs[(a.1.toInt - l).toNat]? = some off ∧ (pc : Int) + off = (a.2 : Int)) (h2 : ∀ z : Int, l ≤ z → z ≤ h → ∃ a ∈ arms, a.1.toInt = z) :
    wp j pc lo (.inl x :: st) M Q ↔ wsw j lo st M Q x td arms := by
  have e : mm_do j pc (.tableswitch d l h offs) n lo (.inl x :: st) M = (if x.toInt < l ∨ h < x.toInt then mm_jmp pc d lo st M else match offs[(x.toInt - l).toNat]? with | some off => mm_jmp pc off lo st M | none => none) := rfl
  by_cases hx : x.toInt < l ∨ h < x.toInt
  · rw [if_pos hx, mm_jmp_to htd] at e
    rw [wi_nx hc hd e]
    have key : ∀ r : List (Int32 × Nat), (∀ a ∈ r, a ∈ arms) → wsw j lo st M Q x td r = wp j td lo st M Q := by
      intro r
      induction r with
      | nil => intro _; rfl
      | cons a r ih =>
        intro hr
        rw [wsw, if_neg (fun (z : x = a.1) => (h1 a (hr a List.mem_cons_self)).1 (z ▸ hx))]
        exact ih (fun b hb => hr b (List.mem_cons_of_mem _ hb))
    rw [key arms (fun _ z => z)]
  · have key : ∀ r : List (Int32 × Nat), (∀ a ∈ r, a ∈ arms) → (∃ a ∈ r, a.1 = x) → (wp j pc lo (.inl x :: st) M Q ↔ wsw j lo st M Q x td r) := by
      intro r
      induction r with
      | nil => rintro _ ⟨a, ha, -⟩; cases ha
      | cons a r ih =>
        intro hr hex
        by_cases ha : x = a.1
        · obtain ⟨-, off, ho, ht⟩ := h1 a (hr a List.mem_cons_self)
          rw [if_neg hx, ha, ho] at e
          rw [wsw, if_pos ha]
          subst ha
          exact wi_nx hc hd (e.trans (mm_jmp_to ht))
        · rw [wsw, if_neg ha]
          refine ih (fun b hb => hr b (List.mem_cons_of_mem _ hb)) ?_
          obtain ⟨b, hb, hbx⟩ := hex
          rcases List.mem_cons.mp hb with rfl | hb
          · exact absurd hbx.symm ha
          · exact ⟨b, hb, hbx⟩
    obtain ⟨a, ha, haz⟩ := h2 x.toInt (by omega) (by omega)
    exact key arms (fun _ z => z) ⟨a, ha, Int32.toInt_inj.mp haz⟩
theorem wi_lsw {d : Int} {ps : Array (Int × Int)} {n td : Nat} {arms : List (Int32 × Nat)} (hc : mm_code j = cc) (hd : decode cc pc = .ok (.lookupswitch d ps, n)) (htd : (pc : Int) + d = (td : Int)) (hs : (ps.toList.zip (ps.toList.drop 1)).all (fun (a, next) => a.1 < next.1) = true)
    (h1 : ∀ a ∈ arms, (pc : Int) + Op.lookupswitch.offset ps.toList d a.1.toInt = (a.2 : Int)) (h2 : ∀ z : Int, (∀ a ∈ arms, a.1.toInt ≠ z) → Op.lookupswitch.offset ps.toList d z = d) :
    wp j pc lo (.inl x :: st) M Q ↔ wsw j lo st M Q x td arms := by
  have e : mm_do j pc (.lookupswitch d ps) n lo (.inl x :: st) M = (if (ps.toList.zip (ps.toList.drop 1)).all (fun (a, next) => a.1 < next.1) = true then mm_jmp pc (Op.lookupswitch.offset ps.toList d x.toInt) lo st M else none) := rfl
  rw [if_pos hs] at e
  by_cases hex : ∃ a ∈ arms, a.1 = x
  · have key : ∀ r : List (Int32 × Nat), (∀ a ∈ r, a ∈ arms) → (∃ a ∈ r, a.1 = x) → (wp j pc lo (.inl x :: st) M Q ↔ wsw j lo st M Q x td r) := by
      intro r
      induction r with
      | nil => rintro _ ⟨a, ha, -⟩; cases ha
      | cons a r ih =>
        intro hr hex
        by_cases ha : x = a.1
        · have ht := h1 a (hr a List.mem_cons_self)
          rw [wsw, if_pos ha]
          subst ha
          exact wi_nx hc hd (e.trans (mm_jmp_to ht))
        · rw [wsw, if_neg ha]
          refine ih (fun b hb => hr b (List.mem_cons_of_mem _ hb)) ?_
          obtain ⟨b, hb, hbx⟩ := hex
          rcases List.mem_cons.mp hb with rfl | hb
          · exact absurd hbx.symm ha
          · exact ⟨b, hb, hbx⟩
    exact key arms (fun _ z => z) hex
  · rw [h2 x.toInt (fun a ha z => hex ⟨a, ha, Int32.toInt_inj.mp z⟩), mm_jmp_to htd] at e
    rw [wi_nx hc hd e]
    have key : ∀ r : List (Int32 × Nat), (∀ a ∈ r, a ∈ arms) → wsw j lo st M Q x td r = wp j td lo st M Q := by
      intro r
      induction r with
      | nil => intro _; rfl
      | cons a r ih =>
        intro hr
        rw [wsw, if_neg (fun z => hex ⟨a, hr a List.mem_cons_self, z.symm⟩)]
        exact ih (fun b hb => hr b (List.mem_cons_of_mem _ hb))
    rw [key arms (fun _ z => z)]
-- fields, arrays
variable {cn i ci k n : Nat} {f : (Nat × Nat) × (Nat × Nat × Bool × Nat)} {fs : List (Option Nat)} {ch : Bool}
theorem wi_getI (hc : mm_code j = cc) (hd : decode cc pc = .ok (.getfield i, 3)) (hn : mm_cno j = cn) (hf : mm_fld cn i = some f) (hs : mm_shape[o]? = some (.inl (f.2.1, fs))) (hk : fs[f.2.2.1]? = some none) : wp j pc lo (.inr o :: st) M Q ↔ wp j (pc + 3) lo (.inl (M o f.2.2.1) :: st) M Q :=
  wi_nx hc hd (by
    show (if 3 = 3 then (match mm_fld (mm_cno j) i with | some e => mm_get e pc lo (.inr o :: st) M | none => none) else none) = _
    rw [if_pos rfl, hn, hf]
    simp only [mm_get, hs, if_true, hk]
    rfl)
theorem wi_getR {g : Nat} (hc : mm_code j = cc) (hd : decode cc pc = .ok (.getfield i, 3)) (hn : mm_cno j = cn) (hf : mm_fld cn i = some f) (hs : mm_shape[o]? = some (.inl (f.2.1, fs))) (hk : fs[f.2.2.1]? = some (some g)) : wp j pc lo (.inr o :: st) M Q ↔ wp j (pc + 3) lo (.inr g :: st) M Q :=
  wi_nx hc hd (by
    show (if 3 = 3 then (match mm_fld (mm_cno j) i with | some e => mm_get e pc lo (.inr o :: st) M | none => none) else none) = _
    rw [if_pos rfl, hn, hf]
    simp only [mm_get, hs, if_true, hk]
    rfl)
theorem wi_put (hc : mm_code j = cc) (hd : decode cc pc = .ok (.putfield i, 3)) (hn : mm_cno j = cn) (hf : mm_fld cn i = some f) (hs : mm_shape[o]? = some (.inl (f.2.1, fs))) (hk : fs[f.2.2.1]? = some none) : wp j pc lo (.inl x :: .inr o :: st) M Q ↔ wp j (pc + 3) lo st (mm_up M o f.2.2.1 x) Q :=
  wi_nx hc hd (by
    show (if 3 = 3 then (match mm_fld (mm_cno j) i with | some e => mm_put e pc lo (.inl x :: .inr o :: st) M | none => none) else none) = _
    rw [if_pos rfl, hn, hf]
    simp only [mm_put, hs, if_true, hk]
    rfl)
def mm_ln (o : Nat) : Nat := match mm_shape[o]? with
  | some (.inr (false, n)) => n
  | _ => 0
theorem vp_in_0 {i : Int32} : ¬ vp_in i 0 := fun h => h (Or.inr (Nat.zero_le _))
theorem wi_iald (ho : o < 38) (hc : mm_code j = cc) (hd : decode cc pc = .ok (.iaload, 1)) : wp j pc lo (.inl x :: .inr o :: st) M Q ↔ (vp_in x (mm_ln o) ∧ wp j (pc + 1) lo (.inl (M o x.toNatClampNeg) :: st) M Q) := by
  have e : mm_do j pc .iaload 1 lo (.inl x :: .inr o :: st) M = mm_ald false pc lo (.inl x :: .inr o :: st) M := rfl
  have hol : mm_shape.length = 38 := rfl
  have hsome := List.getElem?_eq_getElem (l := mm_shape) (i := o) (by omega)
  unfold mm_ln
  simp only [mm_ald] at e
  rw [hsome] at e ⊢
  cases hsh : mm_shape[o]'(by omega) with
  | inl q =>
    rw [hsh] at e
    rw [wi_no hc hd e]
    exact ⟨fun z => z.elim, fun z => vp_in_0 z.1⟩
  | inr q =>
    obtain ⟨ch, n⟩ := q
    rw [hsh] at e
    simp only at e
    cases ch with
    | true =>
      rw [if_neg (fun z => by cases z.1)] at e
      rw [wi_no hc hd e]
      exact ⟨fun z => z.elim, fun z => vp_in_0 z.1⟩
    | false =>
      refine wi_and hc hd (fun h => ?_) (fun h => ?_)
      · rw [e, if_pos ⟨rfl, h⟩]; rfl
      · rw [e, if_neg (fun z => h z.2)]
theorem wi_iast (hc : mm_code j = cc) (hd : decode cc pc = .ok (.iastore, 1)) : wp j pc lo (.inl y :: .inl x :: .inr o :: st) M Q ↔ (vp_in x (mm_ln o) ∧ wp j (pc + 1) lo st (mm_up M o x.toNatClampNeg y) Q) := by
  have e : mm_do j pc .iastore 1 lo (.inl y :: .inl x :: .inr o :: st) M = mm_ast false pc lo (.inl y :: .inl x :: .inr o :: st) M := rfl
  unfold mm_ln
  simp only [mm_ast] at e
  cases hsh : mm_shape[o]? with
  | none =>
    rw [hsh] at e
    rw [wi_no hc hd e]
    exact ⟨fun z => z.elim, fun z => vp_in_0 z.1⟩
  | some q =>
    rw [hsh] at e
    cases q with
    | inl q =>
      rw [wi_no hc hd e]
      exact ⟨fun z => z.elim, fun z => vp_in_0 z.1⟩
    | inr q =>
      obtain ⟨ch, n⟩ := q
      simp only at e
      cases ch with
      | true =>
        rw [if_neg (fun z => by cases z.1)] at e
        rw [wi_no hc hd e]
        exact ⟨fun z => z.elim, fun z => vp_in_0 z.1⟩
      | false =>
        refine wi_and hc hd (fun h => ?_) (fun h => ?_)
        · rw [e, if_pos ⟨rfl, h⟩]; rfl
        · rw [e, if_neg (fun z => h z.2)]
theorem wi_cald (hc : mm_code j = cc) (hd : decode cc pc = .ok (.caload, 1)) (hs : mm_shape[o]? = some (.inr (true, n))) : wp j pc lo (.inl x :: .inr o :: st) M Q ↔ (vp_in x n ∧ wp j (pc + 1) lo (.inl (M o x.toNatClampNeg) :: st) M Q) := by
  have e : mm_do j pc .caload 1 lo (.inl x :: .inr o :: st) M = mm_ald true pc lo (.inl x :: .inr o :: st) M := rfl
  simp only [mm_ald] at e
  rw [hs] at e
  refine wi_and hc hd (fun h => ?_) (fun h => ?_)
  · rw [e]; simp only; rw [if_pos ⟨trivial, h⟩]; rfl
  · rw [e]; simp only; rw [if_neg (fun z => h z.2)]
theorem wi_cast (hc : mm_code j = cc) (hd : decode cc pc = .ok (.castore, 1)) (hs : mm_shape[o]? = some (.inr (true, n))) : wp j pc lo (.inl y :: .inl x :: .inr o :: st) M Q ↔ (vp_in x n ∧ wp j (pc + 1) lo st (mm_up M o x.toNatClampNeg (vp_nar .char y)) Q) := by
  have e : mm_do j pc .castore 1 lo (.inl y :: .inl x :: .inr o :: st) M = mm_ast true pc lo (.inl y :: .inl x :: .inr o :: st) M := rfl
  simp only [mm_ast] at e
  rw [hs] at e
  refine wi_and hc hd (fun h => ?_) (fun h => ?_)
  · rw [e]; simp only; rw [if_pos ⟨trivial, h⟩]; rfl
  · rw [e]; simp only; rw [if_neg (fun z => h z.2)]
theorem wi_taldx (hc : mm_code j = cc) (hd : decode cc pc = .ok (.iaload, 1)) : wp j pc lo (.inl x :: .inr 40 :: st) M Q ↔ (vp_in x 8 ∧ wp j (pc + 1) lo (.inl (mm_ux x.toNatClampNeg) :: st) M Q) := by
  have e : mm_do j pc .iaload 1 lo (.inl x :: .inr 40 :: st) M = (if (false = false ∧ ((40 : Nat) = 40 ∨ (40 : Nat) = 41) ∧ ¬ (x < 0 ∨ 8 ≤ x.toNatClampNeg)) then mm_nx (pc + 1) lo (.inl (mm_ux x.toNatClampNeg) :: st) M else none) := rfl
  refine wi_and hc hd (fun h => ?_) (fun h => ?_)
  · rw [e, if_pos ⟨rfl, Or.inl rfl, h⟩]; rfl
  · rw [e, if_neg (fun z => h z.2.2)]
theorem wi_taldy (hc : mm_code j = cc) (hd : decode cc pc = .ok (.iaload, 1)) : wp j pc lo (.inl x :: .inr 41 :: st) M Q ↔ (vp_in x 8 ∧ wp j (pc + 1) lo (.inl (mm_uy x.toNatClampNeg) :: st) M Q) := by
  have e : mm_do j pc .iaload 1 lo (.inl x :: .inr 41 :: st) M = (if (false = false ∧ ((41 : Nat) = 40 ∨ (41 : Nat) = 41) ∧ ¬ (x < 0 ∨ 8 ≤ x.toNatClampNeg)) then mm_nx (pc + 1) lo (.inl (mm_uy x.toNatClampNeg) :: st) M else none) := rfl
  refine wi_and hc hd (fun h => ?_) (fun h => ?_)
  · rw [e, if_pos ⟨rfl, Or.inr rfl, h⟩]; rfl
  · rw [e, if_neg (fun z => h z.2.2)]
theorem wi_len (hc : mm_code j = cc) (hd : decode cc pc = .ok (.arraylength, 1)) (h0 : 0 < mm_ln o) : wp j pc lo (.inr o :: st) M Q ↔ wp j (pc + 1) lo (.inl (nI (mm_ln o)) :: st) M Q := by
  have e : mm_do j pc .arraylength 1 lo (.inr o :: st) M = mm_len pc lo (.inr o :: st) M := rfl
  unfold mm_ln at h0 ⊢
  simp only [mm_len] at e
  cases hsh : mm_shape[o]? with
  | none => rw [hsh] at h0; exact absurd h0 (by simp)
  | some q =>
    rw [hsh] at e h0
    cases q with
    | inl q => exact absurd h0 (by simp)
    | inr q =>
      obtain ⟨ch, n⟩ := q
      cases ch with
      | true => exact absurd h0 (by simp)
      | false => exact wi_nx hc hd e
theorem wi_gst {f : (Nat × Nat) × (Bool × Nat)} (hc : mm_code j = cc) (hd : decode cc pc = .ok (.getstatic i, 3)) (hn : mm_cno j = cn) (hf : mm_stt cn i = some f) : wp j pc lo st M Q ↔ wp j (pc + 3) lo (.inr (if f.2.1 = true then 40 else 41) :: st) M Q :=
  wi_nx hc hd (by
    show (if 3 = 3 then (match mm_stt (mm_cno j) i with | some e => mm_gst e pc lo st M | none => none) else none) = _
    rw [if_pos rfl, hn, hf]
    rfl)
-- calls and ends
variable {g : (Nat × Nat) × (Nat × Nat × Nat × Nat × Nat × Nat × Nat)} {as rest : List mm_V}
theorem wi_call (hc : mm_code j = cc) {i : Instr} {n : Nat} (hd : decode cc pc = .ok (i, n)) (h : mm_do j pc i n lo st M = some (.inr (.inl (k, as, rest)))) : wp j pc lo st M Q ↔ wc k as M (fun r M' => wp j (pc + 3) lo (mm_rv r ++ rest) M' Q) := wp_call ((mm_st_eq hc hd).trans h)
theorem wi_inv (hc : mm_code j = cc) (hd : decode cc pc = .ok (.invokevirtual i, 3)) (hn : mm_cno j = cn) (hg : mm_cll cn i = some g) (h0 : g.2.1 = 0) (hk : g.2.2.1 = k) (hp : mm_np k = n) (hdr : st.drop n = .inr o :: rest) (hta : (st.take n).reverse = as) (hs : mm_shape[o]? = some (.inl (g.2.2.2.1, fs))) (hr : mm_roomy j k (n + 1) rest = true) :
    wp j pc lo st M Q ↔ wc k (.inr o :: as) M (fun r M' => wp j (pc + 3) lo (mm_rv r ++ rest) M' Q) :=
  wi_call hc hd (by
    show (if 3 = 3 then (match mm_cll (mm_cno j) i with | some e => mm_inv j e st | none => none) else none) = _
    rw [if_pos rfl, hn, hg]
    simp only [mm_inv]
    rw [hk, hp, hdr]
    simp only
    rw [hs]
    simp only
    rw [if_pos ⟨h0, trivial, hr⟩, hta])
theorem wi_ins (hc : mm_code j = cc) (hd : decode cc pc = .ok (.invokestatic i, 3)) (hn : mm_cno j = cn) (hg : mm_cll cn i = some g) (h0 : g.2.1 = 1 ∨ g.2.1 = 2) (hk : g.2.2.1 = k) (hp : mm_np k = n) (hle : n ≤ st.length) (hdr : st.drop n = rest) (hta : (st.take n).reverse = as) (hr : mm_roomy j k n rest = true) :
    wp j pc lo st M Q ↔ wc k as M (fun r M' => wp j (pc + 3) lo (mm_rv r ++ rest) M' Q) :=
  wi_call hc hd (by
    show (if 3 = 3 then (match mm_cll (mm_cno j) i with | some e => mm_ins j e pc lo st M | none => none) else none) = _
    rw [if_pos rfl, hn, hg]
    simp only [mm_ins]
    rw [if_neg (by omega), hk, hp, hdr, hta, if_pos ⟨h0, hle, hr⟩])
theorem wi_cpy {na nb : Nat} {z dz sz : Int32} {a b : Nat} (hc : mm_code j = cc) (hd : decode cc pc = .ok (.invokestatic i, 3)) (hn : mm_cno j = cn) (hg : mm_cll cn i = some g) (h0 : g.2.1 = 3) (ha : mm_shape[a]? = some (.inr (false, na))) (hb : mm_shape[b]? = some (.inr (false, nb))) (hfr : 1 ≤ mm_fr j) (hlo : 26 ≤ mm_lo j) (hl : rest.length ≤ 8) :
    wp j pc lo (.inl z :: .inl dz :: .inr a :: .inl sz :: .inr b :: rest) M Q ↔ ((¬ sz < 0 ∧ ¬ dz < 0 ∧ ¬ z < 0 ∧ sz.toNatClampNeg + z.toNatClampNeg ≤ nb ∧ dz.toNatClampNeg + z.toNatClampNeg ≤ na) ∧ wp j (pc + 3) lo rest (mm_set M a (va_cpy (M b) (M a) sz.toNatClampNeg dz.toNatClampNeg z.toNatClampNeg)) Q) := by
  have e : mm_do j pc (.invokestatic i) 3 lo (.inl z :: .inl dz :: .inr a :: .inl sz :: .inr b :: rest) M = mm_cpy j pc lo (.inl z :: .inl dz :: .inr a :: .inl sz :: .inr b :: rest) M := by
    show (if 3 = 3 then (match mm_cll (mm_cno j) i with | some e => mm_ins j e pc lo _ M | none => none) else none) = _
    rw [if_pos rfl, hn, hg]
    simp only [mm_ins]
    rw [if_pos h0]
  simp only [mm_cpy, ha, hb] at e
  refine wi_and hc hd (fun h => ?_) (fun h => ?_)
  · rw [e, if_pos ⟨h, hfr, hlo, hl⟩]; rfl
  · rw [e, if_neg (fun q => h q.1)]
theorem wi_iret (hc : mm_code j = cc) (hd : decode cc pc = .ok (.ireturn, 1)) (hr : mm_ret j = some .int) : wp j pc lo [.inl x] M Q ↔ Q (some x) M :=
  wp_end ((mm_st_eq hc hd).trans (by
    show (if 1 = 1 then mm_rti j [.inl x] else none) = _
    rw [if_pos rfl]
    simp only [mm_rti]
    rw [if_pos (Or.inl hr)]))
theorem wi_zret (hc : mm_code j = cc) (hd : decode cc pc = .ok (.ireturn, 1)) (hr : mm_ret j = some .boolean) : wp j pc lo [.inl x] M Q ↔ ((x = 0 ∨ x = 1) ∧ Q (some x) M) := by
  have e : mm_do j pc .ireturn 1 lo [.inl x] M = (if mm_ret j = some .int ∨ (mm_ret j = some .boolean ∧ (x = 0 ∨ x = 1)) then some (.inr (.inr (some x))) else none) := rfl
  by_cases h : x = 0 ∨ x = 1
  · rw [if_pos (Or.inr ⟨hr, h⟩)] at e
    rw [wp_end ((mm_st_eq hc hd).trans e)]
    exact ⟨fun z => ⟨h, z⟩, fun z => z.2⟩
  · rw [if_neg (fun z => h (z.elim (fun z => by rw [hr] at z; cases z) (fun z => z.2)))] at e
    rw [wp_no ((mm_st_eq hc hd).trans e)]
    exact ⟨fun z => z.elim, fun z => h z.1⟩
theorem wi_vret (hc : mm_code j = cc) (hd : decode cc pc = .ok (.return_, 1)) (hr : mm_ret j = none) : wp j pc lo [] M Q ↔ Q none M :=
  wp_end ((mm_st_eq hc hd).trans (by
    show (if 1 = 1 then mm_rtv j [] else none) = _
    rw [if_pos rfl]
    simp only [mm_rtv]
    rw [if_pos hr]))
end WP
end
section
/-! THE RECORDS BY NAME -/
theorem kX0_begin : mm_rec 0 = (cX0_begin, yX0_begin, 1, none, 0, 0, 1, 23, 640, 56) := rfl
theorem kcX0_begin : mm_code 0 = cX0_begin := by unfold mm_code; rw [kX0_begin]
theorem kmX0_begin : mm_maxL 0 = 1 := by unfold mm_maxL; rw [kX0_begin]
theorem krX0_begin : mm_ret 0 = none := by unfold mm_ret; rw [kX0_begin]
theorem knX0_begin : mm_cno 0 = 0 := by unfold mm_cno; rw [kX0_begin]
theorem kpX0_begin : mm_np 0 = 0 := by unfold mm_np; rw [kX0_begin]
theorem kfX0_begin : mm_fr 0 = 1 := by unfold mm_fr; rw [kX0_begin]
theorem klX0_begin : mm_lo 0 = 23 := by unfold mm_lo; rw [kX0_begin]

theorem kX0_compare : mm_rec 1 = (cX0_compare, yX0_compare, 9, none, 0, 5, 4, 88, 645, 56) := rfl
theorem kcX0_compare : mm_code 1 = cX0_compare := by unfold mm_code; rw [kX0_compare]
theorem kmX0_compare : mm_maxL 1 = 9 := by unfold mm_maxL; rw [kX0_compare]
theorem krX0_compare : mm_ret 1 = none := by unfold mm_ret; rw [kX0_compare]
theorem knX0_compare : mm_cno 1 = 0 := by unfold mm_cno; rw [kX0_compare]
theorem kpX0_compare : mm_np 1 = 5 := by unfold mm_np; rw [kX0_compare]
theorem kfX0_compare : mm_fr 1 = 4 := by unfold mm_fr; rw [kX0_compare]
theorem klX0_compare : mm_lo 1 = 88 := by unfold mm_lo; rw [kX0_compare]

theorem kX0_alikeBeats : mm_rec 2 = (cX0_alikeBeats, yX0_alikeBeats, 4, (some .int), 0, 1, 0, 0, 656, 56) := rfl
theorem kcX0_alikeBeats : mm_code 2 = cX0_alikeBeats := by unfold mm_code; rw [kX0_alikeBeats]
theorem kmX0_alikeBeats : mm_maxL 2 = 4 := by unfold mm_maxL; rw [kX0_alikeBeats]
theorem krX0_alikeBeats : mm_ret 2 = (some .int) := by unfold mm_ret; rw [kX0_alikeBeats]
theorem knX0_alikeBeats : mm_cno 2 = 0 := by unfold mm_cno; rw [kX0_alikeBeats]
theorem kpX0_alikeBeats : mm_np 2 = 1 := by unfold mm_np; rw [kX0_alikeBeats]
theorem kfX0_alikeBeats : mm_fr 2 = 0 := by unfold mm_fr; rw [kX0_alikeBeats]
theorem klX0_alikeBeats : mm_lo 2 = 0 := by unfold mm_lo; rw [kX0_alikeBeats]

theorem kX1_keep : mm_rec 3 = (cX1_keep, yX1_keep, 4, none, 1, 1, 1, 26, 251, 53) := rfl
theorem kcX1_keep : mm_code 3 = cX1_keep := by unfold mm_code; rw [kX1_keep]
theorem kmX1_keep : mm_maxL 3 = 4 := by unfold mm_maxL; rw [kX1_keep]
theorem krX1_keep : mm_ret 3 = none := by unfold mm_ret; rw [kX1_keep]
theorem knX1_keep : mm_cno 3 = 1 := by unfold mm_cno; rw [kX1_keep]
theorem kpX1_keep : mm_np 3 = 1 := by unfold mm_np; rw [kX1_keep]
theorem kfX1_keep : mm_fr 3 = 1 := by unfold mm_fr; rw [kX1_keep]
theorem klX1_keep : mm_lo 3 = 26 := by unfold mm_lo; rw [kX1_keep]

theorem kX1_restore : mm_rec 4 = (cX1_restore, yX1_restore, 4, none, 1, 1, 0, 0, 470, 53) := rfl
theorem kcX1_restore : mm_code 4 = cX1_restore := by unfold mm_code; rw [kX1_restore]
theorem kmX1_restore : mm_maxL 4 = 4 := by unfold mm_maxL; rw [kX1_restore]
theorem krX1_restore : mm_ret 4 = none := by unfold mm_ret; rw [kX1_restore]
theorem knX1_restore : mm_cno 4 = 1 := by unfold mm_cno; rw [kX1_restore]
theorem kpX1_restore : mm_np 4 = 1 := by unfold mm_np; rw [kX1_restore]
theorem kfX1_restore : mm_fr 4 = 0 := by unfold mm_fr; rw [kX1_restore]
theorem klX1_restore : mm_lo 4 = 0 := by unfold mm_lo; rw [kX1_restore]

theorem kX2_empty : mm_rec 5 = (cX2_empty, yX2_empty, 2, none, 2, 1, 0, 0, 258, 52) := rfl
theorem kcX2_empty : mm_code 5 = cX2_empty := by unfold mm_code; rw [kX2_empty]
theorem kmX2_empty : mm_maxL 5 = 2 := by unfold mm_maxL; rw [kX2_empty]
theorem krX2_empty : mm_ret 5 = none := by unfold mm_ret; rw [kX2_empty]
theorem knX2_empty : mm_cno 5 = 2 := by unfold mm_cno; rw [kX2_empty]
theorem kpX2_empty : mm_np 5 = 1 := by unfold mm_np; rw [kX2_empty]
theorem kfX2_empty : mm_fr 5 = 0 := by unfold mm_fr; rw [kX2_empty]
theorem klX2_empty : mm_lo 5 = 0 := by unfold mm_lo; rw [kX2_empty]

theorem kX2_emptyAs : mm_rec 6 = (cX2_emptyAs, yX2_emptyAs, 2, none, 2, 1, 0, 0, 348, 52) := rfl
theorem kcX2_emptyAs : mm_code 6 = cX2_emptyAs := by unfold mm_code; rw [kX2_emptyAs]
theorem kmX2_emptyAs : mm_maxL 6 = 2 := by unfold mm_maxL; rw [kX2_emptyAs]
theorem krX2_emptyAs : mm_ret 6 = none := by unfold mm_ret; rw [kX2_emptyAs]
theorem knX2_emptyAs : mm_cno 6 = 2 := by unfold mm_cno; rw [kX2_emptyAs]
theorem kpX2_emptyAs : mm_np 6 = 1 := by unfold mm_np; rw [kX2_emptyAs]
theorem kfX2_emptyAs : mm_fr 6 = 0 := by unfold mm_fr; rw [kX2_emptyAs]
theorem klX2_emptyAs : mm_lo 6 = 0 := by unfold mm_lo; rw [kX2_emptyAs]

theorem kX2_become : mm_rec 7 = (cX2_become, yX2_become, 2, none, 2, 1, 1, 26, 396, 52) := rfl
theorem kcX2_become : mm_code 7 = cX2_become := by unfold mm_code; rw [kX2_become]
theorem kmX2_become : mm_maxL 7 = 2 := by unfold mm_maxL; rw [kX2_become]
theorem krX2_become : mm_ret 7 = none := by unfold mm_ret; rw [kX2_become]
theorem knX2_become : mm_cno 7 = 2 := by unfold mm_cno; rw [kX2_become]
theorem kpX2_become : mm_np 7 = 1 := by unfold mm_np; rw [kX2_become]
theorem kfX2_become : mm_fr 7 = 1 := by unfold mm_fr; rw [kX2_become]
theorem klX2_become : mm_lo 7 = 26 := by unfold mm_lo; rw [kX2_become]

theorem kX2_at : mm_rec 8 = (cX2_at, yX2_at, 2, (some .int), 2, 1, 0, 0, 352, 52) := rfl
theorem kcX2_at : mm_code 8 = cX2_at := by unfold mm_code; rw [kX2_at]
theorem kmX2_at : mm_maxL 8 = 2 := by unfold mm_maxL; rw [kX2_at]
theorem krX2_at : mm_ret 8 = (some .int) := by unfold mm_ret; rw [kX2_at]
theorem knX2_at : mm_cno 8 = 2 := by unfold mm_cno; rw [kX2_at]
theorem kpX2_at : mm_np 8 = 1 := by unfold mm_np; rw [kX2_at]
theorem kfX2_at : mm_fr 8 = 0 := by unfold mm_fr; rw [kX2_at]
theorem klX2_at : mm_lo 8 = 0 := by unfold mm_lo; rw [kX2_at]

theorem kX2_hasRoomFor : mm_rec 9 = (cX2_hasRoomFor, yX2_hasRoomFor, 6, (some .boolean), 2, 1, 2, 40, 284, 52) := rfl
theorem kcX2_hasRoomFor : mm_code 9 = cX2_hasRoomFor := by unfold mm_code; rw [kX2_hasRoomFor]
theorem kmX2_hasRoomFor : mm_maxL 9 = 6 := by unfold mm_maxL; rw [kX2_hasRoomFor]
theorem krX2_hasRoomFor : mm_ret 9 = (some .boolean) := by unfold mm_ret; rw [kX2_hasRoomFor]
theorem knX2_hasRoomFor : mm_cno 9 = 2 := by unfold mm_cno; rw [kX2_hasRoomFor]
theorem kpX2_hasRoomFor : mm_np 9 = 1 := by unfold mm_np; rw [kX2_hasRoomFor]
theorem kfX2_hasRoomFor : mm_fr 9 = 2 := by unfold mm_fr; rw [kX2_hasRoomFor]
theorem klX2_hasRoomFor : mm_lo 9 = 40 := by unfold mm_lo; rw [kX2_hasRoomFor]

theorem kX2_put : mm_rec 10 = (cX2_put, yX2_put, 3, (some .int), 2, 1, 0, 0, 301, 52) := rfl
theorem kcX2_put : mm_code 10 = cX2_put := by unfold mm_code; rw [kX2_put]
theorem kmX2_put : mm_maxL 10 = 3 := by unfold mm_maxL; rw [kX2_put]
theorem krX2_put : mm_ret 10 = (some .int) := by unfold mm_ret; rw [kX2_put]
theorem knX2_put : mm_cno 10 = 2 := by unfold mm_cno; rw [kX2_put]
theorem kpX2_put : mm_np 10 = 1 := by unfold mm_np; rw [kX2_put]
theorem kfX2_put : mm_fr 10 = 0 := by unfold mm_fr; rw [kX2_put]
theorem klX2_put : mm_lo 10 = 0 := by unfold mm_lo; rw [kX2_put]

theorem kX2_takeOut : mm_rec 11 = (cX2_takeOut, yX2_takeOut, 3, none, 2, 1, 0, 0, 333, 52) := rfl
theorem kcX2_takeOut : mm_code 11 = cX2_takeOut := by unfold mm_code; rw [kX2_takeOut]
theorem kmX2_takeOut : mm_maxL 11 = 3 := by unfold mm_maxL; rw [kX2_takeOut]
theorem krX2_takeOut : mm_ret 11 = none := by unfold mm_ret; rw [kX2_takeOut]
theorem knX2_takeOut : mm_cno 11 = 2 := by unfold mm_cno; rw [kX2_takeOut]
theorem kpX2_takeOut : mm_np 11 = 1 := by unfold mm_np; rw [kX2_takeOut]
theorem kfX2_takeOut : mm_fr 11 = 0 := by unfold mm_fr; rw [kX2_takeOut]
theorem klX2_takeOut : mm_lo 11 = 0 := by unfold mm_lo; rw [kX2_takeOut]

theorem kX2_endOf : mm_rec 12 = (cX2_endOf, yX2_endOf, 4, (some .int), 2, 1, 2, 40, 484, 52) := rfl
theorem kcX2_endOf : mm_code 12 = cX2_endOf := by unfold mm_code; rw [kX2_endOf]
theorem kmX2_endOf : mm_maxL 12 = 4 := by unfold mm_maxL; rw [kX2_endOf]
theorem krX2_endOf : mm_ret 12 = (some .int) := by unfold mm_ret; rw [kX2_endOf]
theorem knX2_endOf : mm_cno 12 = 2 := by unfold mm_cno; rw [kX2_endOf]
theorem kpX2_endOf : mm_np 12 = 1 := by unfold mm_np; rw [kX2_endOf]
theorem kfX2_endOf : mm_fr 12 = 2 := by unfold mm_fr; rw [kX2_endOf]
theorem klX2_endOf : mm_lo 12 = 40 := by unfold mm_lo; rw [kX2_endOf]

theorem kX2_numberCovering : mm_rec 13 = (cX2_numberCovering, yX2_numberCovering, 5, (some .int), 2, 2, 3, 63, 497, 52) := rfl
theorem kcX2_numberCovering : mm_code 13 = cX2_numberCovering := by unfold mm_code; rw [kX2_numberCovering]
theorem kmX2_numberCovering : mm_maxL 13 = 5 := by unfold mm_maxL; rw [kX2_numberCovering]
theorem krX2_numberCovering : mm_ret 13 = (some .int) := by unfold mm_ret; rw [kX2_numberCovering]
theorem knX2_numberCovering : mm_cno 13 = 2 := by unfold mm_cno; rw [kX2_numberCovering]
theorem kpX2_numberCovering : mm_np 13 = 2 := by unfold mm_np; rw [kX2_numberCovering]
theorem kfX2_numberCovering : mm_fr 13 = 3 := by unfold mm_fr; rw [kX2_numberCovering]
theorem klX2_numberCovering : mm_lo 13 = 63 := by unfold mm_lo; rw [kX2_numberCovering]

theorem kX2_fillRow : mm_rec 14 = (cX2_fillRow, yX2_fillRow, 6, none, 2, 2, 3, 63, 515, 52) := rfl
theorem kcX2_fillRow : mm_code 14 = cX2_fillRow := by unfold mm_code; rw [kX2_fillRow]
theorem kmX2_fillRow : mm_maxL 14 = 6 := by unfold mm_maxL; rw [kX2_fillRow]
theorem krX2_fillRow : mm_ret 14 = none := by unfold mm_ret; rw [kX2_fillRow]
theorem knX2_fillRow : mm_cno 14 = 2 := by unfold mm_cno; rw [kX2_fillRow]
theorem kpX2_fillRow : mm_np 14 = 2 := by unfold mm_np; rw [kX2_fillRow]
theorem kfX2_fillRow : mm_fr 14 = 3 := by unfold mm_fr; rw [kX2_fillRow]
theorem klX2_fillRow : mm_lo 14 = 63 := by unfold mm_lo; rw [kX2_fillRow]

theorem kX3_append : mm_rec 15 = (cX3_append, yX3_append, 2, none, 3, 1, 0, 0, 664, 57) := rfl
theorem kcX3_append : mm_code 15 = cX3_append := by unfold mm_code; rw [kX3_append]
theorem kmX3_append : mm_maxL 15 = 2 := by unfold mm_maxL; rw [kX3_append]
theorem krX3_append : mm_ret 15 = none := by unfold mm_ret; rw [kX3_append]
theorem knX3_append : mm_cno 15 = 3 := by unfold mm_cno; rw [kX3_append]
theorem kpX3_append : mm_np 15 = 1 := by unfold mm_np; rw [kX3_append]
theorem kfX3_append : mm_fr 15 = 0 := by unfold mm_fr; rw [kX3_append]
theorem klX3_append : mm_lo 15 = 0 := by unfold mm_lo; rw [kX3_append]

theorem kX3_readFor : mm_rec 16 = (cX3_readFor, yX3_readFor, 5, (some .int), 3, 2, 5, 125, 409, 57) := rfl
theorem kcX3_readFor : mm_code 16 = cX3_readFor := by unfold mm_code; rw [kX3_readFor]
theorem kmX3_readFor : mm_maxL 16 = 5 := by unfold mm_maxL; rw [kX3_readFor]
theorem krX3_readFor : mm_ret 16 = (some .int) := by unfold mm_ret; rw [kX3_readFor]
theorem knX3_readFor : mm_cno 16 = 3 := by unfold mm_cno; rw [kX3_readFor]
theorem kpX3_readFor : mm_np 16 = 2 := by unfold mm_np; rw [kX3_readFor]
theorem kfX3_readFor : mm_fr 16 = 5 := by unfold mm_fr; rw [kX3_readFor]
theorem klX3_readFor : mm_lo 16 = 125 := by unfold mm_lo; rw [kX3_readFor]

theorem kX3_readItem : mm_rec 17 = (cX3_readItem, yX3_readItem, 8, (some .boolean), 3, 1, 4, 98, 417, 57) := rfl
theorem kcX3_readItem : mm_code 17 = cX3_readItem := by unfold mm_code; rw [kX3_readItem]
theorem kmX3_readItem : mm_maxL 17 = 8 := by unfold mm_maxL; rw [kX3_readItem]
theorem krX3_readItem : mm_ret 17 = (some .boolean) := by unfold mm_ret; rw [kX3_readItem]
theorem knX3_readItem : mm_cno 17 = 3 := by unfold mm_cno; rw [kX3_readItem]
theorem kpX3_readItem : mm_np 17 = 1 := by unfold mm_np; rw [kX3_readItem]
theorem kfX3_readItem : mm_fr 17 = 4 := by unfold mm_fr; rw [kX3_readItem]
theorem klX3_readItem : mm_lo 17 = 98 := by unfold mm_lo; rw [kX3_readItem]

theorem kX3_spanOf : mm_rec 18 = (cX3_spanOf, yX3_spanOf, 1, (some .int), 3, 1, 1, 20, 457, 57) := rfl
theorem kcX3_spanOf : mm_code 18 = cX3_spanOf := by unfold mm_code; rw [kX3_spanOf]
theorem kmX3_spanOf : mm_maxL 18 = 1 := by unfold mm_maxL; rw [kX3_spanOf]
theorem krX3_spanOf : mm_ret 18 = (some .int) := by unfold mm_ret; rw [kX3_spanOf]
theorem knX3_spanOf : mm_cno 18 = 3 := by unfold mm_cno; rw [kX3_spanOf]
theorem kpX3_spanOf : mm_np 18 = 1 := by unfold mm_np; rw [kX3_spanOf]
theorem kfX3_spanOf : mm_fr 18 = 1 := by unfold mm_fr; rw [kX3_spanOf]
theorem klX3_spanOf : mm_lo 18 = 20 := by unfold mm_lo; rw [kX3_spanOf]

theorem kX3_isTaken : mm_rec 19 = (cX3_isTaken, yX3_isTaken, 2, (some .boolean), 3, 2, 1, 22, 461, 57) := rfl
theorem kcX3_isTaken : mm_code 19 = cX3_isTaken := by unfold mm_code; rw [kX3_isTaken]
theorem kmX3_isTaken : mm_maxL 19 = 2 := by unfold mm_maxL; rw [kX3_isTaken]
theorem krX3_isTaken : mm_ret 19 = (some .boolean) := by unfold mm_ret; rw [kX3_isTaken]
theorem knX3_isTaken : mm_cno 19 = 3 := by unfold mm_cno; rw [kX3_isTaken]
theorem kpX3_isTaken : mm_np 19 = 2 := by unfold mm_np; rw [kX3_isTaken]
theorem kfX3_isTaken : mm_fr 19 = 1 := by unfold mm_fr; rw [kX3_isTaken]
theorem klX3_isTaken : mm_lo 19 = 22 := by unfold mm_lo; rw [kX3_isTaken]

theorem kX3_readSign : mm_rec 20 = (cX3_readSign, yX3_readSign, 4, (some .int), 3, 3, 3, 75, 434, 57) := rfl
theorem kcX3_readSign : mm_code 20 = cX3_readSign := by unfold mm_code; rw [kX3_readSign]
theorem kmX3_readSign : mm_maxL 20 = 4 := by unfold mm_maxL; rw [kX3_readSign]
theorem krX3_readSign : mm_ret 20 = (some .int) := by unfold mm_ret; rw [kX3_readSign]
theorem knX3_readSign : mm_cno 20 = 3 := by unfold mm_cno; rw [kX3_readSign]
theorem kpX3_readSign : mm_np 20 = 3 := by unfold mm_np; rw [kX3_readSign]
theorem kfX3_readSign : mm_fr 20 = 3 := by unfold mm_fr; rw [kX3_readSign]
theorem klX3_readSign : mm_lo 20 = 75 := by unfold mm_lo; rw [kX3_readSign]

theorem kX3_readMove : mm_rec 21 = (cX3_readMove, yX3_readMove, 6, (some .int), 3, 2, 2, 50, 438, 57) := rfl
theorem kcX3_readMove : mm_code 21 = cX3_readMove := by unfold mm_code; rw [kX3_readMove]
theorem kmX3_readMove : mm_maxL 21 = 6 := by unfold mm_maxL; rw [kX3_readMove]
theorem krX3_readMove : mm_ret 21 = (some .int) := by unfold mm_ret; rw [kX3_readMove]
theorem knX3_readMove : mm_cno 21 = 3 := by unfold mm_cno; rw [kX3_readMove]
theorem kpX3_readMove : mm_np 21 = 2 := by unfold mm_np; rw [kX3_readMove]
theorem kfX3_readMove : mm_fr 21 = 2 := by unfold mm_fr; rw [kX3_readMove]
theorem klX3_readMove : mm_lo 21 = 50 := by unfold mm_lo; rw [kX3_readMove]

theorem kX3_readTurn : mm_rec 22 = (cX3_readTurn, yX3_readTurn, 7, (some .int), 3, 2, 2, 49, 452, 57) := rfl
theorem kcX3_readTurn : mm_code 22 = cX3_readTurn := by unfold mm_code; rw [kX3_readTurn]
theorem kmX3_readTurn : mm_maxL 22 = 7 := by unfold mm_maxL; rw [kX3_readTurn]
theorem krX3_readTurn : mm_ret 22 = (some .int) := by unfold mm_ret; rw [kX3_readTurn]
theorem knX3_readTurn : mm_cno 22 = 3 := by unfold mm_cno; rw [kX3_readTurn]
theorem kpX3_readTurn : mm_np 22 = 2 := by unfold mm_np; rw [kX3_readTurn]
theorem kfX3_readTurn : mm_fr 22 = 2 := by unfold mm_fr; rw [kX3_readTurn]
theorem klX3_readTurn : mm_lo 22 = 49 := by unfold mm_lo; rw [kX3_readTurn]

theorem kX3_levelNamed : mm_rec 23 = (cX3_levelNamed, yX3_levelNamed, 1, (some .int), 3, 1, 0, 0, 441, 57) := rfl
theorem kcX3_levelNamed : mm_code 23 = cX3_levelNamed := by unfold mm_code; rw [kX3_levelNamed]
theorem kmX3_levelNamed : mm_maxL 23 = 1 := by unfold mm_maxL; rw [kX3_levelNamed]
theorem krX3_levelNamed : mm_ret 23 = (some .int) := by unfold mm_ret; rw [kX3_levelNamed]
theorem knX3_levelNamed : mm_cno 23 = 3 := by unfold mm_cno; rw [kX3_levelNamed]
theorem kpX3_levelNamed : mm_np 23 = 1 := by unfold mm_np; rw [kX3_levelNamed]
theorem kfX3_levelNamed : mm_fr 23 = 0 := by unfold mm_fr; rw [kX3_levelNamed]
theorem klX3_levelNamed : mm_lo 23 = 0 := by unfold mm_lo; rw [kX3_levelNamed]

theorem kX3_readLength : mm_rec 24 = (cX3_readLength, yX3_readLength, 3, (some .int), 3, 0, 1, 22, 445, 57) := rfl
theorem kcX3_readLength : mm_code 24 = cX3_readLength := by unfold mm_code; rw [kX3_readLength]
theorem kmX3_readLength : mm_maxL 24 = 3 := by unfold mm_maxL; rw [kX3_readLength]
theorem krX3_readLength : mm_ret 24 = (some .int) := by unfold mm_ret; rw [kX3_readLength]
theorem knX3_readLength : mm_cno 24 = 3 := by unfold mm_cno; rw [kX3_readLength]
theorem kpX3_readLength : mm_np 24 = 0 := by unfold mm_np; rw [kX3_readLength]
theorem kfX3_readLength : mm_fr 24 = 1 := by unfold mm_fr; rw [kX3_readLength]
theorem klX3_readLength : mm_lo 24 = 22 := by unfold mm_lo; rw [kX3_readLength]

theorem kX3_readDigit : mm_rec 25 = (cX3_readDigit, yX3_readDigit, 2, (some .int), 3, 0, 1, 22, 421, 57) := rfl
theorem kcX3_readDigit : mm_code 25 = cX3_readDigit := by unfold mm_code; rw [kX3_readDigit]
theorem kmX3_readDigit : mm_maxL 25 = 2 := by unfold mm_maxL; rw [kX3_readDigit]
theorem krX3_readDigit : mm_ret 25 = (some .int) := by unfold mm_ret; rw [kX3_readDigit]
theorem knX3_readDigit : mm_cno 25 = 3 := by unfold mm_cno; rw [kX3_readDigit]
theorem kpX3_readDigit : mm_np 25 = 0 := by unfold mm_np; rw [kX3_readDigit]
theorem kfX3_readDigit : mm_fr 25 = 1 := by unfold mm_fr; rw [kX3_readDigit]
theorem klX3_readDigit : mm_lo 25 = 22 := by unfold mm_lo; rw [kX3_readDigit]

theorem kX3_readCharacter : mm_rec 26 = (cX3_readCharacter, yX3_readCharacter, 2, (some .int), 3, 0, 0, 0, 430, 57) := rfl
theorem kcX3_readCharacter : mm_code 26 = cX3_readCharacter := by unfold mm_code; rw [kX3_readCharacter]
theorem kmX3_readCharacter : mm_maxL 26 = 2 := by unfold mm_maxL; rw [kX3_readCharacter]
theorem krX3_readCharacter : mm_ret 26 = (some .int) := by unfold mm_ret; rw [kX3_readCharacter]
theorem knX3_readCharacter : mm_cno 26 = 3 := by unfold mm_cno; rw [kX3_readCharacter]
theorem kpX3_readCharacter : mm_np 26 = 0 := by unfold mm_np; rw [kX3_readCharacter]
theorem kfX3_readCharacter : mm_fr 26 = 0 := by unfold mm_fr; rw [kX3_readCharacter]
theorem klX3_readCharacter : mm_lo 26 = 0 := by unfold mm_lo; rw [kX3_readCharacter]

theorem kX3_digitAt : mm_rec 27 = (cX3_digitAt, yX3_digitAt, 3, (some .int), 3, 1, 0, 0, 425, 57) := rfl
theorem kcX3_digitAt : mm_code 27 = cX3_digitAt := by unfold mm_code; rw [kX3_digitAt]
theorem kmX3_digitAt : mm_maxL 27 = 3 := by unfold mm_maxL; rw [kX3_digitAt]
theorem krX3_digitAt : mm_ret 27 = (some .int) := by unfold mm_ret; rw [kX3_digitAt]
theorem knX3_digitAt : mm_cno 27 = 3 := by unfold mm_cno; rw [kX3_digitAt]
theorem kpX3_digitAt : mm_np 27 = 1 := by unfold mm_np; rw [kX3_digitAt]
theorem kfX3_digitAt : mm_fr 27 = 0 := by unfold mm_fr; rw [kX3_digitAt]
theorem klX3_digitAt : mm_lo 27 = 0 := by unfold mm_lo; rw [kX3_digitAt]

theorem kX4_move : mm_rec 28 = (cX4_move, yX4_move, 5, (some .int), 4, 5, 1, 26, 273, 60) := rfl
theorem kcX4_move : mm_code 28 = cX4_move := by unfold mm_code; rw [kX4_move]
theorem kmX4_move : mm_maxL 28 = 5 := by unfold mm_maxL; rw [kX4_move]
theorem krX4_move : mm_ret 28 = (some .int) := by unfold mm_ret; rw [kX4_move]
theorem knX4_move : mm_cno 28 = 4 := by unfold mm_cno; rw [kX4_move]
theorem kpX4_move : mm_np 28 = 5 := by unfold mm_np; rw [kX4_move]
theorem kfX4_move : mm_fr 28 = 1 := by unfold mm_fr; rw [kX4_move]
theorem klX4_move : mm_lo 28 = 26 := by unfold mm_lo; rw [kX4_move]

theorem kX4_hold : mm_rec 29 = (cX4_hold, yX4_hold, 2, (some .int), 4, 2, 1, 26, 311, 60) := rfl
theorem kcX4_hold : mm_code 29 = cX4_hold := by unfold mm_code; rw [kX4_hold]
theorem kmX4_hold : mm_maxL 29 = 2 := by unfold mm_maxL; rw [kX4_hold]
theorem krX4_hold : mm_ret 29 = (some .int) := by unfold mm_ret; rw [kX4_hold]
theorem knX4_hold : mm_cno 29 = 4 := by unfold mm_cno; rw [kX4_hold]
theorem kpX4_hold : mm_np 29 = 2 := by unfold mm_np; rw [kX4_hold]
theorem kfX4_hold : mm_fr 29 = 1 := by unfold mm_fr; rw [kX4_hold]
theorem klX4_hold : mm_lo 29 = 26 := by unfold mm_lo; rw [kX4_hold]

theorem kX4_turn : mm_rec 30 = (cX4_turn, yX4_turn, 4, (some .int), 4, 4, 1, 26, 318, 60) := rfl
theorem kcX4_turn : mm_code 30 = cX4_turn := by unfold mm_code; rw [kX4_turn]
theorem kmX4_turn : mm_maxL 30 = 4 := by unfold mm_maxL; rw [kX4_turn]
theorem krX4_turn : mm_ret 30 = (some .int) := by unfold mm_ret; rw [kX4_turn]
theorem knX4_turn : mm_cno 30 = 4 := by unfold mm_cno; rw [kX4_turn]
theorem kpX4_turn : mm_np 30 = 4 := by unfold mm_np; rw [kX4_turn]
theorem kfX4_turn : mm_fr 30 = 1 := by unfold mm_fr; rw [kX4_turn]
theorem klX4_turn : mm_lo 30 = 26 := by unfold mm_lo; rw [kX4_turn]

theorem kX4_release : mm_rec 31 = (cX4_release, yX4_release, 3, (some .int), 4, 3, 1, 26, 325, 60) := rfl
theorem kcX4_release : mm_code 31 = cX4_release := by unfold mm_code; rw [kX4_release]
theorem kmX4_release : mm_maxL 31 = 3 := by unfold mm_maxL; rw [kX4_release]
theorem krX4_release : mm_ret 31 = (some .int) := by unfold mm_ret; rw [kX4_release]
theorem knX4_release : mm_cno 31 = 4 := by unfold mm_cno; rw [kX4_release]
theorem kpX4_release : mm_np 31 = 3 := by unfold mm_np; rw [kX4_release]
theorem kfX4_release : mm_fr 31 = 1 := by unfold mm_fr; rw [kX4_release]
theorem klX4_release : mm_lo 31 = 26 := by unfold mm_lo; rw [kX4_release]

theorem kX4_packed : mm_rec 32 = (cX4_packed, yX4_packed, 7, (some .int), 4, 7, 0, 0, 276, 60) := rfl
theorem kcX4_packed : mm_code 32 = cX4_packed := by unfold mm_code; rw [kX4_packed]
theorem kmX4_packed : mm_maxL 32 = 7 := by unfold mm_maxL; rw [kX4_packed]
theorem krX4_packed : mm_ret 32 = (some .int) := by unfold mm_ret; rw [kX4_packed]
theorem knX4_packed : mm_cno 32 = 4 := by unfold mm_cno; rw [kX4_packed]
theorem kpX4_packed : mm_np 32 = 7 := by unfold mm_np; rw [kX4_packed]
theorem kfX4_packed : mm_fr 32 = 0 := by unfold mm_fr; rw [kX4_packed]
theorem klX4_packed : mm_lo 32 = 0 := by unfold mm_lo; rw [kX4_packed]

theorem kX4_beginOf : mm_rec 33 = (cX4_beginOf, yX4_beginOf, 1, (some .int), 4, 1, 0, 0, 287, 60) := rfl
theorem kcX4_beginOf : mm_code 33 = cX4_beginOf := by unfold mm_code; rw [kX4_beginOf]
theorem kmX4_beginOf : mm_maxL 33 = 1 := by unfold mm_maxL; rw [kX4_beginOf]
theorem krX4_beginOf : mm_ret 33 = (some .int) := by unfold mm_ret; rw [kX4_beginOf]
theorem knX4_beginOf : mm_cno 33 = 4 := by unfold mm_cno; rw [kX4_beginOf]
theorem kpX4_beginOf : mm_np 33 = 1 := by unfold mm_np; rw [kX4_beginOf]
theorem kfX4_beginOf : mm_fr 33 = 0 := by unfold mm_fr; rw [kX4_beginOf]
theorem klX4_beginOf : mm_lo 33 = 0 := by unfold mm_lo; rw [kX4_beginOf]

theorem kX4_columnOf : mm_rec 34 = (cX4_columnOf, yX4_columnOf, 1, (some .int), 4, 1, 0, 0, 297, 60) := rfl
theorem kcX4_columnOf : mm_code 34 = cX4_columnOf := by unfold mm_code; rw [kX4_columnOf]
theorem kmX4_columnOf : mm_maxL 34 = 1 := by unfold mm_maxL; rw [kX4_columnOf]
theorem krX4_columnOf : mm_ret 34 = (some .int) := by unfold mm_ret; rw [kX4_columnOf]
theorem knX4_columnOf : mm_cno 34 = 4 := by unfold mm_cno; rw [kX4_columnOf]
theorem kpX4_columnOf : mm_np 34 = 1 := by unfold mm_np; rw [kX4_columnOf]
theorem kfX4_columnOf : mm_fr 34 = 0 := by unfold mm_fr; rw [kX4_columnOf]
theorem klX4_columnOf : mm_lo 34 = 0 := by unfold mm_lo; rw [kX4_columnOf]

theorem kX4_spanOf : mm_rec 35 = (cX4_spanOf, yX4_spanOf, 1, (some .int), 4, 1, 0, 0, 294, 60) := rfl
theorem kcX4_spanOf : mm_code 35 = cX4_spanOf := by unfold mm_code; rw [kX4_spanOf]
theorem kmX4_spanOf : mm_maxL 35 = 1 := by unfold mm_maxL; rw [kX4_spanOf]
theorem krX4_spanOf : mm_ret 35 = (some .int) := by unfold mm_ret; rw [kX4_spanOf]
theorem knX4_spanOf : mm_cno 35 = 4 := by unfold mm_cno; rw [kX4_spanOf]
theorem kpX4_spanOf : mm_np 35 = 1 := by unfold mm_np; rw [kX4_spanOf]
theorem kfX4_spanOf : mm_fr 35 = 0 := by unfold mm_fr; rw [kX4_spanOf]
theorem klX4_spanOf : mm_lo 35 = 0 := by unfold mm_lo; rw [kX4_spanOf]

theorem kX4_kindOf : mm_rec 36 = (cX4_kindOf, yX4_kindOf, 1, (some .int), 4, 1, 0, 0, 364, 60) := rfl
theorem kcX4_kindOf : mm_code 36 = cX4_kindOf := by unfold mm_code; rw [kX4_kindOf]
theorem kmX4_kindOf : mm_maxL 36 = 1 := by unfold mm_maxL; rw [kX4_kindOf]
theorem krX4_kindOf : mm_ret 36 = (some .int) := by unfold mm_ret; rw [kX4_kindOf]
theorem knX4_kindOf : mm_cno 36 = 4 := by unfold mm_cno; rw [kX4_kindOf]
theorem kpX4_kindOf : mm_np 36 = 1 := by unfold mm_np; rw [kX4_kindOf]
theorem kfX4_kindOf : mm_fr 36 = 0 := by unfold mm_fr; rw [kX4_kindOf]
theorem klX4_kindOf : mm_lo 36 = 0 := by unfold mm_lo; rw [kX4_kindOf]

theorem kX4_directionOf : mm_rec 37 = (cX4_directionOf, yX4_directionOf, 1, (some .int), 4, 1, 0, 0, 367, 60) := rfl
theorem kcX4_directionOf : mm_code 37 = cX4_directionOf := by unfold mm_code; rw [kX4_directionOf]
theorem kmX4_directionOf : mm_maxL 37 = 1 := by unfold mm_maxL; rw [kX4_directionOf]
theorem krX4_directionOf : mm_ret 37 = (some .int) := by unfold mm_ret; rw [kX4_directionOf]
theorem knX4_directionOf : mm_cno 37 = 4 := by unfold mm_cno; rw [kX4_directionOf]
theorem kpX4_directionOf : mm_np 37 = 1 := by unfold mm_np; rw [kX4_directionOf]
theorem kfX4_directionOf : mm_fr 37 = 0 := by unfold mm_fr; rw [kX4_directionOf]
theorem klX4_directionOf : mm_lo 37 = 0 := by unfold mm_lo; rw [kX4_directionOf]

theorem kX4_levelOf : mm_rec 38 = (cX4_levelOf, yX4_levelOf, 1, (some .int), 4, 1, 0, 0, 370, 60) := rfl
theorem kcX4_levelOf : mm_code 38 = cX4_levelOf := by unfold mm_code; rw [kX4_levelOf]
theorem kmX4_levelOf : mm_maxL 38 = 1 := by unfold mm_maxL; rw [kX4_levelOf]
theorem krX4_levelOf : mm_ret 38 = (some .int) := by unfold mm_ret; rw [kX4_levelOf]
theorem knX4_levelOf : mm_cno 38 = 4 := by unfold mm_cno; rw [kX4_levelOf]
theorem kpX4_levelOf : mm_np 38 = 1 := by unfold mm_np; rw [kX4_levelOf]
theorem kfX4_levelOf : mm_fr 38 = 0 := by unfold mm_fr; rw [kX4_levelOf]
theorem klX4_levelOf : mm_lo 38 = 0 := by unfold mm_lo; rw [kX4_levelOf]

theorem kX4_amountOf : mm_rec 39 = (cX4_amountOf, yX4_amountOf, 1, (some .int), 4, 1, 0, 0, 373, 60) := rfl
theorem kcX4_amountOf : mm_code 39 = cX4_amountOf := by unfold mm_code; rw [kX4_amountOf]
theorem kmX4_amountOf : mm_maxL 39 = 1 := by unfold mm_maxL; rw [kX4_amountOf]
theorem krX4_amountOf : mm_ret 39 = (some .int) := by unfold mm_ret; rw [kX4_amountOf]
theorem knX4_amountOf : mm_cno 39 = 4 := by unfold mm_cno; rw [kX4_amountOf]
theorem kpX4_amountOf : mm_np 39 = 1 := by unfold mm_np; rw [kX4_amountOf]
theorem kfX4_amountOf : mm_fr 39 = 0 := by unfold mm_fr; rw [kX4_amountOf]
theorem klX4_amountOf : mm_lo 39 = 0 := by unfold mm_lo; rw [kX4_amountOf]

theorem kX4_shortEndOf : mm_rec 40 = (cX4_shortEndOf, yX4_shortEndOf, 1, (some .int), 4, 1, 1, 20, 290, 60) := rfl
theorem kcX4_shortEndOf : mm_code 40 = cX4_shortEndOf := by unfold mm_code; rw [kX4_shortEndOf]
theorem kmX4_shortEndOf : mm_maxL 40 = 1 := by unfold mm_maxL; rw [kX4_shortEndOf]
theorem krX4_shortEndOf : mm_ret 40 = (some .int) := by unfold mm_ret; rw [kX4_shortEndOf]
theorem knX4_shortEndOf : mm_cno 40 = 4 := by unfold mm_cno; rw [kX4_shortEndOf]
theorem kpX4_shortEndOf : mm_np 40 = 1 := by unfold mm_np; rw [kX4_shortEndOf]
theorem kfX4_shortEndOf : mm_fr 40 = 1 := by unfold mm_fr; rw [kX4_shortEndOf]
theorem klX4_shortEndOf : mm_lo 40 = 20 := by unfold mm_lo; rw [kX4_shortEndOf]

theorem kX4_lookOf : mm_rec 41 = (cX4_lookOf, yX4_lookOf, 1, (some .int), 4, 1, 0, 0, 652, 60) := rfl
theorem kcX4_lookOf : mm_code 41 = cX4_lookOf := by unfold mm_code; rw [kX4_lookOf]
theorem kmX4_lookOf : mm_maxL 41 = 1 := by unfold mm_maxL; rw [kX4_lookOf]
theorem krX4_lookOf : mm_ret 41 = (some .int) := by unfold mm_ret; rw [kX4_lookOf]
theorem knX4_lookOf : mm_cno 41 = 4 := by unfold mm_cno; rw [kX4_lookOf]
theorem kpX4_lookOf : mm_np 41 = 1 := by unfold mm_np; rw [kX4_lookOf]
theorem kfX4_lookOf : mm_fr 41 = 0 := by unfold mm_fr; rw [kX4_lookOf]
theorem klX4_lookOf : mm_lo 41 = 0 := by unfold mm_lo; rw [kX4_lookOf]

theorem kX4_movedTo : mm_rec 42 = (cX4_movedTo, yX4_movedTo, 2, (some .int), 4, 2, 1, 26, 360, 60) := rfl
theorem kcX4_movedTo : mm_code 42 = cX4_movedTo := by unfold mm_code; rw [kX4_movedTo]
theorem kmX4_movedTo : mm_maxL 42 = 2 := by unfold mm_maxL; rw [kX4_movedTo]
theorem krX4_movedTo : mm_ret 42 = (some .int) := by unfold mm_ret; rw [kX4_movedTo]
theorem knX4_movedTo : mm_cno 42 = 4 := by unfold mm_cno; rw [kX4_movedTo]
theorem kpX4_movedTo : mm_np 42 = 2 := by unfold mm_np; rw [kX4_movedTo]
theorem kfX4_movedTo : mm_fr 42 = 1 := by unfold mm_fr; rw [kX4_movedTo]
theorem klX4_movedTo : mm_lo 42 = 26 := by unfold mm_lo; rw [kX4_movedTo]

theorem kX4_turnedBack : mm_rec 43 = (cX4_turnedBack, yX4_turnedBack, 1, (some .int), 4, 1, 1, 26, 388, 60) := rfl
theorem kcX4_turnedBack : mm_code 43 = cX4_turnedBack := by unfold mm_code; rw [kX4_turnedBack]
theorem kmX4_turnedBack : mm_maxL 43 = 1 := by unfold mm_maxL; rw [kX4_turnedBack]
theorem krX4_turnedBack : mm_ret 43 = (some .int) := by unfold mm_ret; rw [kX4_turnedBack]
theorem knX4_turnedBack : mm_cno 43 = 4 := by unfold mm_cno; rw [kX4_turnedBack]
theorem kpX4_turnedBack : mm_np 43 = 1 := by unfold mm_np; rw [kX4_turnedBack]
theorem kfX4_turnedBack : mm_fr 43 = 1 := by unfold mm_fr; rw [kX4_turnedBack]
theorem klX4_turnedBack : mm_lo 43 = 26 := by unfold mm_lo; rw [kX4_turnedBack]

theorem kX4_mirrored : mm_rec 44 = (cX4_mirrored, yX4_mirrored, 1, (some .int), 4, 1, 1, 26, 379, 60) := rfl
theorem kcX4_mirrored : mm_code 44 = cX4_mirrored := by unfold mm_code; rw [kX4_mirrored]
theorem kmX4_mirrored : mm_maxL 44 = 1 := by unfold mm_maxL; rw [kX4_mirrored]
theorem krX4_mirrored : mm_ret 44 = (some .int) := by unfold mm_ret; rw [kX4_mirrored]
theorem knX4_mirrored : mm_cno 44 = 4 := by unfold mm_cno; rw [kX4_mirrored]
theorem kpX4_mirrored : mm_np 44 = 1 := by unfold mm_np; rw [kX4_mirrored]
theorem kfX4_mirrored : mm_fr 44 = 1 := by unfold mm_fr; rw [kX4_mirrored]
theorem klX4_mirrored : mm_lo 44 = 26 := by unfold mm_lo; rw [kX4_mirrored]

theorem kX4_mirroredColumn : mm_rec 45 = (cX4_mirroredColumn, yX4_mirroredColumn, 1, (some .int), 4, 1, 0, 0, 382, 60) := rfl
theorem kcX4_mirroredColumn : mm_code 45 = cX4_mirroredColumn := by unfold mm_code; rw [kX4_mirroredColumn]
theorem kmX4_mirroredColumn : mm_maxL 45 = 1 := by unfold mm_maxL; rw [kX4_mirroredColumn]
theorem krX4_mirroredColumn : mm_ret 45 = (some .int) := by unfold mm_ret; rw [kX4_mirroredColumn]
theorem knX4_mirroredColumn : mm_cno 45 = 4 := by unfold mm_cno; rw [kX4_mirroredColumn]
theorem kpX4_mirroredColumn : mm_np 45 = 1 := by unfold mm_np; rw [kX4_mirroredColumn]
theorem kfX4_mirroredColumn : mm_fr 45 = 0 := by unfold mm_fr; rw [kX4_mirroredColumn]
theorem klX4_mirroredColumn : mm_lo 45 = 0 := by unfold mm_lo; rw [kX4_mirroredColumn]

theorem kX4_mirroredDirection : mm_rec 46 = (cX4_mirroredDirection, yX4_mirroredDirection, 1, (some .int), 4, 1, 0, 0, 385, 60) := rfl
theorem kcX4_mirroredDirection : mm_code 46 = cX4_mirroredDirection := by unfold mm_code; rw [kX4_mirroredDirection]
theorem kmX4_mirroredDirection : mm_maxL 46 = 1 := by unfold mm_maxL; rw [kX4_mirroredDirection]
theorem krX4_mirroredDirection : mm_ret 46 = (some .int) := by unfold mm_ret; rw [kX4_mirroredDirection]
theorem knX4_mirroredDirection : mm_cno 46 = 4 := by unfold mm_cno; rw [kX4_mirroredDirection]
theorem kpX4_mirroredDirection : mm_np 46 = 1 := by unfold mm_np; rw [kX4_mirroredDirection]
theorem kfX4_mirroredDirection : mm_fr 46 = 0 := by unfold mm_fr; rw [kX4_mirroredDirection]
theorem klX4_mirroredDirection : mm_lo 46 = 0 := by unfold mm_lo; rw [kX4_mirroredDirection]

theorem kX5_follow : mm_rec 47 = (cX5_follow, yX5_follow, 3, none, 5, 1, 3, 64, 588, 55) := rfl
theorem kcX5_follow : mm_code 47 = cX5_follow := by unfold mm_code; rw [kX5_follow]
theorem kmX5_follow : mm_maxL 47 = 3 := by unfold mm_maxL; rw [kX5_follow]
theorem krX5_follow : mm_ret 47 = none := by unfold mm_ret; rw [kX5_follow]
theorem knX5_follow : mm_cno 47 = 5 := by unfold mm_cno; rw [kX5_follow]
theorem kpX5_follow : mm_np 47 = 1 := by unfold mm_np; rw [kX5_follow]
theorem kfX5_follow : mm_fr 47 = 3 := by unfold mm_fr; rw [kX5_follow]
theorem klX5_follow : mm_lo 47 = 64 := by unfold mm_lo; rw [kX5_follow]

theorem kX5_noteEnd : mm_rec 48 = (cX5_noteEnd, yX5_noteEnd, 3, none, 5, 1, 2, 42, 594, 55) := rfl
theorem kcX5_noteEnd : mm_code 48 = cX5_noteEnd := by unfold mm_code; rw [kX5_noteEnd]
theorem kmX5_noteEnd : mm_maxL 48 = 3 := by unfold mm_maxL; rw [kX5_noteEnd]
theorem krX5_noteEnd : mm_ret 48 = none := by unfold mm_ret; rw [kX5_noteEnd]
theorem knX5_noteEnd : mm_cno 48 = 5 := by unfold mm_cno; rw [kX5_noteEnd]
theorem kpX5_noteEnd : mm_np 48 = 1 := by unfold mm_np; rw [kX5_noteEnd]
theorem kfX5_noteEnd : mm_fr 48 = 2 := by unfold mm_fr; rw [kX5_noteEnd]
theorem klX5_noteEnd : mm_lo 48 = 42 := by unfold mm_lo; rw [kX5_noteEnd]

theorem kX5_noteStep : mm_rec 49 = (cX5_noteStep, yX5_noteStep, 3, none, 5, 2, 1, 20, 601, 55) := rfl
theorem kcX5_noteStep : mm_code 49 = cX5_noteStep := by unfold mm_code; rw [kX5_noteStep]
theorem kmX5_noteStep : mm_maxL 49 = 3 := by unfold mm_maxL; rw [kX5_noteStep]
theorem krX5_noteStep : mm_ret 49 = none := by unfold mm_ret; rw [kX5_noteStep]
theorem knX5_noteStep : mm_cno 49 = 5 := by unfold mm_cno; rw [kX5_noteStep]
theorem kpX5_noteStep : mm_np 49 = 2 := by unfold mm_np; rw [kX5_noteStep]
theorem kfX5_noteStep : mm_fr 49 = 1 := by unfold mm_fr; rw [kX5_noteStep]
theorem klX5_noteStep : mm_lo 49 = 20 := by unfold mm_lo; rw [kX5_noteStep]

theorem kX5_step : mm_rec 50 = (cX5_step, yX5_step, 6, none, 5, 3, 1, 22, 609, 55) := rfl
theorem kcX5_step : mm_code 50 = cX5_step := by unfold mm_code; rw [kX5_step]
theorem kmX5_step : mm_maxL 50 = 6 := by unfold mm_maxL; rw [kX5_step]
theorem krX5_step : mm_ret 50 = none := by unfold mm_ret; rw [kX5_step]
theorem knX5_step : mm_cno 50 = 5 := by unfold mm_cno; rw [kX5_step]
theorem kpX5_step : mm_np 50 = 3 := by unfold mm_np; rw [kX5_step]
theorem kfX5_step : mm_fr 50 = 1 := by unfold mm_fr; rw [kX5_step]
theorem klX5_step : mm_lo 50 = 22 := by unfold mm_lo; rw [kX5_step]

theorem kX5_distanceAt : mm_rec 51 = (cX5_distanceAt, yX5_distanceAt, 2, (some .int), 5, 1, 1, 21, 623, 55) := rfl
theorem kcX5_distanceAt : mm_code 51 = cX5_distanceAt := by unfold mm_code; rw [kX5_distanceAt]
theorem kmX5_distanceAt : mm_maxL 51 = 2 := by unfold mm_maxL; rw [kX5_distanceAt]
theorem krX5_distanceAt : mm_ret 51 = (some .int) := by unfold mm_ret; rw [kX5_distanceAt]
theorem knX5_distanceAt : mm_cno 51 = 5 := by unfold mm_cno; rw [kX5_distanceAt]
theorem kpX5_distanceAt : mm_np 51 = 1 := by unfold mm_np; rw [kX5_distanceAt]
theorem kfX5_distanceAt : mm_fr 51 = 1 := by unfold mm_fr; rw [kX5_distanceAt]
theorem klX5_distanceAt : mm_lo 51 = 21 := by unfold mm_lo; rw [kX5_distanceAt]

theorem kX6_weigh : mm_rec 52 = (cX6_weigh, yX6_weigh, 2, none, 6, 1, 5, 112, 506, 54) := rfl
theorem kcX6_weigh : mm_code 52 = cX6_weigh := by unfold mm_code; rw [kX6_weigh]
theorem kmX6_weigh : mm_maxL 52 = 2 := by unfold mm_maxL; rw [kX6_weigh]
theorem krX6_weigh : mm_ret 52 = none := by unfold mm_ret; rw [kX6_weigh]
theorem knX6_weigh : mm_cno 52 = 6 := by unfold mm_cno; rw [kX6_weigh]
theorem kpX6_weigh : mm_np 52 = 1 := by unfold mm_np; rw [kX6_weigh]
theorem kfX6_weigh : mm_fr 52 = 5 := by unfold mm_fr; rw [kX6_weigh]
theorem klX6_weigh : mm_lo 52 = 112 := by unfold mm_lo; rw [kX6_weigh]

theorem kX6_weighSide : mm_rec 53 = (cX6_weighSide, yX6_weighSide, 5, none, 6, 2, 4, 88, 511, 54) := rfl
theorem kcX6_weighSide : mm_code 53 = cX6_weighSide := by unfold mm_code; rw [kX6_weighSide]
theorem kmX6_weighSide : mm_maxL 53 = 5 := by unfold mm_maxL; rw [kX6_weighSide]
theorem krX6_weighSide : mm_ret 53 = none := by unfold mm_ret; rw [kX6_weighSide]
theorem knX6_weighSide : mm_cno 53 = 6 := by unfold mm_cno; rw [kX6_weighSide]
theorem kpX6_weighSide : mm_np 53 = 2 := by unfold mm_np; rw [kX6_weighSide]
theorem kfX6_weighSide : mm_fr 53 = 4 := by unfold mm_fr; rw [kX6_weighSide]
theorem klX6_weighSide : mm_lo 53 = 88 := by unfold mm_lo; rw [kX6_weighSide]

theorem kX6_canBear : mm_rec 54 = (cX6_canBear, yX6_canBear, 1, (some .boolean), 6, 1, 1, 20, 522, 54) := rfl
theorem kcX6_canBear : mm_code 54 = cX6_canBear := by unfold mm_code; rw [kX6_canBear]
theorem kmX6_canBear : mm_maxL 54 = 1 := by unfold mm_maxL; rw [kX6_canBear]
theorem krX6_canBear : mm_ret 54 = (some .boolean) := by unfold mm_ret; rw [kX6_canBear]
theorem knX6_canBear : mm_cno 54 = 6 := by unfold mm_cno; rw [kX6_canBear]
theorem kpX6_canBear : mm_np 54 = 1 := by unfold mm_np; rw [kX6_canBear]
theorem kfX6_canBear : mm_fr 54 = 1 := by unfold mm_fr; rw [kX6_canBear]
theorem klX6_canBear : mm_lo 54 = 20 := by unfold mm_lo; rw [kX6_canBear]

theorem kX6_measureFlights : mm_rec 55 = (cX6_measureFlights, yX6_measureFlights, 3, none, 6, 0, 0, 0, 527, 54) := rfl
theorem kcX6_measureFlights : mm_code 55 = cX6_measureFlights := by unfold mm_code; rw [kX6_measureFlights]
theorem kmX6_measureFlights : mm_maxL 55 = 3 := by unfold mm_maxL; rw [kX6_measureFlights]
theorem krX6_measureFlights : mm_ret 55 = none := by unfold mm_ret; rw [kX6_measureFlights]
theorem knX6_measureFlights : mm_cno 55 = 6 := by unfold mm_cno; rw [kX6_measureFlights]
theorem kpX6_measureFlights : mm_np 55 = 0 := by unfold mm_np; rw [kX6_measureFlights]
theorem kfX6_measureFlights : mm_fr 55 = 0 := by unfold mm_fr; rw [kX6_measureFlights]
theorem klX6_measureFlights : mm_lo 55 = 0 := by unfold mm_lo; rw [kX6_measureFlights]

theorem kX6_isWrong : mm_rec 56 = (cX6_isWrong, yX6_isWrong, 2, (some .boolean), 6, 1, 0, 0, 539, 54) := rfl
theorem kcX6_isWrong : mm_code 56 = cX6_isWrong := by unfold mm_code; rw [kX6_isWrong]
theorem kmX6_isWrong : mm_maxL 56 = 2 := by unfold mm_maxL; rw [kX6_isWrong]
theorem krX6_isWrong : mm_ret 56 = (some .boolean) := by unfold mm_ret; rw [kX6_isWrong]
theorem knX6_isWrong : mm_cno 56 = 6 := by unfold mm_cno; rw [kX6_isWrong]
theorem kpX6_isWrong : mm_np 56 = 1 := by unfold mm_np; rw [kX6_isWrong]
theorem kfX6_isWrong : mm_fr 56 = 0 := by unfold mm_fr; rw [kX6_isWrong]
theorem klX6_isWrong : mm_lo 56 = 0 := by unfold mm_lo; rw [kX6_isWrong]

theorem kX6_wrongBeats : mm_rec 57 = (cX6_wrongBeats, yX6_wrongBeats, 3, (some .int), 6, 0, 1, 21, 551, 54) := rfl
theorem kcX6_wrongBeats : mm_code 57 = cX6_wrongBeats := by unfold mm_code; rw [kX6_wrongBeats]
theorem kmX6_wrongBeats : mm_maxL 57 = 3 := by unfold mm_maxL; rw [kX6_wrongBeats]
theorem krX6_wrongBeats : mm_ret 57 = (some .int) := by unfold mm_ret; rw [kX6_wrongBeats]
theorem knX6_wrongBeats : mm_cno 57 = 6 := by unfold mm_cno; rw [kX6_wrongBeats]
theorem kpX6_wrongBeats : mm_np 57 = 0 := by unfold mm_np; rw [kX6_wrongBeats]
theorem kfX6_wrongBeats : mm_fr 57 = 1 := by unfold mm_fr; rw [kX6_wrongBeats]
theorem klX6_wrongBeats : mm_lo 57 = 21 := by unfold mm_lo; rw [kX6_wrongBeats]

theorem kX6_beatsOn : mm_rec 58 = (cX6_beatsOn, yX6_beatsOn, 4, (some .int), 6, 1, 0, 0, 567, 54) := rfl
theorem kcX6_beatsOn : mm_code 58 = cX6_beatsOn := by unfold mm_code; rw [kX6_beatsOn]
theorem kmX6_beatsOn : mm_maxL 58 = 4 := by unfold mm_maxL; rw [kX6_beatsOn]
theorem krX6_beatsOn : mm_ret 58 = (some .int) := by unfold mm_ret; rw [kX6_beatsOn]
theorem knX6_beatsOn : mm_cno 58 = 6 := by unfold mm_cno; rw [kX6_beatsOn]
theorem kpX6_beatsOn : mm_np 58 = 1 := by unfold mm_np; rw [kX6_beatsOn]
theorem kfX6_beatsOn : mm_fr 58 = 0 := by unfold mm_fr; rw [kX6_beatsOn]
theorem klX6_beatsOn : mm_lo 58 = 0 := by unfold mm_lo; rw [kX6_beatsOn]

theorem kX6_longestFlight : mm_rec 59 = (cX6_longestFlight, yX6_longestFlight, 3, (some .int), 6, 0, 1, 21, 556, 54) := rfl
theorem kcX6_longestFlight : mm_code 59 = cX6_longestFlight := by unfold mm_code; rw [kX6_longestFlight]
theorem kmX6_longestFlight : mm_maxL 59 = 3 := by unfold mm_maxL; rw [kX6_longestFlight]
theorem krX6_longestFlight : mm_ret 59 = (some .int) := by unfold mm_ret; rw [kX6_longestFlight]
theorem knX6_longestFlight : mm_cno 59 = 6 := by unfold mm_cno; rw [kX6_longestFlight]
theorem kpX6_longestFlight : mm_np 59 = 0 := by unfold mm_np; rw [kX6_longestFlight]
theorem kfX6_longestFlight : mm_fr 59 = 1 := by unfold mm_fr; rw [kX6_longestFlight]
theorem klX6_longestFlight : mm_lo 59 = 21 := by unfold mm_lo; rw [kX6_longestFlight]

theorem kX6_flightCount : mm_rec 60 = (cX6_flightCount, yX6_flightCount, 4, (some .int), 6, 0, 0, 0, 563, 54) := rfl
theorem kcX6_flightCount : mm_code 60 = cX6_flightCount := by unfold mm_code; rw [kX6_flightCount]
theorem kmX6_flightCount : mm_maxL 60 = 4 := by unfold mm_maxL; rw [kX6_flightCount]
theorem krX6_flightCount : mm_ret 60 = (some .int) := by unfold mm_ret; rw [kX6_flightCount]
theorem knX6_flightCount : mm_cno 60 = 6 := by unfold mm_cno; rw [kX6_flightCount]
theorem kpX6_flightCount : mm_np 60 = 0 := by unfold mm_np; rw [kX6_flightCount]
theorem kfX6_flightCount : mm_fr 60 = 0 := by unfold mm_fr; rw [kX6_flightCount]
theorem klX6_flightCount : mm_lo 60 = 0 := by unfold mm_lo; rw [kX6_flightCount]

theorem kX6_isAnyLegTold : mm_rec 61 = (cX6_isAnyLegTold, yX6_isAnyLegTold, 2, (some .boolean), 6, 0, 0, 0, 575, 54) := rfl
theorem kcX6_isAnyLegTold : mm_code 61 = cX6_isAnyLegTold := by unfold mm_code; rw [kX6_isAnyLegTold]
theorem kmX6_isAnyLegTold : mm_maxL 61 = 2 := by unfold mm_maxL; rw [kX6_isAnyLegTold]
theorem krX6_isAnyLegTold : mm_ret 61 = (some .boolean) := by unfold mm_ret; rw [kX6_isAnyLegTold]
theorem knX6_isAnyLegTold : mm_cno 61 = 6 := by unfold mm_cno; rw [kX6_isAnyLegTold]
theorem kpX6_isAnyLegTold : mm_np 61 = 0 := by unfold mm_np; rw [kX6_isAnyLegTold]
theorem kfX6_isAnyLegTold : mm_fr 61 = 0 := by unfold mm_fr; rw [kX6_isAnyLegTold]
theorem klX6_isAnyLegTold : mm_lo 61 = 0 := by unfold mm_lo; rw [kX6_isAnyLegTold]

theorem kX7_reset : mm_rec 62 = (cX7_reset, yX7_reset, 3, (some .int), 7, 1, 2, 49, 244, 51) := rfl
theorem kcX7_reset : mm_code 62 = cX7_reset := by unfold mm_code; rw [kX7_reset]
theorem kmX7_reset : mm_maxL 62 = 3 := by unfold mm_maxL; rw [kX7_reset]
theorem krX7_reset : mm_ret 62 = (some .int) := by unfold mm_ret; rw [kX7_reset]
theorem knX7_reset : mm_cno 62 = 7 := by unfold mm_cno; rw [kX7_reset]
theorem kpX7_reset : mm_np 62 = 1 := by unfold mm_np; rw [kX7_reset]
theorem kfX7_reset : mm_fr 62 = 2 := by unfold mm_fr; rw [kX7_reset]
theorem klX7_reset : mm_lo 62 = 49 := by unfold mm_lo; rw [kX7_reset]

theorem kX7_addMove : mm_rec 63 = (cX7_addMove, yX7_addMove, 6, (some .int), 7, 5, 4, 86, 262, 51) := rfl
theorem kcX7_addMove : mm_code 63 = cX7_addMove := by unfold mm_code; rw [kX7_addMove]
theorem kmX7_addMove : mm_maxL 63 = 6 := by unfold mm_maxL; rw [kX7_addMove]
theorem krX7_addMove : mm_ret 63 = (some .int) := by unfold mm_ret; rw [kX7_addMove]
theorem knX7_addMove : mm_cno 63 = 7 := by unfold mm_cno; rw [kX7_addMove]
theorem kpX7_addMove : mm_np 63 = 5 := by unfold mm_np; rw [kX7_addMove]
theorem kfX7_addMove : mm_fr 63 = 4 := by unfold mm_fr; rw [kX7_addMove]
theorem klX7_addMove : mm_lo 63 = 86 := by unfold mm_lo; rw [kX7_addMove]

theorem kX7_addHold : mm_rec 64 = (cX7_addHold, yX7_addHold, 3, (some .int), 7, 2, 4, 86, 305, 51) := rfl
theorem kcX7_addHold : mm_code 64 = cX7_addHold := by unfold mm_code; rw [kX7_addHold]
theorem kmX7_addHold : mm_maxL 64 = 3 := by unfold mm_maxL; rw [kX7_addHold]
theorem krX7_addHold : mm_ret 64 = (some .int) := by unfold mm_ret; rw [kX7_addHold]
theorem knX7_addHold : mm_cno 64 = 7 := by unfold mm_cno; rw [kX7_addHold]
theorem kpX7_addHold : mm_np 64 = 2 := by unfold mm_np; rw [kX7_addHold]
theorem kfX7_addHold : mm_fr 64 = 4 := by unfold mm_fr; rw [kX7_addHold]
theorem klX7_addHold : mm_lo 64 = 86 := by unfold mm_lo; rw [kX7_addHold]

theorem kX7_addTurn : mm_rec 65 = (cX7_addTurn, yX7_addTurn, 4, (some .int), 7, 3, 4, 86, 315, 51) := rfl
theorem kcX7_addTurn : mm_code 65 = cX7_addTurn := by unfold mm_code; rw [kX7_addTurn]
theorem kmX7_addTurn : mm_maxL 65 = 4 := by unfold mm_maxL; rw [kX7_addTurn]
theorem krX7_addTurn : mm_ret 65 = (some .int) := by unfold mm_ret; rw [kX7_addTurn]
theorem knX7_addTurn : mm_cno 65 = 7 := by unfold mm_cno; rw [kX7_addTurn]
theorem kpX7_addTurn : mm_np 65 = 3 := by unfold mm_np; rw [kX7_addTurn]
theorem kfX7_addTurn : mm_fr 65 = 4 := by unfold mm_fr; rw [kX7_addTurn]
theorem klX7_addTurn : mm_lo 65 = 86 := by unfold mm_lo; rw [kX7_addTurn]

theorem kX7_addRelease : mm_rec 66 = (cX7_addRelease, yX7_addRelease, 4, (some .int), 7, 3, 4, 86, 322, 51) := rfl
theorem kcX7_addRelease : mm_code 66 = cX7_addRelease := by unfold mm_code; rw [kX7_addRelease]
theorem kmX7_addRelease : mm_maxL 66 = 4 := by unfold mm_maxL; rw [kX7_addRelease]
theorem krX7_addRelease : mm_ret 66 = (some .int) := by unfold mm_ret; rw [kX7_addRelease]
theorem knX7_addRelease : mm_cno 66 = 7 := by unfold mm_cno; rw [kX7_addRelease]
theorem kpX7_addRelease : mm_np 66 = 3 := by unfold mm_np; rw [kX7_addRelease]
theorem kfX7_addRelease : mm_fr 66 = 4 := by unfold mm_fr; rw [kX7_addRelease]
theorem klX7_addRelease : mm_lo 66 = 86 := by unfold mm_lo; rw [kX7_addRelease]

theorem kX7_removeSign : mm_rec 67 = (cX7_removeSign, yX7_removeSign, 2, (some .int), 7, 1, 2, 49, 329, 51) := rfl
theorem kcX7_removeSign : mm_code 67 = cX7_removeSign := by unfold mm_code; rw [kX7_removeSign]
theorem kmX7_removeSign : mm_maxL 67 = 2 := by unfold mm_maxL; rw [kX7_removeSign]
theorem krX7_removeSign : mm_ret 67 = (some .int) := by unfold mm_ret; rw [kX7_removeSign]
theorem knX7_removeSign : mm_cno 67 = 7 := by unfold mm_cno; rw [kX7_removeSign]
theorem kpX7_removeSign : mm_np 67 = 1 := by unfold mm_np; rw [kX7_removeSign]
theorem kfX7_removeSign : mm_fr 67 = 2 := by unfold mm_fr; rw [kX7_removeSign]
theorem klX7_removeSign : mm_lo 67 = 49 := by unfold mm_lo; rw [kX7_removeSign]

theorem kX7_copyPhrase : mm_rec 68 = (cX7_copyPhrase, yX7_copyPhrase, 9, (some .int), 7, 5, 4, 87, 337, 51) := rfl
theorem kcX7_copyPhrase : mm_code 68 = cX7_copyPhrase := by unfold mm_code; rw [kX7_copyPhrase]
theorem kmX7_copyPhrase : mm_maxL 68 = 9 := by unfold mm_maxL; rw [kX7_copyPhrase]
theorem krX7_copyPhrase : mm_ret 68 = (some .int) := by unfold mm_ret; rw [kX7_copyPhrase]
theorem knX7_copyPhrase : mm_cno 68 = 7 := by unfold mm_cno; rw [kX7_copyPhrase]
theorem kpX7_copyPhrase : mm_np 68 = 5 := by unfold mm_np; rw [kX7_copyPhrase]
theorem kfX7_copyPhrase : mm_fr 68 = 4 := by unfold mm_fr; rw [kX7_copyPhrase]
theorem klX7_copyPhrase : mm_lo 68 = 87 := by unfold mm_lo; rw [kX7_copyPhrase]

theorem kX7_setLeap : mm_rec 69 = (cX7_setLeap, yX7_setLeap, 3, (some .int), 7, 1, 2, 49, 401, 51) := rfl
theorem kcX7_setLeap : mm_code 69 = cX7_setLeap := by unfold mm_code; rw [kX7_setLeap]
theorem kmX7_setLeap : mm_maxL 69 = 3 := by unfold mm_maxL; rw [kX7_setLeap]
theorem krX7_setLeap : mm_ret 69 = (some .int) := by unfold mm_ret; rw [kX7_setLeap]
theorem knX7_setLeap : mm_cno 69 = 7 := by unfold mm_cno; rw [kX7_setLeap]
theorem kpX7_setLeap : mm_np 69 = 1 := by unfold mm_np; rw [kX7_setLeap]
theorem kfX7_setLeap : mm_fr 69 = 2 := by unfold mm_fr; rw [kX7_setLeap]
theorem klX7_setLeap : mm_lo 69 = 49 := by unfold mm_lo; rw [kX7_setLeap]

theorem kX7_lay : mm_rec 70 = (cX7_lay, yX7_lay, 1, (some .int), 7, 0, 6, 149, 405, 51) := rfl
theorem kcX7_lay : mm_code 70 = cX7_lay := by unfold mm_code; rw [kX7_lay]
theorem kmX7_lay : mm_maxL 70 = 1 := by unfold mm_maxL; rw [kX7_lay]
theorem krX7_lay : mm_ret 70 = (some .int) := by unfold mm_ret; rw [kX7_lay]
theorem knX7_lay : mm_cno 70 = 7 := by unfold mm_cno; rw [kX7_lay]
theorem kpX7_lay : mm_np 70 = 0 := by unfold mm_np; rw [kX7_lay]
theorem kfX7_lay : mm_fr 70 = 6 := by unfold mm_fr; rw [kX7_lay]
theorem klX7_lay : mm_lo 70 = 149 := by unfold mm_lo; rw [kX7_lay]

theorem kX7_undo : mm_rec 71 = (cX7_undo, yX7_undo, 1, (some .int), 7, 0, 1, 23, 466, 51) := rfl
theorem kcX7_undo : mm_code 71 = cX7_undo := by unfold mm_code; rw [kX7_undo]
theorem kmX7_undo : mm_maxL 71 = 1 := by unfold mm_maxL; rw [kX7_undo]
theorem krX7_undo : mm_ret 71 = (some .int) := by unfold mm_ret; rw [kX7_undo]
theorem knX7_undo : mm_cno 71 = 7 := by unfold mm_cno; rw [kX7_undo]
theorem kpX7_undo : mm_np 71 = 0 := by unfold mm_np; rw [kX7_undo]
theorem kfX7_undo : mm_fr 71 = 1 := by unfold mm_fr; rw [kX7_undo]
theorem klX7_undo : mm_lo 71 = 23 := by unfold mm_lo; rw [kX7_undo]

theorem kX7_count : mm_rec 72 = (cX7_count, yX7_count, 2, (some .int), 7, 1, 0, 0, 474, 51) := rfl
theorem kcX7_count : mm_code 72 = cX7_count := by unfold mm_code; rw [kX7_count]
theorem kmX7_count : mm_maxL 72 = 2 := by unfold mm_maxL; rw [kX7_count]
theorem krX7_count : mm_ret 72 = (some .int) := by unfold mm_ret; rw [kX7_count]
theorem knX7_count : mm_cno 72 = 7 := by unfold mm_cno; rw [kX7_count]
theorem kpX7_count : mm_np 72 = 1 := by unfold mm_np; rw [kX7_count]
theorem kfX7_count : mm_fr 72 = 0 := by unfold mm_fr; rw [kX7_count]
theorem klX7_count : mm_lo 72 = 0 := by unfold mm_lo; rw [kX7_count]

theorem kX7_sign : mm_rec 73 = (cX7_sign, yX7_sign, 5, (some .int), 7, 2, 3, 63, 478, 51) := rfl
theorem kcX7_sign : mm_code 73 = cX7_sign := by unfold mm_code; rw [kX7_sign]
theorem kmX7_sign : mm_maxL 73 = 5 := by unfold mm_maxL; rw [kX7_sign]
theorem krX7_sign : mm_ret 73 = (some .int) := by unfold mm_ret; rw [kX7_sign]
theorem knX7_sign : mm_cno 73 = 7 := by unfold mm_cno; rw [kX7_sign]
theorem kpX7_sign : mm_np 73 = 2 := by unfold mm_np; rw [kX7_sign]
theorem kfX7_sign : mm_fr 73 = 3 := by unfold mm_fr; rw [kX7_sign]
theorem klX7_sign : mm_lo 73 = 63 := by unfold mm_lo; rw [kX7_sign]

theorem kX7_signAt : mm_rec 74 = (cX7_signAt, yX7_signAt, 4, (some .int), 7, 2, 4, 87, 493, 51) := rfl
theorem kcX7_signAt : mm_code 74 = cX7_signAt := by unfold mm_code; rw [kX7_signAt]
theorem kmX7_signAt : mm_maxL 74 = 4 := by unfold mm_maxL; rw [kX7_signAt]
theorem krX7_signAt : mm_ret 74 = (some .int) := by unfold mm_ret; rw [kX7_signAt]
theorem knX7_signAt : mm_cno 74 = 7 := by unfold mm_cno; rw [kX7_signAt]
theorem kpX7_signAt : mm_np 74 = 2 := by unfold mm_np; rw [kX7_signAt]
theorem kfX7_signAt : mm_fr 74 = 4 := by unfold mm_fr; rw [kX7_signAt]
theorem klX7_signAt : mm_lo 74 = 87 := by unfold mm_lo; rw [kX7_signAt]

theorem kX7_bears : mm_rec 75 = (cX7_bears, yX7_bears, 2, (some .int), 7, 1, 6, 133, 502, 51) := rfl
theorem kcX7_bears : mm_code 75 = cX7_bears := by unfold mm_code; rw [kX7_bears]
theorem kmX7_bears : mm_maxL 75 = 2 := by unfold mm_maxL; rw [kX7_bears]
theorem krX7_bears : mm_ret 75 = (some .int) := by unfold mm_ret; rw [kX7_bears]
theorem knX7_bears : mm_cno 75 = 7 := by unfold mm_cno; rw [kX7_bears]
theorem kpX7_bears : mm_np 75 = 1 := by unfold mm_np; rw [kX7_bears]
theorem kfX7_bears : mm_fr 75 = 6 := by unfold mm_fr; rw [kX7_bears]
theorem klX7_bears : mm_lo 75 = 133 := by unfold mm_lo; rw [kX7_bears]

theorem kX7_toldTwice : mm_rec 76 = (cX7_toldTwice, yX7_toldTwice, 2, (some .int), 7, 1, 6, 133, 531, 51) := rfl
theorem kcX7_toldTwice : mm_code 76 = cX7_toldTwice := by unfold mm_code; rw [kX7_toldTwice]
theorem kmX7_toldTwice : mm_maxL 76 = 2 := by unfold mm_maxL; rw [kX7_toldTwice]
theorem krX7_toldTwice : mm_ret 76 = (some .int) := by unfold mm_ret; rw [kX7_toldTwice]
theorem knX7_toldTwice : mm_cno 76 = 7 := by unfold mm_cno; rw [kX7_toldTwice]
theorem kpX7_toldTwice : mm_np 76 = 1 := by unfold mm_np; rw [kX7_toldTwice]
theorem kfX7_toldTwice : mm_fr 76 = 6 := by unfold mm_fr; rw [kX7_toldTwice]
theorem klX7_toldTwice : mm_lo 76 = 133 := by unfold mm_lo; rw [kX7_toldTwice]

theorem kX7_isFaulty : mm_rec 77 = (cX7_isFaulty, yX7_isFaulty, 2, (some .int), 7, 1, 6, 133, 535, 51) := rfl
theorem kcX7_isFaulty : mm_code 77 = cX7_isFaulty := by unfold mm_code; rw [kX7_isFaulty]
theorem kmX7_isFaulty : mm_maxL 77 = 2 := by unfold mm_maxL; rw [kX7_isFaulty]
theorem krX7_isFaulty : mm_ret 77 = (some .int) := by unfold mm_ret; rw [kX7_isFaulty]
theorem knX7_isFaulty : mm_cno 77 = 7 := by unfold mm_cno; rw [kX7_isFaulty]
theorem kpX7_isFaulty : mm_np 77 = 1 := by unfold mm_np; rw [kX7_isFaulty]
theorem kfX7_isFaulty : mm_fr 77 = 6 := by unfold mm_fr; rw [kX7_isFaulty]
theorem klX7_isFaulty : mm_lo 77 = 133 := by unfold mm_lo; rw [kX7_isFaulty]

theorem kX7_nextFault : mm_rec 78 = (cX7_nextFault, yX7_nextFault, 3, (some .int), 7, 1, 6, 133, 543, 51) := rfl
theorem kcX7_nextFault : mm_code 78 = cX7_nextFault := by unfold mm_code; rw [kX7_nextFault]
theorem kmX7_nextFault : mm_maxL 78 = 3 := by unfold mm_maxL; rw [kX7_nextFault]
theorem krX7_nextFault : mm_ret 78 = (some .int) := by unfold mm_ret; rw [kX7_nextFault]
theorem knX7_nextFault : mm_cno 78 = 7 := by unfold mm_cno; rw [kX7_nextFault]
theorem kpX7_nextFault : mm_np 78 = 1 := by unfold mm_np; rw [kX7_nextFault]
theorem kfX7_nextFault : mm_fr 78 = 6 := by unfold mm_fr; rw [kX7_nextFault]
theorem klX7_nextFault : mm_lo 78 = 133 := by unfold mm_lo; rw [kX7_nextFault]

theorem kX7_beats : mm_rec 79 = (cX7_beats, yX7_beats, 2, (some .int), 7, 1, 6, 133, 547, 51) := rfl
theorem kcX7_beats : mm_code 79 = cX7_beats := by unfold mm_code; rw [kX7_beats]
theorem kmX7_beats : mm_maxL 79 = 2 := by unfold mm_maxL; rw [kX7_beats]
theorem krX7_beats : mm_ret 79 = (some .int) := by unfold mm_ret; rw [kX7_beats]
theorem knX7_beats : mm_cno 79 = 7 := by unfold mm_cno; rw [kX7_beats]
theorem kpX7_beats : mm_np 79 = 1 := by unfold mm_np; rw [kX7_beats]
theorem kfX7_beats : mm_fr 79 = 6 := by unfold mm_fr; rw [kX7_beats]
theorem klX7_beats : mm_lo 79 = 133 := by unfold mm_lo; rw [kX7_beats]

theorem kX7_leastLeap : mm_rec 80 = (cX7_leastLeap, yX7_leastLeap, 1, (some .int), 7, 0, 6, 133, 571, 51) := rfl
theorem kcX7_leastLeap : mm_code 80 = cX7_leastLeap := by unfold mm_code; rw [kX7_leastLeap]
theorem kmX7_leastLeap : mm_maxL 80 = 1 := by unfold mm_maxL; rw [kX7_leastLeap]
theorem krX7_leastLeap : mm_ret 80 = (some .int) := by unfold mm_ret; rw [kX7_leastLeap]
theorem knX7_leastLeap : mm_cno 80 = 7 := by unfold mm_cno; rw [kX7_leastLeap]
theorem kpX7_leastLeap : mm_np 80 = 0 := by unfold mm_np; rw [kX7_leastLeap]
theorem kfX7_leastLeap : mm_fr 80 = 6 := by unfold mm_fr; rw [kX7_leastLeap]
theorem klX7_leastLeap : mm_lo 80 = 133 := by unfold mm_lo; rw [kX7_leastLeap]

theorem kX7_covered : mm_rec 81 = (cX7_covered, yX7_covered, 6, (some .int), 7, 2, 4, 88, 579, 51) := rfl
theorem kcX7_covered : mm_code 81 = cX7_covered := by unfold mm_code; rw [kX7_covered]
theorem kmX7_covered : mm_maxL 81 = 6 := by unfold mm_maxL; rw [kX7_covered]
theorem krX7_covered : mm_ret 81 = (some .int) := by unfold mm_ret; rw [kX7_covered]
theorem knX7_covered : mm_cno 81 = 7 := by unfold mm_cno; rw [kX7_covered]
theorem kpX7_covered : mm_np 81 = 2 := by unfold mm_np; rw [kX7_covered]
theorem kfX7_covered : mm_fr 81 = 4 := by unfold mm_fr; rw [kX7_covered]
theorem klX7_covered : mm_lo 81 = 88 := by unfold mm_lo; rw [kX7_covered]

theorem kX7_floor : mm_rec 82 = (cX7_floor, yX7_floor, 3, (some .int), 7, 2, 4, 86, 584, 51) := rfl
theorem kcX7_floor : mm_code 82 = cX7_floor := by unfold mm_code; rw [kX7_floor]
theorem kmX7_floor : mm_maxL 82 = 3 := by unfold mm_maxL; rw [kX7_floor]
theorem krX7_floor : mm_ret 82 = (some .int) := by unfold mm_ret; rw [kX7_floor]
theorem knX7_floor : mm_cno 82 = 7 := by unfold mm_cno; rw [kX7_floor]
theorem kpX7_floor : mm_np 82 = 2 := by unfold mm_np; rw [kX7_floor]
theorem kfX7_floor : mm_fr 82 = 4 := by unfold mm_fr; rw [kX7_floor]
theorem klX7_floor : mm_lo 82 = 86 := by unfold mm_lo; rw [kX7_floor]

theorem kX7_home : mm_rec 83 = (cX7_home, yX7_home, 3, (some .int), 7, 0, 4, 86, 619, 51) := rfl
theorem kcX7_home : mm_code 83 = cX7_home := by unfold mm_code; rw [kX7_home]
theorem kmX7_home : mm_maxL 83 = 3 := by unfold mm_maxL; rw [kX7_home]
theorem krX7_home : mm_ret 83 = (some .int) := by unfold mm_ret; rw [kX7_home]
theorem knX7_home : mm_cno 83 = 7 := by unfold mm_cno; rw [kX7_home]
theorem kpX7_home : mm_np 83 = 0 := by unfold mm_np; rw [kX7_home]
theorem kfX7_home : mm_fr 83 = 4 := by unfold mm_fr; rw [kX7_home]
theorem klX7_home : mm_lo 83 = 86 := by unfold mm_lo; rw [kX7_home]

theorem kX7_farthest : mm_rec 84 = (cX7_farthest, yX7_farthest, 3, (some .int), 7, 0, 4, 86, 631, 51) := rfl
theorem kcX7_farthest : mm_code 84 = cX7_farthest := by unfold mm_code; rw [kX7_farthest]
theorem kmX7_farthest : mm_maxL 84 = 3 := by unfold mm_maxL; rw [kX7_farthest]
theorem krX7_farthest : mm_ret 84 = (some .int) := by unfold mm_ret; rw [kX7_farthest]
theorem knX7_farthest : mm_cno 84 = 7 := by unfold mm_cno; rw [kX7_farthest]
theorem kpX7_farthest : mm_np 84 = 0 := by unfold mm_np; rw [kX7_farthest]
theorem kfX7_farthest : mm_fr 84 = 4 := by unfold mm_fr; rw [kX7_farthest]
theorem klX7_farthest : mm_lo 84 = 86 := by unfold mm_lo; rw [kX7_farthest]

theorem kX7_alike : mm_rec 85 = (cX7_alike, yX7_alike, 6, (some .int), 7, 4, 5, 116, 636, 51) := rfl
theorem kcX7_alike : mm_code 85 = cX7_alike := by unfold mm_code; rw [kX7_alike]
theorem kmX7_alike : mm_maxL 85 = 6 := by unfold mm_maxL; rw [kX7_alike]
theorem krX7_alike : mm_ret 85 = (some .int) := by unfold mm_ret; rw [kX7_alike]
theorem knX7_alike : mm_cno 85 = 7 := by unfold mm_cno; rw [kX7_alike]
theorem kpX7_alike : mm_np 85 = 4 := by unfold mm_np; rw [kX7_alike]
theorem kfX7_alike : mm_fr 85 = 5 := by unfold mm_fr; rw [kX7_alike]
theorem klX7_alike : mm_lo 85 = 116 := by unfold mm_lo; rw [kX7_alike]

theorem kX7_type : mm_rec 86 = (cX7_type, yX7_type, 2, (some .int), 7, 1, 1, 22, 660, 51) := rfl
theorem kcX7_type : mm_code 86 = cX7_type := by unfold mm_code; rw [kX7_type]
theorem kmX7_type : mm_maxL 86 = 2 := by unfold mm_maxL; rw [kX7_type]
theorem krX7_type : mm_ret 86 = (some .int) := by unfold mm_ret; rw [kX7_type]
theorem knX7_type : mm_cno 86 = 7 := by unfold mm_cno; rw [kX7_type]
theorem kpX7_type : mm_np 86 = 1 := by unfold mm_np; rw [kX7_type]
theorem kfX7_type : mm_fr 86 = 1 := by unfold mm_fr; rw [kX7_type]
theorem klX7_type : mm_lo 86 = 22 := by unfold mm_lo; rw [kX7_type]

theorem kX7_clearText : mm_rec 87 = (cX7_clearText, yX7_clearText, 2, (some .int), 7, 0, 0, 0, 668, 51) := rfl
theorem kcX7_clearText : mm_code 87 = cX7_clearText := by unfold mm_code; rw [kX7_clearText]
theorem kmX7_clearText : mm_maxL 87 = 2 := by unfold mm_maxL; rw [kX7_clearText]
theorem krX7_clearText : mm_ret 87 = (some .int) := by unfold mm_ret; rw [kX7_clearText]
theorem knX7_clearText : mm_cno 87 = 7 := by unfold mm_cno; rw [kX7_clearText]
theorem kpX7_clearText : mm_np 87 = 0 := by unfold mm_np; rw [kX7_clearText]
theorem kfX7_clearText : mm_fr 87 = 0 := by unfold mm_fr; rw [kX7_clearText]
theorem klX7_clearText : mm_lo 87 = 0 := by unfold mm_lo; rw [kX7_clearText]

theorem kX7_fault : mm_rec 88 = (cX7_fault, yX7_fault, 2, (some .int), 7, 0, 6, 149, 672, 51) := rfl
theorem kcX7_fault : mm_code 88 = cX7_fault := by unfold mm_code; rw [kX7_fault]
theorem kmX7_fault : mm_maxL 88 = 2 := by unfold mm_maxL; rw [kX7_fault]
theorem krX7_fault : mm_ret 88 = (some .int) := by unfold mm_ret; rw [kX7_fault]
theorem knX7_fault : mm_cno 88 = 7 := by unfold mm_cno; rw [kX7_fault]
theorem kpX7_fault : mm_np 88 = 0 := by unfold mm_np; rw [kX7_fault]
theorem kfX7_fault : mm_fr 88 = 6 := by unfold mm_fr; rw [kX7_fault]
theorem klX7_fault : mm_lo 88 = 149 := by unfold mm_lo; rw [kX7_fault]

theorem kX7_isWithin : mm_rec 89 = (cX7_isWithin, yX7_isWithin, 3, (some .boolean), 7, 3, 0, 0, 247, 51) := rfl
theorem kcX7_isWithin : mm_code 89 = cX7_isWithin := by unfold mm_code; rw [kX7_isWithin]
theorem kmX7_isWithin : mm_maxL 89 = 3 := by unfold mm_maxL; rw [kX7_isWithin]
theorem krX7_isWithin : mm_ret 89 = (some .boolean) := by unfold mm_ret; rw [kX7_isWithin]
theorem knX7_isWithin : mm_cno 89 = 7 := by unfold mm_cno; rw [kX7_isWithin]
theorem kpX7_isWithin : mm_np 89 = 3 := by unfold mm_np; rw [kX7_isWithin]
theorem kfX7_isWithin : mm_fr 89 = 0 := by unfold mm_fr; rw [kX7_isWithin]
theorem klX7_isWithin : mm_lo 89 = 0 := by unfold mm_lo; rw [kX7_isWithin]

theorem kX7_isFlag : mm_rec 90 = (cX7_isFlag, yX7_isFlag, 1, (some .boolean), 7, 1, 1, 22, 344, 51) := rfl
theorem kcX7_isFlag : mm_code 90 = cX7_isFlag := by unfold mm_code; rw [kX7_isFlag]
theorem kmX7_isFlag : mm_maxL 90 = 1 := by unfold mm_maxL; rw [kX7_isFlag]
theorem krX7_isFlag : mm_ret 90 = (some .boolean) := by unfold mm_ret; rw [kX7_isFlag]
theorem knX7_isFlag : mm_cno 90 = 7 := by unfold mm_cno; rw [kX7_isFlag]
theorem kpX7_isFlag : mm_np 90 = 1 := by unfold mm_np; rw [kX7_isFlag]
theorem kfX7_isFlag : mm_fr 90 = 1 := by unfold mm_fr; rw [kX7_isFlag]
theorem klX7_isFlag : mm_lo 90 = 22 := by unfold mm_lo; rw [kX7_isFlag]

theorem kX7_isColumn : mm_rec 91 = (cX7_isColumn, yX7_isColumn, 1, (some .boolean), 7, 1, 1, 22, 308, 51) := rfl
theorem kcX7_isColumn : mm_code 91 = cX7_isColumn := by unfold mm_code; rw [kX7_isColumn]
theorem kmX7_isColumn : mm_maxL 91 = 1 := by unfold mm_maxL; rw [kX7_isColumn]
theorem krX7_isColumn : mm_ret 91 = (some .boolean) := by unfold mm_ret; rw [kX7_isColumn]
theorem knX7_isColumn : mm_cno 91 = 7 := by unfold mm_cno; rw [kX7_isColumn]
theorem kpX7_isColumn : mm_np 91 = 1 := by unfold mm_np; rw [kX7_isColumn]
theorem kfX7_isColumn : mm_fr 91 = 1 := by unfold mm_fr; rw [kX7_isColumn]
theorem klX7_isColumn : mm_lo 91 = 22 := by unfold mm_lo; rw [kX7_isColumn]

theorem kX7_isBeat : mm_rec 92 = (cX7_isBeat, yX7_isBeat, 2, (some .boolean), 7, 1, 1, 22, 270, 51) := rfl
theorem kcX7_isBeat : mm_code 92 = cX7_isBeat := by unfold mm_code; rw [kX7_isBeat]
theorem kmX7_isBeat : mm_maxL 92 = 2 := by unfold mm_maxL; rw [kX7_isBeat]
theorem krX7_isBeat : mm_ret 92 = (some .boolean) := by unfold mm_ret; rw [kX7_isBeat]
theorem knX7_isBeat : mm_cno 92 = 7 := by unfold mm_cno; rw [kX7_isBeat]
theorem kpX7_isBeat : mm_np 92 = 1 := by unfold mm_np; rw [kX7_isBeat]
theorem kfX7_isBeat : mm_fr 92 = 1 := by unfold mm_fr; rw [kX7_isBeat]
theorem klX7_isBeat : mm_lo 92 = 22 := by unfold mm_lo; rw [kX7_isBeat]

theorem kX7_isSpan : mm_rec 93 = (cX7_isSpan, yX7_isSpan, 3, (some .boolean), 7, 2, 2, 43, 266, 51) := rfl
theorem kcX7_isSpan : mm_code 93 = cX7_isSpan := by unfold mm_code; rw [kX7_isSpan]
theorem kmX7_isSpan : mm_maxL 93 = 3 := by unfold mm_maxL; rw [kX7_isSpan]
theorem krX7_isSpan : mm_ret 93 = (some .boolean) := by unfold mm_ret; rw [kX7_isSpan]
theorem knX7_isSpan : mm_cno 93 = 7 := by unfold mm_cno; rw [kX7_isSpan]
theorem kpX7_isSpan : mm_np 93 = 2 := by unfold mm_np; rw [kX7_isSpan]
theorem kfX7_isSpan : mm_fr 93 = 2 := by unfold mm_fr; rw [kX7_isSpan]
theorem klX7_isSpan : mm_lo 93 = 43 := by unfold mm_lo; rw [kX7_isSpan]

theorem kX7_isPhrase : mm_rec 94 = (cX7_isPhrase, yX7_isPhrase, 3, (some .boolean), 7, 2, 2, 43, 341, 51) := rfl
theorem kcX7_isPhrase : mm_code 94 = cX7_isPhrase := by unfold mm_code; rw [kX7_isPhrase]
theorem kmX7_isPhrase : mm_maxL 94 = 3 := by unfold mm_maxL; rw [kX7_isPhrase]
theorem krX7_isPhrase : mm_ret 94 = (some .boolean) := by unfold mm_ret; rw [kX7_isPhrase]
theorem knX7_isPhrase : mm_cno 94 = 7 := by unfold mm_cno; rw [kX7_isPhrase]
theorem kpX7_isPhrase : mm_np 94 = 2 := by unfold mm_np; rw [kX7_isPhrase]
theorem kfX7_isPhrase : mm_fr 94 = 2 := by unfold mm_fr; rw [kX7_isPhrase]
theorem klX7_isPhrase : mm_lo 94 = 43 := by unfold mm_lo; rw [kX7_isPhrase]

theorem kX7_addSign : mm_rec 95 = (cX7_addSign, yX7_addSign, 2, (some .int), 7, 1, 3, 65, 280, 51) := rfl
theorem kcX7_addSign : mm_code 95 = cX7_addSign := by unfold mm_code; rw [kX7_addSign]
theorem kmX7_addSign : mm_maxL 95 = 2 := by unfold mm_maxL; rw [kX7_addSign]
theorem krX7_addSign : mm_ret 95 = (some .int) := by unfold mm_ret; rw [kX7_addSign]
theorem knX7_addSign : mm_cno 95 = 7 := by unfold mm_cno; rw [kX7_addSign]
theorem kpX7_addSign : mm_np 95 = 1 := by unfold mm_np; rw [kX7_addSign]
theorem kfX7_addSign : mm_fr 95 = 3 := by unfold mm_fr; rw [kX7_addSign]
theorem klX7_addSign : mm_lo 95 = 65 := by unfold mm_lo; rw [kX7_addSign]

theorem kX7_isInPhrase : mm_rec 96 = (cX7_isInPhrase, yX7_isInPhrase, 3, (some .boolean), 7, 3, 2, 40, 355, 51) := rfl
theorem kcX7_isInPhrase : mm_code 96 = cX7_isInPhrase := by unfold mm_code; rw [kX7_isInPhrase]
theorem kmX7_isInPhrase : mm_maxL 96 = 3 := by unfold mm_maxL; rw [kX7_isInPhrase]
theorem krX7_isInPhrase : mm_ret 96 = (some .boolean) := by unfold mm_ret; rw [kX7_isInPhrase]
theorem knX7_isInPhrase : mm_cno 96 = 7 := by unfold mm_cno; rw [kX7_isInPhrase]
theorem kpX7_isInPhrase : mm_np 96 = 3 := by unfold mm_np; rw [kX7_isInPhrase]
theorem kfX7_isInPhrase : mm_fr 96 = 2 := by unfold mm_fr; rw [kX7_isInPhrase]
theorem klX7_isInPhrase : mm_lo 96 = 40 := by unfold mm_lo; rw [kX7_isInPhrase]

theorem kX7_copyOf : mm_rec 97 = (cX7_copyOf, yX7_copyOf, 4, (some .int), 7, 3, 2, 46, 376, 51) := rfl
theorem kcX7_copyOf : mm_code 97 = cX7_copyOf := by unfold mm_code; rw [kX7_copyOf]
theorem kmX7_copyOf : mm_maxL 97 = 4 := by unfold mm_maxL; rw [kX7_copyOf]
theorem krX7_copyOf : mm_ret 97 = (some .int) := by unfold mm_ret; rw [kX7_copyOf]
theorem knX7_copyOf : mm_cno 97 = 7 := by unfold mm_cno; rw [kX7_copyOf]
theorem kpX7_copyOf : mm_np 97 = 3 := by unfold mm_np; rw [kX7_copyOf]
theorem kfX7_copyOf : mm_fr 97 = 2 := by unfold mm_fr; rw [kX7_copyOf]
theorem klX7_copyOf : mm_lo 97 = 46 := by unfold mm_lo; rw [kX7_copyOf]

theorem kX7_canTryPhrase : mm_rec 98 = (cX7_canTryPhrase, yX7_canTryPhrase, 3, (some .boolean), 7, 0, 3, 65, 392, 51) := rfl
theorem kcX7_canTryPhrase : mm_code 98 = cX7_canTryPhrase := by unfold mm_code; rw [kX7_canTryPhrase]
theorem kmX7_canTryPhrase : mm_maxL 98 = 3 := by unfold mm_maxL; rw [kX7_canTryPhrase]
theorem krX7_canTryPhrase : mm_ret 98 = (some .boolean) := by unfold mm_ret; rw [kX7_canTryPhrase]
theorem knX7_canTryPhrase : mm_cno 98 = 7 := by unfold mm_cno; rw [kX7_canTryPhrase]
theorem kpX7_canTryPhrase : mm_np 98 = 0 := by unfold mm_np; rw [kX7_canTryPhrase]
theorem kfX7_canTryPhrase : mm_fr 98 = 3 := by unfold mm_fr; rw [kX7_canTryPhrase]
theorem klX7_canTryPhrase : mm_lo 98 = 65 := by unfold mm_lo; rw [kX7_canTryPhrase]

theorem kX8_in : mm_rec 99 = (cX8_in, yX8_in, 3, (some .boolean), 8, 3, 0, 0, 717, 58) := rfl
theorem kcX8_in : mm_code 99 = cX8_in := by unfold mm_code; rw [kX8_in]
theorem kmX8_in : mm_maxL 99 = 3 := by unfold mm_maxL; rw [kX8_in]
theorem krX8_in : mm_ret 99 = (some .boolean) := by unfold mm_ret; rw [kX8_in]
theorem knX8_in : mm_cno 99 = 8 := by unfold mm_cno; rw [kX8_in]
theorem kpX8_in : mm_np 99 = 3 := by unfold mm_np; rw [kX8_in]
theorem kfX8_in : mm_fr 99 = 0 := by unfold mm_fr; rw [kX8_in]
theorem klX8_in : mm_lo 99 = 0 := by unfold mm_lo; rw [kX8_in]

theorem kX8_isBeat : mm_rec 100 = (cX8_isBeat, yX8_isBeat, 2, (some .boolean), 8, 1, 1, 22, 733, 58) := rfl
theorem kcX8_isBeat : mm_code 100 = cX8_isBeat := by unfold mm_code; rw [kX8_isBeat]
theorem kmX8_isBeat : mm_maxL 100 = 2 := by unfold mm_maxL; rw [kX8_isBeat]
theorem krX8_isBeat : mm_ret 100 = (some .boolean) := by unfold mm_ret; rw [kX8_isBeat]
theorem knX8_isBeat : mm_cno 100 = 8 := by unfold mm_cno; rw [kX8_isBeat]
theorem kpX8_isBeat : mm_np 100 = 1 := by unfold mm_np; rw [kX8_isBeat]
theorem kfX8_isBeat : mm_fr 100 = 1 := by unfold mm_fr; rw [kX8_isBeat]
theorem klX8_isBeat : mm_lo 100 = 22 := by unfold mm_lo; rw [kX8_isBeat]

theorem kX8_isColumn : mm_rec 101 = (cX8_isColumn, yX8_isColumn, 1, (some .boolean), 8, 1, 1, 22, 760, 58) := rfl
theorem kcX8_isColumn : mm_code 101 = cX8_isColumn := by unfold mm_code; rw [kX8_isColumn]
theorem kmX8_isColumn : mm_maxL 101 = 1 := by unfold mm_maxL; rw [kX8_isColumn]
theorem krX8_isColumn : mm_ret 101 = (some .boolean) := by unfold mm_ret; rw [kX8_isColumn]
theorem knX8_isColumn : mm_cno 101 = 8 := by unfold mm_cno; rw [kX8_isColumn]
theorem kpX8_isColumn : mm_np 101 = 1 := by unfold mm_np; rw [kX8_isColumn]
theorem kfX8_isColumn : mm_fr 101 = 1 := by unfold mm_fr; rw [kX8_isColumn]
theorem klX8_isColumn : mm_lo 101 = 22 := by unfold mm_lo; rw [kX8_isColumn]

theorem kX8_isSign : mm_rec 102 = (cX8_isSign, yX8_isSign, 2, (some .boolean), 8, 1, 1, 22, 776, 58) := rfl
theorem kcX8_isSign : mm_code 102 = cX8_isSign := by unfold mm_code; rw [kX8_isSign]
theorem kmX8_isSign : mm_maxL 102 = 2 := by unfold mm_maxL; rw [kX8_isSign]
theorem krX8_isSign : mm_ret 102 = (some .boolean) := by unfold mm_ret; rw [kX8_isSign]
theorem knX8_isSign : mm_cno 102 = 8 := by unfold mm_cno; rw [kX8_isSign]
theorem kpX8_isSign : mm_np 102 = 1 := by unfold mm_np; rw [kX8_isSign]
theorem kfX8_isSign : mm_fr 102 = 1 := by unfold mm_fr; rw [kX8_isSign]
theorem klX8_isSign : mm_lo 102 = 22 := by unfold mm_lo; rw [kX8_isSign]

theorem kX8_records : mm_rec 103 = (cX8_records, yX8_records, 2, none, 8, 0, 0, 0, 721, 58) := rfl
theorem kcX8_records : mm_code 103 = cX8_records := by unfold mm_code; rw [kX8_records]
theorem kmX8_records : mm_maxL 103 = 2 := by unfold mm_maxL; rw [kX8_records]
theorem krX8_records : mm_ret 103 = none := by unfold mm_ret; rw [kX8_records]
theorem knX8_records : mm_cno 103 = 8 := by unfold mm_cno; rw [kX8_records]
theorem kpX8_records : mm_np 103 = 0 := by unfold mm_np; rw [kX8_records]
theorem kfX8_records : mm_fr 103 = 0 := by unfold mm_fr; rw [kX8_records]
theorem klX8_records : mm_lo 103 = 0 := by unfold mm_lo; rw [kX8_records]

theorem kX8_endOf : mm_rec 104 = (cX8_endOf, yX8_endOf, 3, (some .int), 8, 1, 0, 0, 788, 58) := rfl
theorem kcX8_endOf : mm_code 104 = cX8_endOf := by unfold mm_code; rw [kX8_endOf]
theorem kmX8_endOf : mm_maxL 104 = 3 := by unfold mm_maxL; rw [kX8_endOf]
theorem krX8_endOf : mm_ret 104 = (some .int) := by unfold mm_ret; rw [kX8_endOf]
theorem knX8_endOf : mm_cno 104 = 8 := by unfold mm_cno; rw [kX8_endOf]
theorem kpX8_endOf : mm_np 104 = 1 := by unfold mm_np; rw [kX8_endOf]
theorem kfX8_endOf : mm_fr 104 = 0 := by unfold mm_fr; rw [kX8_endOf]
theorem klX8_endOf : mm_lo 104 = 0 := by unfold mm_lo; rw [kX8_endOf]

theorem kX8_fills : mm_rec 105 = (cX8_fills, yX8_fills, 4, none, 8, 0, 0, 0, 745, 58) := rfl
theorem kcX8_fills : mm_code 105 = cX8_fills := by unfold mm_code; rw [kX8_fills]
theorem kmX8_fills : mm_maxL 105 = 4 := by unfold mm_maxL; rw [kX8_fills]
theorem krX8_fills : mm_ret 105 = none := by unfold mm_ret; rw [kX8_fills]
theorem knX8_fills : mm_cno 105 = 8 := by unfold mm_cno; rw [kX8_fills]
theorem kpX8_fills : mm_np 105 = 0 := by unfold mm_np; rw [kX8_fills]
theorem kfX8_fills : mm_fr 105 = 0 := by unfold mm_fr; rw [kX8_fills]
theorem klX8_fills : mm_lo 105 = 0 := by unfold mm_lo; rw [kX8_fills]

theorem kX8_covering : mm_rec 106 = (cX8_covering, yX8_covering, 3, (some .int), 8, 2, 0, 0, 749, 58) := rfl
theorem kcX8_covering : mm_code 106 = cX8_covering := by unfold mm_code; rw [kX8_covering]
theorem kmX8_covering : mm_maxL 106 = 3 := by unfold mm_maxL; rw [kX8_covering]
theorem krX8_covering : mm_ret 106 = (some .int) := by unfold mm_ret; rw [kX8_covering]
theorem knX8_covering : mm_cno 106 = 8 := by unfold mm_cno; rw [kX8_covering]
theorem kpX8_covering : mm_np 106 = 2 := by unfold mm_np; rw [kX8_covering]
theorem kfX8_covering : mm_fr 106 = 0 := by unfold mm_fr; rw [kX8_covering]
theorem klX8_covering : mm_lo 106 = 0 := by unfold mm_lo; rw [kX8_covering]

theorem kX8_isFree : mm_rec 107 = (cX8_isFree, yX8_isFree, 7, (some .boolean), 8, 3, 1, 23, 741, 58) := rfl
theorem kcX8_isFree : mm_code 107 = cX8_isFree := by unfold mm_code; rw [kX8_isFree]
theorem kmX8_isFree : mm_maxL 107 = 7 := by unfold mm_maxL; rw [kX8_isFree]
theorem krX8_isFree : mm_ret 107 = (some .boolean) := by unfold mm_ret; rw [kX8_isFree]
theorem knX8_isFree : mm_cno 107 = 8 := by unfold mm_cno; rw [kX8_isFree]
theorem kpX8_isFree : mm_np 107 = 3 := by unfold mm_np; rw [kX8_isFree]
theorem kfX8_isFree : mm_fr 107 = 1 := by unfold mm_fr; rw [kX8_isFree]
theorem klX8_isFree : mm_lo 107 = 23 := by unfold mm_lo; rw [kX8_isFree]

theorem kX8_puts : mm_rec 108 = (cX8_puts, yX8_puts, 9, (some .int), 8, 6, 0, 0, 753, 58) := rfl
theorem kcX8_puts : mm_code 108 = cX8_puts := by unfold mm_code; rw [kX8_puts]
theorem kmX8_puts : mm_maxL 108 = 9 := by unfold mm_maxL; rw [kX8_puts]
theorem krX8_puts : mm_ret 108 = (some .int) := by unfold mm_ret; rw [kX8_puts]
theorem knX8_puts : mm_cno 108 = 8 := by unfold mm_cno; rw [kX8_puts]
theorem kpX8_puts : mm_np 108 = 6 := by unfold mm_np; rw [kX8_puts]
theorem kfX8_puts : mm_fr 108 = 0 := by unfold mm_fr; rw [kX8_puts]
theorem klX8_puts : mm_lo 108 = 0 := by unfold mm_lo; rw [kX8_puts]

theorem kX8_adds : mm_rec 109 = (cX8_adds, yX8_adds, 7, (some .int), 8, 6, 2, 49, 737, 58) := rfl
theorem kcX8_adds : mm_code 109 = cX8_adds := by unfold mm_code; rw [kX8_adds]
theorem kmX8_adds : mm_maxL 109 = 7 := by unfold mm_maxL; rw [kX8_adds]
theorem krX8_adds : mm_ret 109 = (some .int) := by unfold mm_ret; rw [kX8_adds]
theorem knX8_adds : mm_cno 109 = 8 := by unfold mm_cno; rw [kX8_adds]
theorem kpX8_adds : mm_np 109 = 6 := by unfold mm_np; rw [kX8_adds]
theorem kfX8_adds : mm_fr 109 = 2 := by unfold mm_fr; rw [kX8_adds]
theorem klX8_adds : mm_lo 109 = 49 := by unfold mm_lo; rw [kX8_adds]

theorem kX8_isSpan : mm_rec 110 = (cX8_isSpan, yX8_isSpan, 3, (some .boolean), 8, 2, 2, 43, 729, 58) := rfl
theorem kcX8_isSpan : mm_code 110 = cX8_isSpan := by unfold mm_code; rw [kX8_isSpan]
theorem kmX8_isSpan : mm_maxL 110 = 3 := by unfold mm_maxL; rw [kX8_isSpan]
theorem krX8_isSpan : mm_ret 110 = (some .boolean) := by unfold mm_ret; rw [kX8_isSpan]
theorem knX8_isSpan : mm_cno 110 = 8 := by unfold mm_cno; rw [kX8_isSpan]
theorem kpX8_isSpan : mm_np 110 = 2 := by unfold mm_np; rw [kX8_isSpan]
theorem kfX8_isSpan : mm_fr 110 = 2 := by unfold mm_fr; rw [kX8_isSpan]
theorem klX8_isSpan : mm_lo 110 = 43 := by unfold mm_lo; rw [kX8_isSpan]

theorem kX8_reset : mm_rec 111 = (cX8_reset, yX8_reset, 3, (some .int), 8, 1, 1, 22, 714, 58) := rfl
theorem kcX8_reset : mm_code 111 = cX8_reset := by unfold mm_code; rw [kX8_reset]
theorem kmX8_reset : mm_maxL 111 = 3 := by unfold mm_maxL; rw [kX8_reset]
theorem krX8_reset : mm_ret 111 = (some .int) := by unfold mm_ret; rw [kX8_reset]
theorem knX8_reset : mm_cno 111 = 8 := by unfold mm_cno; rw [kX8_reset]
theorem kpX8_reset : mm_np 111 = 1 := by unfold mm_np; rw [kX8_reset]
theorem kfX8_reset : mm_fr 111 = 1 := by unfold mm_fr; rw [kX8_reset]
theorem klX8_reset : mm_lo 111 = 22 := by unfold mm_lo; rw [kX8_reset]

theorem kX8_addMove : mm_rec 112 = (cX8_addMove, yX8_addMove, 6, (some .int), 8, 5, 3, 75, 725, 58) := rfl
theorem kcX8_addMove : mm_code 112 = cX8_addMove := by unfold mm_code; rw [kX8_addMove]
theorem kmX8_addMove : mm_maxL 112 = 6 := by unfold mm_maxL; rw [kX8_addMove]
theorem krX8_addMove : mm_ret 112 = (some .int) := by unfold mm_ret; rw [kX8_addMove]
theorem knX8_addMove : mm_cno 112 = 8 := by unfold mm_cno; rw [kX8_addMove]
theorem kpX8_addMove : mm_np 112 = 5 := by unfold mm_np; rw [kX8_addMove]
theorem kfX8_addMove : mm_fr 112 = 3 := by unfold mm_fr; rw [kX8_addMove]
theorem klX8_addMove : mm_lo 112 = 75 := by unfold mm_lo; rw [kX8_addMove]

theorem kX8_addHold : mm_rec 113 = (cX8_addHold, yX8_addHold, 3, (some .int), 8, 2, 3, 75, 757, 58) := rfl
theorem kcX8_addHold : mm_code 113 = cX8_addHold := by unfold mm_code; rw [kX8_addHold]
theorem kmX8_addHold : mm_maxL 113 = 3 := by unfold mm_maxL; rw [kX8_addHold]
theorem krX8_addHold : mm_ret 113 = (some .int) := by unfold mm_ret; rw [kX8_addHold]
theorem knX8_addHold : mm_cno 113 = 8 := by unfold mm_cno; rw [kX8_addHold]
theorem kpX8_addHold : mm_np 113 = 2 := by unfold mm_np; rw [kX8_addHold]
theorem kfX8_addHold : mm_fr 113 = 3 := by unfold mm_fr; rw [kX8_addHold]
theorem klX8_addHold : mm_lo 113 = 75 := by unfold mm_lo; rw [kX8_addHold]

theorem kX8_addTurn : mm_rec 114 = (cX8_addTurn, yX8_addTurn, 4, (some .int), 8, 3, 3, 75, 764, 58) := rfl
theorem kcX8_addTurn : mm_code 114 = cX8_addTurn := by unfold mm_code; rw [kX8_addTurn]
theorem kmX8_addTurn : mm_maxL 114 = 4 := by unfold mm_maxL; rw [kX8_addTurn]
theorem krX8_addTurn : mm_ret 114 = (some .int) := by unfold mm_ret; rw [kX8_addTurn]
theorem knX8_addTurn : mm_cno 114 = 8 := by unfold mm_cno; rw [kX8_addTurn]
theorem kpX8_addTurn : mm_np 114 = 3 := by unfold mm_np; rw [kX8_addTurn]
theorem kfX8_addTurn : mm_fr 114 = 3 := by unfold mm_fr; rw [kX8_addTurn]
theorem klX8_addTurn : mm_lo 114 = 75 := by unfold mm_lo; rw [kX8_addTurn]

theorem kX8_addRelease : mm_rec 115 = (cX8_addRelease, yX8_addRelease, 4, (some .int), 8, 3, 3, 75, 768, 58) := rfl
theorem kcX8_addRelease : mm_code 115 = cX8_addRelease := by unfold mm_code; rw [kX8_addRelease]
theorem kmX8_addRelease : mm_maxL 115 = 4 := by unfold mm_maxL; rw [kX8_addRelease]
theorem krX8_addRelease : mm_ret 115 = (some .int) := by unfold mm_ret; rw [kX8_addRelease]
theorem knX8_addRelease : mm_cno 115 = 8 := by unfold mm_cno; rw [kX8_addRelease]
theorem kpX8_addRelease : mm_np 115 = 3 := by unfold mm_np; rw [kX8_addRelease]
theorem kfX8_addRelease : mm_fr 115 = 3 := by unfold mm_fr; rw [kX8_addRelease]
theorem klX8_addRelease : mm_lo 115 = 75 := by unfold mm_lo; rw [kX8_addRelease]

theorem kX8_removeSign : mm_rec 116 = (cX8_removeSign, yX8_removeSign, 4, (some .int), 8, 1, 2, 43, 772, 58) := rfl
theorem kcX8_removeSign : mm_code 116 = cX8_removeSign := by unfold mm_code; rw [kX8_removeSign]
theorem kmX8_removeSign : mm_maxL 116 = 4 := by unfold mm_maxL; rw [kX8_removeSign]
theorem krX8_removeSign : mm_ret 116 = (some .int) := by unfold mm_ret; rw [kX8_removeSign]
theorem knX8_removeSign : mm_cno 116 = 8 := by unfold mm_cno; rw [kX8_removeSign]
theorem kpX8_removeSign : mm_np 116 = 1 := by unfold mm_np; rw [kX8_removeSign]
theorem kfX8_removeSign : mm_fr 116 = 2 := by unfold mm_fr; rw [kX8_removeSign]
theorem klX8_removeSign : mm_lo 116 = 43 := by unfold mm_lo; rw [kX8_removeSign]

theorem kX8_turnedColumn : mm_rec 117 = (cX8_turnedColumn, yX8_turnedColumn, 1, (some .int), 8, 1, 0, 0, 791, 58) := rfl
theorem kcX8_turnedColumn : mm_code 117 = cX8_turnedColumn := by unfold mm_code; rw [kX8_turnedColumn]
theorem kmX8_turnedColumn : mm_maxL 117 = 1 := by unfold mm_maxL; rw [kX8_turnedColumn]
theorem krX8_turnedColumn : mm_ret 117 = (some .int) := by unfold mm_ret; rw [kX8_turnedColumn]
theorem knX8_turnedColumn : mm_cno 117 = 8 := by unfold mm_cno; rw [kX8_turnedColumn]
theorem kpX8_turnedColumn : mm_np 117 = 1 := by unfold mm_np; rw [kX8_turnedColumn]
theorem kfX8_turnedColumn : mm_fr 117 = 0 := by unfold mm_fr; rw [kX8_turnedColumn]
theorem klX8_turnedColumn : mm_lo 117 = 0 := by unfold mm_lo; rw [kX8_turnedColumn]

theorem kX8_turnedWay : mm_rec 118 = (cX8_turnedWay, yX8_turnedWay, 2, (some .int), 8, 2, 0, 0, 794, 58) := rfl
theorem kcX8_turnedWay : mm_code 118 = cX8_turnedWay := by unfold mm_code; rw [kX8_turnedWay]
theorem kmX8_turnedWay : mm_maxL 118 = 2 := by unfold mm_maxL; rw [kX8_turnedWay]
theorem krX8_turnedWay : mm_ret 118 = (some .int) := by unfold mm_ret; rw [kX8_turnedWay]
theorem knX8_turnedWay : mm_cno 118 = 8 := by unfold mm_cno; rw [kX8_turnedWay]
theorem kpX8_turnedWay : mm_np 118 = 2 := by unfold mm_np; rw [kX8_turnedWay]
theorem kfX8_turnedWay : mm_fr 118 = 0 := by unfold mm_fr; rw [kX8_turnedWay]
theorem klX8_turnedWay : mm_lo 118 = 0 := by unfold mm_lo; rw [kX8_turnedWay]

theorem kX8_collects : mm_rec 119 = (cX8_collects, yX8_collects, 15, (some .int), 8, 5, 1, 22, 784, 58) := rfl
theorem kcX8_collects : mm_code 119 = cX8_collects := by unfold mm_code; rw [kX8_collects]
theorem kmX8_collects : mm_maxL 119 = 15 := by unfold mm_maxL; rw [kX8_collects]
theorem krX8_collects : mm_ret 119 = (some .int) := by unfold mm_ret; rw [kX8_collects]
theorem knX8_collects : mm_cno 119 = 8 := by unfold mm_cno; rw [kX8_collects]
theorem kpX8_collects : mm_np 119 = 5 := by unfold mm_np; rw [kX8_collects]
theorem kfX8_collects : mm_fr 119 = 1 := by unfold mm_fr; rw [kX8_collects]
theorem klX8_collects : mm_lo 119 = 22 := by unfold mm_lo; rw [kX8_collects]

theorem kX8_copyPhrase : mm_rec 120 = (cX8_copyPhrase, yX8_copyPhrase, 11, (some .int), 8, 5, 2, 56, 780, 58) := rfl
theorem kcX8_copyPhrase : mm_code 120 = cX8_copyPhrase := by unfold mm_code; rw [kX8_copyPhrase]
theorem kmX8_copyPhrase : mm_maxL 120 = 11 := by unfold mm_maxL; rw [kX8_copyPhrase]
theorem krX8_copyPhrase : mm_ret 120 = (some .int) := by unfold mm_ret; rw [kX8_copyPhrase]
theorem knX8_copyPhrase : mm_cno 120 = 8 := by unfold mm_cno; rw [kX8_copyPhrase]
theorem kpX8_copyPhrase : mm_np 120 = 5 := by unfold mm_np; rw [kX8_copyPhrase]
theorem kfX8_copyPhrase : mm_fr 120 = 2 := by unfold mm_fr; rw [kX8_copyPhrase]
theorem klX8_copyPhrase : mm_lo 120 = 56 := by unfold mm_lo; rw [kX8_copyPhrase]

theorem kX8_setLeap : mm_rec 121 = (cX8_setLeap, yX8_setLeap, 3, (some .int), 8, 1, 1, 22, 798, 58) := rfl
theorem kcX8_setLeap : mm_code 121 = cX8_setLeap := by unfold mm_code; rw [kX8_setLeap]
theorem kmX8_setLeap : mm_maxL 121 = 3 := by unfold mm_maxL; rw [kX8_setLeap]
theorem krX8_setLeap : mm_ret 121 = (some .int) := by unfold mm_ret; rw [kX8_setLeap]
theorem knX8_setLeap : mm_cno 121 = 8 := by unfold mm_cno; rw [kX8_setLeap]
theorem kpX8_setLeap : mm_np 121 = 1 := by unfold mm_np; rw [kX8_setLeap]
theorem kfX8_setLeap : mm_fr 121 = 1 := by unfold mm_fr; rw [kX8_setLeap]
theorem klX8_setLeap : mm_lo 121 = 22 := by unfold mm_lo; rw [kX8_setLeap]

theorem kX8_undo : mm_rec 122 = (cX8_undo, yX8_undo, 2, (some .int), 8, 0, 0, 0, 802, 58) := rfl
theorem kcX8_undo : mm_code 122 = cX8_undo := by unfold mm_code; rw [kX8_undo]
theorem kmX8_undo : mm_maxL 122 = 2 := by unfold mm_maxL; rw [kX8_undo]
theorem krX8_undo : mm_ret 122 = (some .int) := by unfold mm_ret; rw [kX8_undo]
theorem knX8_undo : mm_cno 122 = 8 := by unfold mm_cno; rw [kX8_undo]
theorem kpX8_undo : mm_np 122 = 0 := by unfold mm_np; rw [kX8_undo]
theorem kfX8_undo : mm_fr 122 = 0 := by unfold mm_fr; rw [kX8_undo]
theorem klX8_undo : mm_lo 122 = 0 := by unfold mm_lo; rw [kX8_undo]

theorem kX8_count : mm_rec 123 = (cX8_count, yX8_count, 2, (some .int), 8, 1, 0, 0, 806, 58) := rfl
theorem kcX8_count : mm_code 123 = cX8_count := by unfold mm_code; rw [kX8_count]
theorem kmX8_count : mm_maxL 123 = 2 := by unfold mm_maxL; rw [kX8_count]
theorem krX8_count : mm_ret 123 = (some .int) := by unfold mm_ret; rw [kX8_count]
theorem knX8_count : mm_cno 123 = 8 := by unfold mm_cno; rw [kX8_count]
theorem kpX8_count : mm_np 123 = 1 := by unfold mm_np; rw [kX8_count]
theorem kfX8_count : mm_fr 123 = 0 := by unfold mm_fr; rw [kX8_count]
theorem klX8_count : mm_lo 123 = 0 := by unfold mm_lo; rw [kX8_count]

theorem kX8_sign : mm_rec 124 = (cX8_sign, yX8_sign, 4, (some .int), 8, 2, 2, 43, 810, 58) := rfl
theorem kcX8_sign : mm_code 124 = cX8_sign := by unfold mm_code; rw [kX8_sign]
theorem kmX8_sign : mm_maxL 124 = 4 := by unfold mm_maxL; rw [kX8_sign]
theorem krX8_sign : mm_ret 124 = (some .int) := by unfold mm_ret; rw [kX8_sign]
theorem knX8_sign : mm_cno 124 = 8 := by unfold mm_cno; rw [kX8_sign]
theorem kpX8_sign : mm_np 124 = 2 := by unfold mm_np; rw [kX8_sign]
theorem kfX8_sign : mm_fr 124 = 2 := by unfold mm_fr; rw [kX8_sign]
theorem klX8_sign : mm_lo 124 = 43 := by unfold mm_lo; rw [kX8_sign]

theorem kX8_signAt : mm_rec 125 = (cX8_signAt, yX8_signAt, 4, (some .int), 8, 2, 2, 43, 814, 58) := rfl
theorem kcX8_signAt : mm_code 125 = cX8_signAt := by unfold mm_code; rw [kX8_signAt]
theorem kmX8_signAt : mm_maxL 125 = 4 := by unfold mm_maxL; rw [kX8_signAt]
theorem krX8_signAt : mm_ret 125 = (some .int) := by unfold mm_ret; rw [kX8_signAt]
theorem knX8_signAt : mm_cno 125 = 8 := by unfold mm_cno; rw [kX8_signAt]
theorem kpX8_signAt : mm_np 125 = 2 := by unfold mm_np; rw [kX8_signAt]
theorem kfX8_signAt : mm_fr 125 = 2 := by unfold mm_fr; rw [kX8_signAt]
theorem klX8_signAt : mm_lo 125 = 43 := by unfold mm_lo; rw [kX8_signAt]

theorem kX8_isBearing : mm_rec 126 = (cX8_isBearing, yX8_isBearing, 4, (some .boolean), 8, 2, 1, 22, 826, 58) := rfl
theorem kcX8_isBearing : mm_code 126 = cX8_isBearing := by unfold mm_code; rw [kX8_isBearing]
theorem kmX8_isBearing : mm_maxL 126 = 4 := by unfold mm_maxL; rw [kX8_isBearing]
theorem krX8_isBearing : mm_ret 126 = (some .boolean) := by unfold mm_ret; rw [kX8_isBearing]
theorem knX8_isBearing : mm_cno 126 = 8 := by unfold mm_cno; rw [kX8_isBearing]
theorem kpX8_isBearing : mm_np 126 = 2 := by unfold mm_np; rw [kX8_isBearing]
theorem kfX8_isBearing : mm_fr 126 = 1 := by unfold mm_fr; rw [kX8_isBearing]
theorem klX8_isBearing : mm_lo 126 = 22 := by unfold mm_lo; rw [kX8_isBearing]

theorem kX8_feet : mm_rec 127 = (cX8_feet, yX8_feet, 2, (some .int), 8, 1, 2, 45, 822, 58) := rfl
theorem kcX8_feet : mm_code 127 = cX8_feet := by unfold mm_code; rw [kX8_feet]
theorem kmX8_feet : mm_maxL 127 = 2 := by unfold mm_maxL; rw [kX8_feet]
theorem krX8_feet : mm_ret 127 = (some .int) := by unfold mm_ret; rw [kX8_feet]
theorem knX8_feet : mm_cno 127 = 8 := by unfold mm_cno; rw [kX8_feet]
theorem kpX8_feet : mm_np 127 = 1 := by unfold mm_np; rw [kX8_feet]
theorem kfX8_feet : mm_fr 127 = 2 := by unfold mm_fr; rw [kX8_feet]
theorem klX8_feet : mm_lo 127 = 45 := by unfold mm_lo; rw [kX8_feet]

theorem kX8_isTwice : mm_rec 128 = (cX8_isTwice, yX8_isTwice, 4, (some .boolean), 8, 2, 2, 45, 838, 58) := rfl
theorem kcX8_isTwice : mm_code 128 = cX8_isTwice := by unfold mm_code; rw [kX8_isTwice]
theorem kmX8_isTwice : mm_maxL 128 = 4 := by unfold mm_maxL; rw [kX8_isTwice]
theorem krX8_isTwice : mm_ret 128 = (some .boolean) := by unfold mm_ret; rw [kX8_isTwice]
theorem knX8_isTwice : mm_cno 128 = 8 := by unfold mm_cno; rw [kX8_isTwice]
theorem kpX8_isTwice : mm_np 128 = 2 := by unfold mm_np; rw [kX8_isTwice]
theorem kfX8_isTwice : mm_fr 128 = 2 := by unfold mm_fr; rw [kX8_isTwice]
theorem klX8_isTwice : mm_lo 128 = 45 := by unfold mm_lo; rw [kX8_isTwice]

theorem kX8_twice : mm_rec 129 = (cX8_twice, yX8_twice, 2, (some .int), 8, 1, 3, 68, 834, 58) := rfl
theorem kcX8_twice : mm_code 129 = cX8_twice := by unfold mm_code; rw [kX8_twice]
theorem kmX8_twice : mm_maxL 129 = 2 := by unfold mm_maxL; rw [kX8_twice]
theorem krX8_twice : mm_ret 129 = (some .int) := by unfold mm_ret; rw [kX8_twice]
theorem knX8_twice : mm_cno 129 = 8 := by unfold mm_cno; rw [kX8_twice]
theorem kpX8_twice : mm_np 129 = 1 := by unfold mm_np; rw [kX8_twice]
theorem kfX8_twice : mm_fr 129 = 3 := by unfold mm_fr; rw [kX8_twice]
theorem klX8_twice : mm_lo 129 = 68 := by unfold mm_lo; rw [kX8_twice]

theorem kX8_flight : mm_rec 130 = (cX8_flight, yX8_flight, 4, (some .int), 8, 1, 3, 66, 850, 58) := rfl
theorem kcX8_flight : mm_code 130 = cX8_flight := by unfold mm_code; rw [kX8_flight]
theorem kmX8_flight : mm_maxL 130 = 4 := by unfold mm_maxL; rw [kX8_flight]
theorem krX8_flight : mm_ret 130 = (some .int) := by unfold mm_ret; rw [kX8_flight]
theorem knX8_flight : mm_cno 130 = 8 := by unfold mm_cno; rw [kX8_flight]
theorem kpX8_flight : mm_np 130 = 1 := by unfold mm_np; rw [kX8_flight]
theorem kfX8_flight : mm_fr 130 = 3 := by unfold mm_fr; rw [kX8_flight]
theorem klX8_flight : mm_lo 130 = 66 := by unfold mm_lo; rw [kX8_flight]

theorem kX8_isWrong : mm_rec 131 = (cX8_isWrong, yX8_isWrong, 2, (some .boolean), 8, 1, 4, 89, 846, 58) := rfl
theorem kcX8_isWrong : mm_code 131 = cX8_isWrong := by unfold mm_code; rw [kX8_isWrong]
theorem kmX8_isWrong : mm_maxL 131 = 2 := by unfold mm_maxL; rw [kX8_isWrong]
theorem krX8_isWrong : mm_ret 131 = (some .boolean) := by unfold mm_ret; rw [kX8_isWrong]
theorem knX8_isWrong : mm_cno 131 = 8 := by unfold mm_cno; rw [kX8_isWrong]
theorem kpX8_isWrong : mm_np 131 = 1 := by unfold mm_np; rw [kX8_isWrong]
theorem kfX8_isWrong : mm_fr 131 = 4 := by unfold mm_fr; rw [kX8_isWrong]
theorem klX8_isWrong : mm_lo 131 = 89 := by unfold mm_lo; rw [kX8_isWrong]

theorem kX8_bears : mm_rec 132 = (cX8_bears, yX8_bears, 2, (some .int), 8, 1, 3, 66, 818, 58) := rfl
theorem kcX8_bears : mm_code 132 = cX8_bears := by unfold mm_code; rw [kX8_bears]
theorem kmX8_bears : mm_maxL 132 = 2 := by unfold mm_maxL; rw [kX8_bears]
theorem krX8_bears : mm_ret 132 = (some .int) := by unfold mm_ret; rw [kX8_bears]
theorem knX8_bears : mm_cno 132 = 8 := by unfold mm_cno; rw [kX8_bears]
theorem kpX8_bears : mm_np 132 = 1 := by unfold mm_np; rw [kX8_bears]
theorem kfX8_bears : mm_fr 132 = 3 := by unfold mm_fr; rw [kX8_bears]
theorem klX8_bears : mm_lo 132 = 66 := by unfold mm_lo; rw [kX8_bears]

theorem kX8_toldTwice : mm_rec 133 = (cX8_toldTwice, yX8_toldTwice, 2, (some .int), 8, 1, 4, 89, 830, 58) := rfl
theorem kcX8_toldTwice : mm_code 133 = cX8_toldTwice := by unfold mm_code; rw [kX8_toldTwice]
theorem kmX8_toldTwice : mm_maxL 133 = 2 := by unfold mm_maxL; rw [kX8_toldTwice]
theorem krX8_toldTwice : mm_ret 133 = (some .int) := by unfold mm_ret; rw [kX8_toldTwice]
theorem knX8_toldTwice : mm_cno 133 = 8 := by unfold mm_cno; rw [kX8_toldTwice]
theorem kpX8_toldTwice : mm_np 133 = 1 := by unfold mm_np; rw [kX8_toldTwice]
theorem kfX8_toldTwice : mm_fr 133 = 4 := by unfold mm_fr; rw [kX8_toldTwice]
theorem klX8_toldTwice : mm_lo 133 = 89 := by unfold mm_lo; rw [kX8_toldTwice]

theorem kX8_isFaulty : mm_rec 134 = (cX8_isFaulty, yX8_isFaulty, 2, (some .int), 8, 1, 5, 110, 842, 58) := rfl
theorem kcX8_isFaulty : mm_code 134 = cX8_isFaulty := by unfold mm_code; rw [kX8_isFaulty]
theorem kmX8_isFaulty : mm_maxL 134 = 2 := by unfold mm_maxL; rw [kX8_isFaulty]
theorem krX8_isFaulty : mm_ret 134 = (some .int) := by unfold mm_ret; rw [kX8_isFaulty]
theorem knX8_isFaulty : mm_cno 134 = 8 := by unfold mm_cno; rw [kX8_isFaulty]
theorem kpX8_isFaulty : mm_np 134 = 1 := by unfold mm_np; rw [kX8_isFaulty]
theorem kfX8_isFaulty : mm_fr 134 = 5 := by unfold mm_fr; rw [kX8_isFaulty]
theorem klX8_isFaulty : mm_lo 134 = 110 := by unfold mm_lo; rw [kX8_isFaulty]

theorem kX8_nextFault : mm_rec 135 = (cX8_nextFault, yX8_nextFault, 3, (some .int), 8, 1, 5, 110, 854, 58) := rfl
theorem kcX8_nextFault : mm_code 135 = cX8_nextFault := by unfold mm_code; rw [kX8_nextFault]
theorem kmX8_nextFault : mm_maxL 135 = 3 := by unfold mm_maxL; rw [kX8_nextFault]
theorem krX8_nextFault : mm_ret 135 = (some .int) := by unfold mm_ret; rw [kX8_nextFault]
theorem knX8_nextFault : mm_cno 135 = 8 := by unfold mm_cno; rw [kX8_nextFault]
theorem kpX8_nextFault : mm_np 135 = 1 := by unfold mm_np; rw [kX8_nextFault]
theorem kfX8_nextFault : mm_fr 135 = 5 := by unfold mm_fr; rw [kX8_nextFault]
theorem klX8_nextFault : mm_lo 135 = 110 := by unfold mm_lo; rw [kX8_nextFault]

theorem kX8_beats : mm_rec 136 = (cX8_beats, yX8_beats, 9, (some .int), 8, 1, 5, 110, 858, 58) := rfl
theorem kcX8_beats : mm_code 136 = cX8_beats := by unfold mm_code; rw [kX8_beats]
theorem kmX8_beats : mm_maxL 136 = 9 := by unfold mm_maxL; rw [kX8_beats]
theorem krX8_beats : mm_ret 136 = (some .int) := by unfold mm_ret; rw [kX8_beats]
theorem knX8_beats : mm_cno 136 = 8 := by unfold mm_cno; rw [kX8_beats]
theorem kpX8_beats : mm_np 136 = 1 := by unfold mm_np; rw [kX8_beats]
theorem kfX8_beats : mm_fr 136 = 5 := by unfold mm_fr; rw [kX8_beats]
theorem klX8_beats : mm_lo 136 = 110 := by unfold mm_lo; rw [kX8_beats]

theorem kX8_leastLeap : mm_rec 137 = (cX8_leastLeap, yX8_leastLeap, 2, (some .int), 8, 0, 6, 138, 862, 58) := rfl
theorem kcX8_leastLeap : mm_code 137 = cX8_leastLeap := by unfold mm_code; rw [kX8_leastLeap]
theorem kmX8_leastLeap : mm_maxL 137 = 2 := by unfold mm_maxL; rw [kX8_leastLeap]
theorem krX8_leastLeap : mm_ret 137 = (some .int) := by unfold mm_ret; rw [kX8_leastLeap]
theorem knX8_leastLeap : mm_cno 137 = 8 := by unfold mm_cno; rw [kX8_leastLeap]
theorem kpX8_leastLeap : mm_np 137 = 0 := by unfold mm_np; rw [kX8_leastLeap]
theorem kfX8_leastLeap : mm_fr 137 = 6 := by unfold mm_fr; rw [kX8_leastLeap]
theorem klX8_leastLeap : mm_lo 137 = 138 := by unfold mm_lo; rw [kX8_leastLeap]

theorem kX8_covered : mm_rec 138 = (cX8_covered, yX8_covered, 6, (some .int), 8, 2, 2, 42, 867, 58) := rfl
theorem kcX8_covered : mm_code 138 = cX8_covered := by unfold mm_code; rw [kX8_covered]
theorem kmX8_covered : mm_maxL 138 = 6 := by unfold mm_maxL; rw [kX8_covered]
theorem krX8_covered : mm_ret 138 = (some .int) := by unfold mm_ret; rw [kX8_covered]
theorem knX8_covered : mm_cno 138 = 8 := by unfold mm_cno; rw [kX8_covered]
theorem kpX8_covered : mm_np 138 = 2 := by unfold mm_np; rw [kX8_covered]
theorem kfX8_covered : mm_fr 138 = 2 := by unfold mm_fr; rw [kX8_covered]
theorem klX8_covered : mm_lo 138 = 42 := by unfold mm_lo; rw [kX8_covered]

theorem kX8_facing : mm_rec 139 = (cX8_facing, yX8_facing, 4, (some .int), 8, 1, 1, 22, 875, 58) := rfl
theorem kcX8_facing : mm_code 139 = cX8_facing := by unfold mm_code; rw [kX8_facing]
theorem kmX8_facing : mm_maxL 139 = 4 := by unfold mm_maxL; rw [kX8_facing]
theorem krX8_facing : mm_ret 139 = (some .int) := by unfold mm_ret; rw [kX8_facing]
theorem knX8_facing : mm_cno 139 = 8 := by unfold mm_cno; rw [kX8_facing]
theorem kpX8_facing : mm_np 139 = 1 := by unfold mm_np; rw [kX8_facing]
theorem kfX8_facing : mm_fr 139 = 1 := by unfold mm_fr; rw [kX8_facing]
theorem klX8_facing : mm_lo 139 = 22 := by unfold mm_lo; rw [kX8_facing]

theorem kX8_unit : mm_rec 140 = (cX8_unit, yX8_unit, 3, (some .int), 8, 2, 0, 0, 882, 58) := rfl
theorem kcX8_unit : mm_code 140 = cX8_unit := by unfold mm_code; rw [kX8_unit]
theorem kmX8_unit : mm_maxL 140 = 3 := by unfold mm_maxL; rw [kX8_unit]
theorem krX8_unit : mm_ret 140 = (some .int) := by unfold mm_ret; rw [kX8_unit]
theorem knX8_unit : mm_cno 140 = 8 := by unfold mm_cno; rw [kX8_unit]
theorem kpX8_unit : mm_np 140 = 2 := by unfold mm_np; rw [kX8_unit]
theorem kfX8_unit : mm_fr 140 = 0 := by unfold mm_fr; rw [kX8_unit]
theorem klX8_unit : mm_lo 140 = 0 := by unfold mm_lo; rw [kX8_unit]

theorem kX8_isTogether : mm_rec 141 = (cX8_isTogether, yX8_isTogether, 4, (some .boolean), 8, 1, 1, 22, 886, 58) := rfl
theorem kcX8_isTogether : mm_code 141 = cX8_isTogether := by unfold mm_code; rw [kX8_isTogether]
theorem kmX8_isTogether : mm_maxL 141 = 4 := by unfold mm_maxL; rw [kX8_isTogether]
theorem krX8_isTogether : mm_ret 141 = (some .boolean) := by unfold mm_ret; rw [kX8_isTogether]
theorem knX8_isTogether : mm_cno 141 = 8 := by unfold mm_cno; rw [kX8_isTogether]
theorem kpX8_isTogether : mm_np 141 = 1 := by unfold mm_np; rw [kX8_isTogether]
theorem kfX8_isTogether : mm_fr 141 = 1 := by unfold mm_fr; rw [kX8_isTogether]
theorem klX8_isTogether : mm_lo 141 = 22 := by unfold mm_lo; rw [kX8_isTogether]

theorem kX8_place : mm_rec 142 = (cX8_place, yX8_place, 6, (some .int), 8, 2, 2, 45, 879, 58) := rfl
theorem kcX8_place : mm_code 142 = cX8_place := by unfold mm_code; rw [kX8_place]
theorem kmX8_place : mm_maxL 142 = 6 := by unfold mm_maxL; rw [kX8_place]
theorem krX8_place : mm_ret 142 = (some .int) := by unfold mm_ret; rw [kX8_place]
theorem knX8_place : mm_cno 142 = 8 := by unfold mm_cno; rw [kX8_place]
theorem kpX8_place : mm_np 142 = 2 := by unfold mm_np; rw [kX8_place]
theorem kfX8_place : mm_fr 142 = 2 := by unfold mm_fr; rw [kX8_place]
theorem klX8_place : mm_lo 142 = 45 := by unfold mm_lo; rw [kX8_place]

theorem kX8_floor : mm_rec 143 = (cX8_floor, yX8_floor, 3, (some .int), 8, 2, 3, 70, 871, 58) := rfl
theorem kcX8_floor : mm_code 143 = cX8_floor := by unfold mm_code; rw [kX8_floor]
theorem kmX8_floor : mm_maxL 143 = 3 := by unfold mm_maxL; rw [kX8_floor]
theorem krX8_floor : mm_ret 143 = (some .int) := by unfold mm_ret; rw [kX8_floor]
theorem knX8_floor : mm_cno 143 = 8 := by unfold mm_cno; rw [kX8_floor]
theorem kpX8_floor : mm_np 143 = 2 := by unfold mm_np; rw [kX8_floor]
theorem kfX8_floor : mm_fr 143 = 3 := by unfold mm_fr; rw [kX8_floor]
theorem klX8_floor : mm_lo 143 = 70 := by unfold mm_lo; rw [kX8_floor]

theorem kX8_home : mm_rec 144 = (cX8_home, yX8_home, 4, (some .int), 8, 0, 3, 70, 890, 58) := rfl
theorem kcX8_home : mm_code 144 = cX8_home := by unfold mm_code; rw [kX8_home]
theorem kmX8_home : mm_maxL 144 = 4 := by unfold mm_maxL; rw [kX8_home]
theorem krX8_home : mm_ret 144 = (some .int) := by unfold mm_ret; rw [kX8_home]
theorem knX8_home : mm_cno 144 = 8 := by unfold mm_cno; rw [kX8_home]
theorem kpX8_home : mm_np 144 = 0 := by unfold mm_np; rw [kX8_home]
theorem kfX8_home : mm_fr 144 = 3 := by unfold mm_fr; rw [kX8_home]
theorem klX8_home : mm_lo 144 = 70 := by unfold mm_lo; rw [kX8_home]

theorem kX8_size : mm_rec 145 = (cX8_size, yX8_size, 1, (some .int), 8, 1, 0, 0, 897, 58) := rfl
theorem kcX8_size : mm_code 145 = cX8_size := by unfold mm_code; rw [kX8_size]
theorem kmX8_size : mm_maxL 145 = 1 := by unfold mm_maxL; rw [kX8_size]
theorem krX8_size : mm_ret 145 = (some .int) := by unfold mm_ret; rw [kX8_size]
theorem knX8_size : mm_cno 145 = 8 := by unfold mm_cno; rw [kX8_size]
theorem kpX8_size : mm_np 145 = 1 := by unfold mm_np; rw [kX8_size]
theorem kfX8_size : mm_fr 145 = 0 := by unfold mm_fr; rw [kX8_size]
theorem klX8_size : mm_lo 145 = 0 := by unfold mm_lo; rw [kX8_size]

theorem kX8_farthest : mm_rec 146 = (cX8_farthest, yX8_farthest, 5, (some .int), 8, 0, 3, 70, 894, 58) := rfl
theorem kcX8_farthest : mm_code 146 = cX8_farthest := by unfold mm_code; rw [kX8_farthest]
theorem kmX8_farthest : mm_maxL 146 = 5 := by unfold mm_maxL; rw [kX8_farthest]
theorem krX8_farthest : mm_ret 146 = (some .int) := by unfold mm_ret; rw [kX8_farthest]
theorem knX8_farthest : mm_cno 146 = 8 := by unfold mm_cno; rw [kX8_farthest]
theorem kpX8_farthest : mm_np 146 = 0 := by unfold mm_np; rw [kX8_farthest]
theorem kfX8_farthest : mm_fr 146 = 3 := by unfold mm_fr; rw [kX8_farthest]
theorem klX8_farthest : mm_lo 146 = 70 := by unfold mm_lo; rw [kX8_farthest]

theorem kX8_isLike : mm_rec 147 = (cX8_isLike, yX8_isLike, 9, (some .boolean), 8, 4, 1, 22, 905, 58) := rfl
theorem kcX8_isLike : mm_code 147 = cX8_isLike := by unfold mm_code; rw [kX8_isLike]
theorem kmX8_isLike : mm_maxL 147 = 9 := by unfold mm_maxL; rw [kX8_isLike]
theorem krX8_isLike : mm_ret 147 = (some .boolean) := by unfold mm_ret; rw [kX8_isLike]
theorem knX8_isLike : mm_cno 147 = 8 := by unfold mm_cno; rw [kX8_isLike]
theorem kpX8_isLike : mm_np 147 = 4 := by unfold mm_np; rw [kX8_isLike]
theorem kfX8_isLike : mm_fr 147 = 1 := by unfold mm_fr; rw [kX8_isLike]
theorem klX8_isLike : mm_lo 147 = 22 := by unfold mm_lo; rw [kX8_isLike]

theorem kX8_alike : mm_rec 148 = (cX8_alike, yX8_alike, 9, (some .int), 8, 4, 2, 50, 901, 58) := rfl
theorem kcX8_alike : mm_code 148 = cX8_alike := by unfold mm_code; rw [kX8_alike]
theorem kmX8_alike : mm_maxL 148 = 9 := by unfold mm_maxL; rw [kX8_alike]
theorem krX8_alike : mm_ret 148 = (some .int) := by unfold mm_ret; rw [kX8_alike]
theorem knX8_alike : mm_cno 148 = 8 := by unfold mm_cno; rw [kX8_alike]
theorem kpX8_alike : mm_np 148 = 4 := by unfold mm_np; rw [kX8_alike]
theorem kfX8_alike : mm_fr 148 = 2 := by unfold mm_fr; rw [kX8_alike]
theorem klX8_alike : mm_lo 148 = 50 := by unfold mm_lo; rw [kX8_alike]

theorem kX8_type : mm_rec 149 = (cX8_type, yX8_type, 2, (some .int), 8, 1, 1, 22, 909, 58) := rfl
theorem kcX8_type : mm_code 149 = cX8_type := by unfold mm_code; rw [kX8_type]
theorem kmX8_type : mm_maxL 149 = 2 := by unfold mm_maxL; rw [kX8_type]
theorem krX8_type : mm_ret 149 = (some .int) := by unfold mm_ret; rw [kX8_type]
theorem knX8_type : mm_cno 149 = 8 := by unfold mm_cno; rw [kX8_type]
theorem kpX8_type : mm_np 149 = 1 := by unfold mm_np; rw [kX8_type]
theorem kfX8_type : mm_fr 149 = 1 := by unfold mm_fr; rw [kX8_type]
theorem klX8_type : mm_lo 149 = 22 := by unfold mm_lo; rw [kX8_type]

theorem kX8_clearText : mm_rec 150 = (cX8_clearText, yX8_clearText, 2, (some .int), 8, 0, 0, 0, 913, 58) := rfl
theorem kcX8_clearText : mm_code 150 = cX8_clearText := by unfold mm_code; rw [kX8_clearText]
theorem kmX8_clearText : mm_maxL 150 = 2 := by unfold mm_maxL; rw [kX8_clearText]
theorem krX8_clearText : mm_ret 150 = (some .int) := by unfold mm_ret; rw [kX8_clearText]
theorem knX8_clearText : mm_cno 150 = 8 := by unfold mm_cno; rw [kX8_clearText]
theorem kpX8_clearText : mm_np 150 = 0 := by unfold mm_np; rw [kX8_clearText]
theorem kfX8_clearText : mm_fr 150 = 0 := by unfold mm_fr; rw [kX8_clearText]
theorem klX8_clearText : mm_lo 150 = 0 := by unfold mm_lo; rw [kX8_clearText]

theorem kX8_here : mm_rec 151 = (cX8_here, yX8_here, 1, (some .int), 8, 0, 0, 0, 937, 58) := rfl
theorem kcX8_here : mm_code 151 = cX8_here := by unfold mm_code; rw [kX8_here]
theorem kmX8_here : mm_maxL 151 = 1 := by unfold mm_maxL; rw [kX8_here]
theorem krX8_here : mm_ret 151 = (some .int) := by unfold mm_ret; rw [kX8_here]
theorem knX8_here : mm_cno 151 = 8 := by unfold mm_cno; rw [kX8_here]
theorem kpX8_here : mm_np 151 = 0 := by unfold mm_np; rw [kX8_here]
theorem kfX8_here : mm_fr 151 = 0 := by unfold mm_fr; rw [kX8_here]
theorem klX8_here : mm_lo 151 = 0 := by unfold mm_lo; rw [kX8_here]

theorem kX8_passes : mm_rec 152 = (cX8_passes, yX8_passes, 3, (some .boolean), 8, 1, 1, 20, 941, 58) := rfl
theorem kcX8_passes : mm_code 152 = cX8_passes := by unfold mm_code; rw [kX8_passes]
theorem kmX8_passes : mm_maxL 152 = 3 := by unfold mm_maxL; rw [kX8_passes]
theorem krX8_passes : mm_ret 152 = (some .boolean) := by unfold mm_ret; rw [kX8_passes]
theorem knX8_passes : mm_cno 152 = 8 := by unfold mm_cno; rw [kX8_passes]
theorem kpX8_passes : mm_np 152 = 1 := by unfold mm_np; rw [kX8_passes]
theorem kfX8_passes : mm_fr 152 = 1 := by unfold mm_fr; rw [kX8_passes]
theorem klX8_passes : mm_lo 152 = 20 := by unfold mm_lo; rw [kX8_passes]

theorem kX8_digit : mm_rec 153 = (cX8_digit, yX8_digit, 4, (some .int), 8, 2, 1, 22, 933, 58) := rfl
theorem kcX8_digit : mm_code 153 = cX8_digit := by unfold mm_code; rw [kX8_digit]
theorem kmX8_digit : mm_maxL 153 = 4 := by unfold mm_maxL; rw [kX8_digit]
theorem krX8_digit : mm_ret 153 = (some .int) := by unfold mm_ret; rw [kX8_digit]
theorem knX8_digit : mm_cno 153 = 8 := by unfold mm_cno; rw [kX8_digit]
theorem kpX8_digit : mm_np 153 = 2 := by unfold mm_np; rw [kX8_digit]
theorem kfX8_digit : mm_fr 153 = 1 := by unfold mm_fr; rw [kX8_digit]
theorem klX8_digit : mm_lo 153 = 22 := by unfold mm_lo; rw [kX8_digit]

theorem kX8_length : mm_rec 154 = (cX8_length, yX8_length, 3, (some .int), 8, 0, 2, 45, 949, 58) := rfl
theorem kcX8_length : mm_code 154 = cX8_length := by unfold mm_code; rw [kX8_length]
theorem kmX8_length : mm_maxL 154 = 3 := by unfold mm_maxL; rw [kX8_length]
theorem krX8_length : mm_ret 154 = (some .int) := by unfold mm_ret; rw [kX8_length]
theorem knX8_length : mm_cno 154 = 8 := by unfold mm_cno; rw [kX8_length]
theorem kpX8_length : mm_np 154 = 0 := by unfold mm_np; rw [kX8_length]
theorem kfX8_length : mm_fr 154 = 2 := by unfold mm_fr; rw [kX8_length]
theorem klX8_length : mm_lo 154 = 45 := by unfold mm_lo; rw [kX8_length]

theorem kX8_lays : mm_rec 155 = (cX8_lays, yX8_lays, 8, (some .boolean), 8, 5, 1, 28, 953, 58) := rfl
theorem kcX8_lays : mm_code 155 = cX8_lays := by unfold mm_code; rw [kX8_lays]
theorem kmX8_lays : mm_maxL 155 = 8 := by unfold mm_maxL; rw [kX8_lays]
theorem krX8_lays : mm_ret 155 = (some .boolean) := by unfold mm_ret; rw [kX8_lays]
theorem knX8_lays : mm_cno 155 = 8 := by unfold mm_cno; rw [kX8_lays]
theorem kpX8_lays : mm_np 155 = 5 := by unfold mm_np; rw [kX8_lays]
theorem kfX8_lays : mm_fr 155 = 1 := by unfold mm_fr; rw [kX8_lays]
theorem klX8_lays : mm_lo 155 = 28 := by unfold mm_lo; rw [kX8_lays]

theorem kX8_readsMove : mm_rec 156 = (cX8_readsMove, yX8_readsMove, 4, (some .boolean), 8, 1, 3, 67, 945, 58) := rfl
theorem kcX8_readsMove : mm_code 156 = cX8_readsMove := by unfold mm_code; rw [kX8_readsMove]
theorem kmX8_readsMove : mm_maxL 156 = 4 := by unfold mm_maxL; rw [kX8_readsMove]
theorem krX8_readsMove : mm_ret 156 = (some .boolean) := by unfold mm_ret; rw [kX8_readsMove]
theorem knX8_readsMove : mm_cno 156 = 8 := by unfold mm_cno; rw [kX8_readsMove]
theorem kpX8_readsMove : mm_np 156 = 1 := by unfold mm_np; rw [kX8_readsMove]
theorem kfX8_readsMove : mm_fr 156 = 3 := by unfold mm_fr; rw [kX8_readsMove]
theorem klX8_readsMove : mm_lo 156 = 67 := by unfold mm_lo; rw [kX8_readsMove]

theorem kX8_readsTurn : mm_rec 157 = (cX8_readsTurn, yX8_readsTurn, 4, (some .boolean), 8, 1, 3, 67, 957, 58) := rfl
theorem kcX8_readsTurn : mm_code 157 = cX8_readsTurn := by unfold mm_code; rw [kX8_readsTurn]
theorem kmX8_readsTurn : mm_maxL 157 = 4 := by unfold mm_maxL; rw [kX8_readsTurn]
theorem krX8_readsTurn : mm_ret 157 = (some .boolean) := by unfold mm_ret; rw [kX8_readsTurn]
theorem knX8_readsTurn : mm_cno 157 = 8 := by unfold mm_cno; rw [kX8_readsTurn]
theorem kpX8_readsTurn : mm_np 157 = 1 := by unfold mm_np; rw [kX8_readsTurn]
theorem kfX8_readsTurn : mm_fr 157 = 3 := by unfold mm_fr; rw [kX8_readsTurn]
theorem klX8_readsTurn : mm_lo 157 = 67 := by unfold mm_lo; rw [kX8_readsTurn]

theorem kX8_readsItem : mm_rec 158 = (cX8_readsItem, yX8_readsItem, 3, (some .boolean), 8, 0, 4, 90, 929, 58) := rfl
theorem kcX8_readsItem : mm_code 158 = cX8_readsItem := by unfold mm_code; rw [kX8_readsItem]
theorem kmX8_readsItem : mm_maxL 158 = 3 := by unfold mm_maxL; rw [kX8_readsItem]
theorem krX8_readsItem : mm_ret 158 = (some .boolean) := by unfold mm_ret; rw [kX8_readsItem]
theorem knX8_readsItem : mm_cno 158 = 8 := by unfold mm_cno; rw [kX8_readsItem]
theorem kpX8_readsItem : mm_np 158 = 0 := by unfold mm_np; rw [kX8_readsItem]
theorem kfX8_readsItem : mm_fr 158 = 4 := by unfold mm_fr; rw [kX8_readsItem]
theorem klX8_readsItem : mm_lo 158 = 90 := by unfold mm_lo; rw [kX8_readsItem]

theorem kX8_reads : mm_rec 159 = (cX8_reads, yX8_reads, 2, (some .int), 8, 0, 5, 112, 925, 58) := rfl
theorem kcX8_reads : mm_code 159 = cX8_reads := by unfold mm_code; rw [kX8_reads]
theorem kmX8_reads : mm_maxL 159 = 2 := by unfold mm_maxL; rw [kX8_reads]
theorem krX8_reads : mm_ret 159 = (some .int) := by unfold mm_ret; rw [kX8_reads]
theorem knX8_reads : mm_cno 159 = 8 := by unfold mm_cno; rw [kX8_reads]
theorem kpX8_reads : mm_np 159 = 0 := by unfold mm_np; rw [kX8_reads]
theorem kfX8_reads : mm_fr 159 = 5 := by unfold mm_fr; rw [kX8_reads]
theorem klX8_reads : mm_lo 159 = 112 := by unfold mm_lo; rw [kX8_reads]

theorem kX8_keeps : mm_rec 160 = (cX8_keeps, yX8_keeps, 2, none, 8, 0, 0, 0, 921, 58) := rfl
theorem kcX8_keeps : mm_code 160 = cX8_keeps := by unfold mm_code; rw [kX8_keeps]
theorem kmX8_keeps : mm_maxL 160 = 2 := by unfold mm_maxL; rw [kX8_keeps]
theorem krX8_keeps : mm_ret 160 = none := by unfold mm_ret; rw [kX8_keeps]
theorem knX8_keeps : mm_cno 160 = 8 := by unfold mm_cno; rw [kX8_keeps]
theorem kpX8_keeps : mm_np 160 = 0 := by unfold mm_np; rw [kX8_keeps]
theorem kfX8_keeps : mm_fr 160 = 0 := by unfold mm_fr; rw [kX8_keeps]
theorem klX8_keeps : mm_lo 160 = 0 := by unfold mm_lo; rw [kX8_keeps]

theorem kX8_swaps : mm_rec 161 = (cX8_swaps, yX8_swaps, 3, none, 8, 0, 0, 0, 961, 58) := rfl
theorem kcX8_swaps : mm_code 161 = cX8_swaps := by unfold mm_code; rw [kX8_swaps]
theorem kmX8_swaps : mm_maxL 161 = 3 := by unfold mm_maxL; rw [kX8_swaps]
theorem krX8_swaps : mm_ret 161 = none := by unfold mm_ret; rw [kX8_swaps]
theorem knX8_swaps : mm_cno 161 = 8 := by unfold mm_cno; rw [kX8_swaps]
theorem kpX8_swaps : mm_np 161 = 0 := by unfold mm_np; rw [kX8_swaps]
theorem kfX8_swaps : mm_fr 161 = 0 := by unfold mm_fr; rw [kX8_swaps]
theorem klX8_swaps : mm_lo 161 = 0 := by unfold mm_lo; rw [kX8_swaps]

theorem kX8_fault : mm_rec 162 = (cX8_fault, yX8_fault, 2, (some .int), 8, 0, 6, 133, 917, 58) := rfl
theorem kcX8_fault : mm_code 162 = cX8_fault := by unfold mm_code; rw [kX8_fault]
theorem kmX8_fault : mm_maxL 162 = 2 := by unfold mm_maxL; rw [kX8_fault]
theorem krX8_fault : mm_ret 162 = (some .int) := by unfold mm_ret; rw [kX8_fault]
theorem knX8_fault : mm_cno 162 = 8 := by unfold mm_cno; rw [kX8_fault]
theorem kpX8_fault : mm_np 162 = 0 := by unfold mm_np; rw [kX8_fault]
theorem kfX8_fault : mm_fr 162 = 6 := by unfold mm_fr; rw [kX8_fault]
theorem klX8_fault : mm_lo 162 = 133 := by unfold mm_lo; rw [kX8_fault]

theorem kX8_lay : mm_rec 163 = (cX8_lay, yX8_lay, 1, (some .int), 8, 0, 7, 154, 965, 58) := rfl
theorem kcX8_lay : mm_code 163 = cX8_lay := by unfold mm_code; rw [kX8_lay]
theorem kmX8_lay : mm_maxL 163 = 1 := by unfold mm_maxL; rw [kX8_lay]
theorem krX8_lay : mm_ret 163 = (some .int) := by unfold mm_ret; rw [kX8_lay]
theorem knX8_lay : mm_cno 163 = 8 := by unfold mm_cno; rw [kX8_lay]
theorem kpX8_lay : mm_np 163 = 0 := by unfold mm_np; rw [kX8_lay]
theorem kfX8_lay : mm_fr 163 = 7 := by unfold mm_fr; rw [kX8_lay]
theorem klX8_lay : mm_lo 163 = 154 := by unfold mm_lo; rw [kX8_lay]

theorem kJ9_floorMod_7cf53 : mm_rec 164 = (cJ9_floorMod_7cf53, yJ9_floorMod_7cf53, 3, (some .int), 10, 2, 0, 0, 605, 62) := rfl
theorem kcJ9_floorMod_7cf53 : mm_code 164 = cJ9_floorMod_7cf53 := by unfold mm_code; rw [kJ9_floorMod_7cf53]
theorem kmJ9_floorMod_7cf53 : mm_maxL 164 = 3 := by unfold mm_maxL; rw [kJ9_floorMod_7cf53]
theorem krJ9_floorMod_7cf53 : mm_ret 164 = (some .int) := by unfold mm_ret; rw [kJ9_floorMod_7cf53]
theorem knJ9_floorMod_7cf53 : mm_cno 164 = 10 := by unfold mm_cno; rw [kJ9_floorMod_7cf53]
theorem kpJ9_floorMod_7cf53 : mm_np 164 = 2 := by unfold mm_np; rw [kJ9_floorMod_7cf53]
theorem kfJ9_floorMod_7cf53 : mm_fr 164 = 0 := by unfold mm_fr; rw [kJ9_floorMod_7cf53]
theorem klJ9_floorMod_7cf53 : mm_lo 164 = 0 := by unfold mm_lo; rw [kJ9_floorMod_7cf53]

theorem kJ9_abs_0f7a4 : mm_rec 165 = (cJ9_abs_0f7a4, yJ9_abs_0f7a4, 1, (some .int), 10, 1, 0, 0, 626, 62) := rfl
theorem kcJ9_abs_0f7a4 : mm_code 165 = cJ9_abs_0f7a4 := by unfold mm_code; rw [kJ9_abs_0f7a4]
theorem kmJ9_abs_0f7a4 : mm_maxL 165 = 1 := by unfold mm_maxL; rw [kJ9_abs_0f7a4]
theorem krJ9_abs_0f7a4 : mm_ret 165 = (some .int) := by unfold mm_ret; rw [kJ9_abs_0f7a4]
theorem knJ9_abs_0f7a4 : mm_cno 165 = 10 := by unfold mm_cno; rw [kJ9_abs_0f7a4]
theorem kpJ9_abs_0f7a4 : mm_np 165 = 1 := by unfold mm_np; rw [kJ9_abs_0f7a4]
theorem kfJ9_abs_0f7a4 : mm_fr 165 = 0 := by unfold mm_fr; rw [kJ9_abs_0f7a4]
theorem klJ9_abs_0f7a4 : mm_lo 165 = 0 := by unfold mm_lo; rw [kJ9_abs_0f7a4]

theorem kJ9_max_7cf53 : mm_rec 166 = (cJ9_max_7cf53, yJ9_max_7cf53, 2, (some .int), 10, 2, 0, 0, 559, 62) := rfl
theorem kcJ9_max_7cf53 : mm_code 166 = cJ9_max_7cf53 := by unfold mm_code; rw [kJ9_max_7cf53]
theorem kmJ9_max_7cf53 : mm_maxL 166 = 2 := by unfold mm_maxL; rw [kJ9_max_7cf53]
theorem krJ9_max_7cf53 : mm_ret 166 = (some .int) := by unfold mm_ret; rw [kJ9_max_7cf53]
theorem knJ9_max_7cf53 : mm_cno 166 = 10 := by unfold mm_cno; rw [kJ9_max_7cf53]
theorem kpJ9_max_7cf53 : mm_np 166 = 2 := by unfold mm_np; rw [kJ9_max_7cf53]
theorem kfJ9_max_7cf53 : mm_fr 166 = 0 := by unfold mm_fr; rw [kJ9_max_7cf53]
theorem klJ9_max_7cf53 : mm_lo 166 = 0 := by unfold mm_lo; rw [kJ9_max_7cf53]

theorem kJ9_min_7cf53 : mm_rec 167 = (cJ9_min_7cf53, yJ9_min_7cf53, 2, (some .int), 10, 2, 0, 0, 519, 62) := rfl
theorem kcJ9_min_7cf53 : mm_code 167 = cJ9_min_7cf53 := by unfold mm_code; rw [kJ9_min_7cf53]
theorem kmJ9_min_7cf53 : mm_maxL 167 = 2 := by unfold mm_maxL; rw [kJ9_min_7cf53]
theorem krJ9_min_7cf53 : mm_ret 167 = (some .int) := by unfold mm_ret; rw [kJ9_min_7cf53]
theorem knJ9_min_7cf53 : mm_cno 167 = 10 := by unfold mm_cno; rw [kJ9_min_7cf53]
theorem kpJ9_min_7cf53 : mm_np 167 = 2 := by unfold mm_np; rw [kJ9_min_7cf53]
theorem kfJ9_min_7cf53 : mm_fr 167 = 0 := by unfold mm_fr; rw [kJ9_min_7cf53]
theorem klJ9_min_7cf53 : mm_lo 167 = 0 := by unfold mm_lo; rw [kJ9_min_7cf53]

theorem kJ7_fill_53178 : mm_rec 168 = (cJ7_fill_53178, yJ7_fill_53178, 4, none, 9, 2, 0, 0, 413, 61) := rfl
theorem kcJ7_fill_53178 : mm_code 168 = cJ7_fill_53178 := by unfold mm_code; rw [kJ7_fill_53178]
theorem kmJ7_fill_53178 : mm_maxL 168 = 4 := by unfold mm_maxL; rw [kJ7_fill_53178]
theorem krJ7_fill_53178 : mm_ret 168 = none := by unfold mm_ret; rw [kJ7_fill_53178]
theorem knJ7_fill_53178 : mm_cno 168 = 9 := by unfold mm_cno; rw [kJ7_fill_53178]
theorem kpJ7_fill_53178 : mm_np 168 = 2 := by unfold mm_np; rw [kJ7_fill_53178]
theorem kfJ7_fill_53178 : mm_fr 168 = 0 := by unfold mm_fr; rw [kJ7_fill_53178]
theorem klJ7_fill_53178 : mm_lo 168 = 0 := by unfold mm_lo; rw [kJ7_fill_53178]

theorem f_0_18 : mm_fld 0 18 = some ((0, 18), (0, 2, false, 185)) := by decide +kernel
theorem f_0_9 : mm_fld 0 9 = some ((0, 9), (0, 0, false, 183)) := by decide +kernel
theorem f_0_15 : mm_fld 0 15 = some ((0, 15), (0, 1, false, 184)) := by decide +kernel
theorem f_0_39 : mm_fld 0 39 = some ((0, 39), (2, 0, true, 82)) := by decide +kernel
theorem f_1_11 : mm_fld 1 11 = some ((1, 11), (1, 0, false, 111)) := by decide +kernel
theorem f_1_15 : mm_fld 1 15 = some ((1, 15), (1, 1, false, 113)) := by decide +kernel
theorem f_1_25 : mm_fld 1 25 = some ((1, 25), (2, 0, true, 80)) := by decide +kernel
theorem f_1_30 : mm_fld 1 30 = some ((1, 30), (2, 1, true, 86)) := by decide +kernel
theorem f_1_33 : mm_fld 1 33 = some ((1, 33), (2, 2, true, 90)) := by decide +kernel
theorem f_1_34 : mm_fld 1 34 = some ((1, 34), (2, 3, true, 94)) := by decide +kernel
theorem f_2_9 : mm_fld 2 9 = some ((2, 9), (2, 0, false, 77)) := by decide +kernel
theorem f_2_18 : mm_fld 2 18 = some ((2, 18), (2, 2, false, 88)) := by decide +kernel
theorem f_2_15 : mm_fld 2 15 = some ((2, 15), (2, 1, false, 84)) := by decide +kernel
theorem f_2_21 : mm_fld 2 21 = some ((2, 21), (2, 3, false, 93)) := by decide +kernel
theorem f_3_9 : mm_fld 3 9 = some ((3, 9), (3, 0, false, 199)) := by decide +kernel
theorem f_3_18 : mm_fld 3 18 = some ((3, 18), (3, 2, false, 202)) := by decide +kernel
theorem f_3_22 : mm_fld 3 22 = some ((3, 22), (3, 3, false, 203)) := by decide +kernel
theorem f_3_15 : mm_fld 3 15 = some ((3, 15), (3, 1, false, 201)) := by decide +kernel
theorem f_3_63 : mm_fld 3 63 = some ((3, 63), (2, 0, true, 83)) := by decide +kernel
theorem f_3_73 : mm_fld 3 73 = some ((3, 73), (2, 2, true, 91)) := by decide +kernel
theorem f_5_21 : mm_fld 5 21 = some ((5, 21), (4, 3, false, 161)) := by decide +kernel
theorem f_5_24 : mm_fld 5 24 = some ((5, 24), (4, 4, false, 162)) := by decide +kernel
theorem f_5_27 : mm_fld 5 27 = some ((5, 27), (4, 5, false, 163)) := by decide +kernel
theorem f_5_36 : mm_fld 5 36 = some ((5, 36), (2, 2, true, 89)) := by decide +kernel
theorem f_5_50 : mm_fld 5 50 = some ((5, 50), (2, 0, true, 81)) := by decide +kernel
theorem f_5_18 : mm_fld 5 18 = some ((5, 18), (4, 2, false, 159)) := by decide +kernel
theorem f_5_9 : mm_fld 5 9 = some ((5, 9), (4, 0, false, 155)) := by decide +kernel
theorem f_5_15 : mm_fld 5 15 = some ((5, 15), (4, 1, false, 157)) := by decide +kernel
theorem f_6_34 : mm_fld 6 34 = some ((6, 34), (2, 0, true, 78)) := by decide +kernel
theorem f_6_9 : mm_fld 6 9 = some ((6, 9), (5, 0, false, 125)) := by decide +kernel
theorem f_6_37 : mm_fld 6 37 = some ((6, 37), (2, 1, true, 85)) := by decide +kernel
theorem f_6_15 : mm_fld 6 15 = some ((6, 15), (5, 1, false, 126)) := by decide +kernel
theorem f_6_25 : mm_fld 6 25 = some ((6, 25), (5, 4, false, 129)) := by decide +kernel
theorem f_6_28 : mm_fld 6 28 = some ((6, 28), (5, 5, false, 131)) := by decide +kernel
theorem f_6_18 : mm_fld 6 18 = some ((6, 18), (5, 2, false, 127)) := by decide +kernel
theorem f_6_22 : mm_fld 6 22 = some ((6, 22), (5, 3, false, 128)) := by decide +kernel
theorem f_6_31 : mm_fld 6 31 = some ((6, 31), (5, 6, false, 133)) := by decide +kernel
theorem f_7_10 : mm_fld 7 10 = some ((7, 10), (6, 0, false, 213)) := by decide +kernel
theorem f_7_65 : mm_fld 7 65 = some ((7, 65), (2, 0, true, 79)) := by decide +kernel
theorem f_7_25 : mm_fld 7 25 = some ((7, 25), (6, 3, false, 216)) := by decide +kernel
theorem f_7_110 : mm_fld 7 110 = some ((7, 110), (2, 2, true, 92)) := by decide +kernel
theorem f_7_16 : mm_fld 7 16 = some ((7, 16), (6, 1, false, 214)) := by decide +kernel
theorem f_7_19 : mm_fld 7 19 = some ((7, 19), (6, 2, false, 215)) := by decide +kernel
theorem f_7_153 : mm_fld 7 153 = some ((7, 153), (2, 1, true, 87)) := by decide +kernel
theorem f_7_53 : mm_fld 7 53 = some ((7, 53), (6, 7, false, 220)) := by decide +kernel
theorem f_7_160 : mm_fld 7 160 = some ((7, 160), (1, 0, true, 112)) := by decide +kernel
theorem f_7_164 : mm_fld 7 164 = some ((7, 164), (3, 0, true, 200)) := by decide +kernel
theorem f_7_32 : mm_fld 7 32 = some ((7, 32), (6, 4, false, 217)) := by decide +kernel
theorem f_7_189 : mm_fld 7 189 = some ((7, 189), (5, 4, true, 130)) := by decide +kernel
theorem f_7_192 : mm_fld 7 192 = some ((7, 192), (5, 5, true, 132)) := by decide +kernel
theorem f_7_57 : mm_fld 7 57 = some ((7, 57), (6, 8, false, 221)) := by decide +kernel
theorem f_7_39 : mm_fld 7 39 = some ((7, 39), (6, 5, false, 218)) := by decide +kernel
theorem f_7_221 : mm_fld 7 221 = some ((7, 221), (4, 2, true, 160)) := by decide +kernel
theorem f_7_224 : mm_fld 7 224 = some ((7, 224), (4, 0, true, 156)) := by decide +kernel
theorem f_7_227 : mm_fld 7 227 = some ((7, 227), (4, 1, true, 158)) := by decide +kernel
theorem f_7_46 : mm_fld 7 46 = some ((7, 46), (6, 6, false, 219)) := by decide +kernel
theorem f_8_7 : mm_fld 8 7 = some ((8, 7), (7, 0, false, 679)) := by decide +kernel
theorem f_8_36 : mm_fld 8 36 = some ((8, 36), (7, 2, false, 681)) := by decide +kernel
theorem f_8_13 : mm_fld 8 13 = some ((8, 13), (7, 1, false, 680)) := by decide +kernel
theorem f_8_29 : mm_fld 8 29 = some ((8, 29), (7, 9, false, 688)) := by decide +kernel
theorem f_8_26 : mm_fld 8 26 = some ((8, 26), (7, 8, false, 687)) := by decide +kernel
theorem f_8_16 : mm_fld 8 16 = some ((8, 16), (7, 3, false, 682)) := by decide +kernel
theorem f_8_88 : mm_fld 8 88 = some ((8, 88), (7, 5, false, 684)) := by decide +kernel
theorem f_8_19 : mm_fld 8 19 = some ((8, 19), (7, 4, false, 683)) := by decide +kernel
theorem f_8_132 : mm_fld 8 132 = some ((8, 132), (7, 6, false, 685)) := by decide +kernel
theorem f_8_23 : mm_fld 8 23 = some ((8, 23), (7, 7, false, 686)) := by decide +kernel
theorem q_0_21 : mm_cll 0 21 = some ((0, 21), (1, 168, 0, 641, 412, 61, 0)) := rfl
theorem q_0_27 : mm_cll 0 27 = some ((0, 27), (0, 14, 2, 646, 513, 514, 52)) := rfl
theorem q_0_33 : mm_cll 0 33 = some ((0, 33), (1, 45, 0, 647, 381, 60, 0)) := rfl
theorem q_0_43 : mm_cll 0 43 = some ((0, 43), (1, 166, 0, 648, 558, 62, 0)) := rfl
theorem q_0_49 : mm_cll 0 49 = some ((0, 49), (1, 44, 0, 649, 378, 60, 0)) := rfl
theorem q_0_52 : mm_cll 0 52 = some ((0, 52), (1, 41, 0, 650, 651, 60, 0)) := rfl
theorem q_1_19 : mm_cll 1 19 = some ((1, 19), (3, 0, 0, 252, 254, 253, 59)) := rfl
theorem q_2_25 : mm_cll 2 25 = some ((2, 25), (3, 0, 0, 397, 254, 253, 59)) := rfl
theorem q_2_31 : mm_cll 2 31 = some ((2, 31), (1, 33, 0, 285, 286, 60, 0)) := rfl
theorem q_2_37 : mm_cll 2 37 = some ((2, 37), (1, 40, 0, 288, 289, 60, 0)) := rfl
theorem q_2_40 : mm_cll 2 40 = some ((2, 40), (1, 34, 0, 295, 296, 60, 0)) := rfl
theorem q_2_43 : mm_cll 2 43 = some ((2, 43), (0, 8, 2, 485, 350, 351, 52)) := rfl
theorem q_2_46 : mm_cll 2 46 = some ((2, 46), (1, 36, 0, 486, 363, 60, 0)) := rfl
theorem q_2_49 : mm_cll 2 49 = some ((2, 49), (0, 12, 2, 498, 482, 483, 52)) := rfl
theorem q_2_52 : mm_cll 2 52 = some ((2, 52), (1, 168, 0, 516, 412, 61, 0)) := rfl
theorem q_2_58 : mm_cll 2 58 = some ((2, 58), (1, 167, 0, 517, 518, 62, 0)) := rfl
theorem q_3_25 : mm_cll 3 25 = some ((3, 25), (0, 6, 2, 410, 346, 347, 52)) := rfl
theorem q_3_31 : mm_cll 3 31 = some ((3, 31), (1, 168, 0, 411, 412, 61, 0)) := rfl
theorem q_3_37 : mm_cll 3 37 = some ((3, 37), (0, 17, 3, 414, 416, 5, 57)) := rfl
theorem q_3_41 : mm_cll 3 41 = some ((3, 41), (0, 25, 3, 418, 420, 6, 57)) := rfl
theorem q_3_45 : mm_cll 3 45 = some ((3, 45), (2, 91, 0, 426, 307, 51, 0)) := rfl
theorem q_3_49 : mm_cll 3 49 = some ((3, 49), (0, 26, 3, 427, 429, 8, 57)) := rfl
theorem q_3_52 : mm_cll 3 52 = some ((3, 52), (0, 20, 3, 431, 433, 9, 57)) := rfl
theorem q_3_56 : mm_cll 3 56 = some ((3, 56), (0, 24, 3, 442, 444, 11, 57)) := rfl
theorem q_3_59 : mm_cll 3 59 = some ((3, 59), (1, 18, 0, 455, 456, 57, 0)) := rfl
theorem q_3_66 : mm_cll 3 66 = some ((3, 66), (1, 19, 0, 459, 460, 57, 0)) := rfl
theorem q_3_70 : mm_cll 3 70 = some ((3, 70), (1, 35, 0, 458, 293, 60, 0)) := rfl
theorem q_3_74 : mm_cll 3 74 = some ((3, 74), (0, 10, 2, 462, 299, 300, 52)) := rfl
theorem q_3_77 : mm_cll 3 77 = some ((3, 77), (0, 21, 3, 435, 437, 10, 57)) := rfl
theorem q_3_81 : mm_cll 3 81 = some ((3, 81), (1, 29, 0, 448, 310, 60, 0)) := rfl
theorem q_3_84 : mm_cll 3 84 = some ((3, 84), (0, 22, 3, 449, 451, 12, 57)) := rfl
theorem q_3_87 : mm_cll 3 87 = some ((3, 87), (1, 31, 0, 454, 324, 60, 0)) := rfl
theorem q_3_90 : mm_cll 3 90 = some ((3, 90), (1, 23, 0, 439, 440, 57, 0)) := rfl
theorem q_3_93 : mm_cll 3 93 = some ((3, 93), (2, 89, 0, 446, 246, 51, 0)) := rfl
theorem q_3_97 : mm_cll 3 97 = some ((3, 97), (1, 28, 0, 447, 272, 60, 0)) := rfl
theorem q_3_101 : mm_cll 3 101 = some ((3, 101), (1, 30, 0, 453, 317, 60, 0)) := rfl
theorem q_3_105 : mm_cll 3 105 = some ((3, 105), (0, 27, 3, 422, 424, 7, 57)) := rfl
theorem q_4_11 : mm_cll 4 11 = some ((4, 11), (1, 32, 0, 274, 275, 60, 0)) := rfl
theorem q_4_15 : mm_cll 4 15 = some ((4, 15), (1, 33, 0, 291, 286, 60, 0)) := rfl
theorem q_4_19 : mm_cll 4 19 = some ((4, 19), (1, 35, 0, 292, 293, 60, 0)) := rfl
theorem q_4_22 : mm_cll 4 22 = some ((4, 22), (1, 34, 0, 361, 296, 60, 0)) := rfl
theorem q_4_25 : mm_cll 4 25 = some ((4, 25), (1, 36, 0, 362, 363, 60, 0)) := rfl
theorem q_4_28 : mm_cll 4 28 = some ((4, 28), (1, 37, 0, 365, 366, 60, 0)) := rfl
theorem q_4_31 : mm_cll 4 31 = some ((4, 31), (1, 38, 0, 368, 369, 60, 0)) := rfl
theorem q_4_34 : mm_cll 4 34 = some ((4, 34), (1, 39, 0, 371, 372, 60, 0)) := rfl
theorem q_4_37 : mm_cll 4 37 = some ((4, 37), (1, 45, 0, 380, 381, 60, 0)) := rfl
theorem q_4_40 : mm_cll 4 40 = some ((4, 40), (1, 46, 0, 383, 384, 60, 0)) := rfl
theorem q_5_30 : mm_cll 5 30 = some ((5, 30), (1, 168, 0, 589, 412, 61, 0)) := rfl
theorem q_5_42 : mm_cll 5 42 = some ((5, 42), (0, 8, 2, 590, 350, 351, 52)) := rfl
theorem q_5_46 : mm_cll 5 46 = some ((5, 46), (0, 48, 4, 591, 593, 15, 55)) := rfl
theorem q_5_53 : mm_cll 5 53 = some ((5, 53), (1, 164, 0, 603, 604, 62, 0)) := rfl
theorem q_5_59 : mm_cll 5 59 = some ((5, 59), (0, 50, 4, 606, 608, 17, 55)) := rfl
theorem q_5_63 : mm_cll 5 63 = some ((5, 63), (1, 40, 0, 595, 289, 60, 0)) := rfl
theorem q_5_68 : mm_cll 5 68 = some ((5, 68), (1, 36, 0, 596, 363, 60, 0)) := rfl
theorem q_5_71 : mm_cll 5 71 = some ((5, 71), (1, 39, 0, 597, 372, 60, 0)) := rfl
theorem q_5_74 : mm_cll 5 74 = some ((5, 74), (0, 49, 4, 598, 600, 16, 55)) := rfl
theorem q_5_78 : mm_cll 5 78 = some ((5, 78), (1, 34, 0, 602, 296, 60, 0)) := rfl
theorem q_5_81 : mm_cll 5 81 = some ((5, 81), (1, 37, 0, 610, 366, 60, 0)) := rfl
theorem q_5_84 : mm_cll 5 84 = some ((5, 84), (1, 33, 0, 611, 286, 60, 0)) := rfl
theorem q_5_93 : mm_cll 5 93 = some ((5, 93), (1, 165, 0, 624, 625, 62, 0)) := rfl
theorem q_5_96 : mm_cll 5 96 = some ((5, 96), (1, 166, 0, 627, 558, 62, 0)) := rfl
theorem q_6_38 : mm_cll 6 38 = some ((6, 38), (1, 168, 0, 507, 412, 61, 0)) := rfl
theorem q_6_44 : mm_cll 6 44 = some ((6, 44), (0, 53, 5, 508, 510, 13, 54)) := rfl
theorem q_6_48 : mm_cll 6 48 = some ((6, 48), (0, 55, 5, 524, 526, 14, 54)) := rfl
theorem q_6_51 : mm_cll 6 51 = some ((6, 51), (0, 14, 2, 512, 513, 514, 52)) := rfl
theorem q_6_55 : mm_cll 6 55 = some ((6, 55), (1, 54, 0, 520, 521, 54, 0)) := rfl
theorem q_6_59 : mm_cll 6 59 = some ((6, 59), (1, 36, 0, 523, 363, 60, 0)) := rfl
theorem q_6_65 : mm_cll 6 65 = some ((6, 65), (0, 56, 5, 552, 537, 538, 54)) := rfl
theorem q_6_68 : mm_cll 6 68 = some ((6, 68), (1, 166, 0, 557, 558, 62, 0)) := rfl
theorem q_7_61 : mm_cll 7 61 = some ((7, 61), (1, 89, 0, 245, 246, 51, 0)) := rfl
theorem q_7_69 : mm_cll 7 69 = some ((7, 69), (0, 3, 1, 248, 249, 250, 53)) := rfl
theorem q_7_73 : mm_cll 7 73 = some ((7, 73), (0, 5, 2, 255, 256, 257, 52)) := rfl
theorem q_7_77 : mm_cll 7 77 = some ((7, 77), (0, 93, 6, 263, 265, 0, 51)) := rfl
theorem q_7_81 : mm_cll 7 81 = some ((7, 81), (1, 28, 0, 271, 272, 60, 0)) := rfl
theorem q_7_87 : mm_cll 7 87 = some ((7, 87), (0, 95, 6, 277, 279, 2, 51)) := rfl
theorem q_7_91 : mm_cll 7 91 = some ((7, 91), (1, 91, 0, 306, 307, 51, 0)) := rfl
theorem q_7_95 : mm_cll 7 95 = some ((7, 95), (0, 92, 6, 267, 269, 1, 51)) := rfl
theorem q_7_98 : mm_cll 7 98 = some ((7, 98), (1, 29, 0, 309, 310, 60, 0)) := rfl
theorem q_7_102 : mm_cll 7 102 = some ((7, 102), (1, 30, 0, 316, 317, 60, 0)) := rfl
theorem q_7_106 : mm_cll 7 106 = some ((7, 106), (1, 31, 0, 323, 324, 60, 0)) := rfl
theorem q_7_113 : mm_cll 7 113 = some ((7, 113), (0, 11, 2, 330, 331, 332, 52)) := rfl
theorem q_7_116 : mm_cll 7 116 = some ((7, 116), (0, 94, 6, 338, 340, 3, 51)) := rfl
theorem q_7_119 : mm_cll 7 119 = some ((7, 119), (1, 90, 0, 342, 343, 51, 0)) := rfl
theorem q_7_122 : mm_cll 7 122 = some ((7, 122), (0, 6, 2, 345, 346, 347, 52)) := rfl
theorem q_7_125 : mm_cll 7 125 = some ((7, 125), (0, 8, 2, 349, 350, 351, 52)) := rfl
theorem q_7_128 : mm_cll 7 128 = some ((7, 128), (1, 96, 0, 353, 354, 51, 0)) := rfl
theorem q_7_131 : mm_cll 7 131 = some ((7, 131), (1, 40, 0, 357, 289, 60, 0)) := rfl
theorem q_7_134 : mm_cll 7 134 = some ((7, 134), (1, 33, 0, 356, 286, 60, 0)) := rfl
theorem q_7_137 : mm_cll 7 137 = some ((7, 137), (1, 42, 0, 358, 359, 60, 0)) := rfl
theorem q_7_140 : mm_cll 7 140 = some ((7, 140), (1, 97, 0, 374, 375, 51, 0)) := rfl
theorem q_7_143 : mm_cll 7 143 = some ((7, 143), (0, 10, 2, 298, 299, 300, 52)) := rfl
theorem q_7_146 : mm_cll 7 146 = some ((7, 146), (0, 98, 6, 389, 391, 4, 51)) := rfl
theorem q_7_150 : mm_cll 7 150 = some ((7, 150), (0, 7, 2, 393, 394, 395, 52)) := rfl
theorem q_7_156 : mm_cll 7 156 = some ((7, 156), (0, 16, 3, 406, 407, 408, 57)) := rfl
theorem q_7_161 : mm_cll 7 161 = some ((7, 161), (0, 4, 1, 467, 468, 469, 53)) := rfl
theorem q_7_165 : mm_cll 7 165 = some ((7, 165), (1, 36, 0, 479, 363, 60, 0)) := rfl
theorem q_7_168 : mm_cll 7 168 = some ((7, 168), (1, 34, 0, 480, 296, 60, 0)) := rfl
theorem q_7_171 : mm_cll 7 171 = some ((7, 171), (0, 12, 2, 481, 482, 483, 52)) := rfl
theorem q_7_174 : mm_cll 7 174 = some ((7, 174), (1, 37, 0, 487, 366, 60, 0)) := rfl
theorem q_7_177 : mm_cll 7 177 = some ((7, 177), (1, 38, 0, 488, 369, 60, 0)) := rfl
theorem q_7_180 : mm_cll 7 180 = some ((7, 180), (1, 39, 0, 489, 372, 60, 0)) := rfl
theorem q_7_183 : mm_cll 7 183 = some ((7, 183), (0, 13, 2, 494, 495, 496, 52)) := rfl
theorem q_7_186 : mm_cll 7 186 = some ((7, 186), (0, 52, 5, 503, 504, 505, 54)) := rfl
theorem q_7_195 : mm_cll 7 195 = some ((7, 195), (0, 56, 5, 536, 537, 538, 54)) := rfl
theorem q_7_198 : mm_cll 7 198 = some ((7, 198), (0, 57, 5, 548, 549, 550, 54)) := rfl
theorem q_7_202 : mm_cll 7 202 = some ((7, 202), (0, 59, 5, 553, 554, 555, 54)) := rfl
theorem q_7_205 : mm_cll 7 205 = some ((7, 205), (0, 60, 5, 560, 561, 562, 54)) := rfl
theorem q_7_208 : mm_cll 7 208 = some ((7, 208), (0, 58, 5, 564, 565, 566, 54)) := rfl
theorem q_7_211 : mm_cll 7 211 = some ((7, 211), (0, 61, 5, 572, 573, 574, 54)) := rfl
theorem q_7_214 : mm_cll 7 214 = some ((7, 214), (0, 14, 2, 580, 513, 514, 52)) := rfl
theorem q_7_218 : mm_cll 7 218 = some ((7, 218), (0, 47, 4, 585, 586, 587, 55)) := rfl
theorem q_7_230 : mm_cll 7 230 = some ((7, 230), (0, 51, 4, 620, 621, 622, 55)) := rfl
theorem q_7_233 : mm_cll 7 233 = some ((7, 233), (1, 166, 0, 632, 558, 62, 0)) := rfl
theorem q_7_238 : mm_cll 7 238 = some ((7, 238), (0, 0, 0, 637, 638, 639, 56)) := rfl
theorem q_7_241 : mm_cll 7 241 = some ((7, 241), (0, 1, 0, 642, 643, 644, 56)) := rfl
theorem q_7_245 : mm_cll 7 245 = some ((7, 245), (0, 2, 0, 653, 654, 655, 56)) := rfl
theorem q_7_248 : mm_cll 7 248 = some ((7, 248), (0, 15, 3, 661, 662, 663, 57)) := rfl
theorem q_7_251 : mm_cll 7 251 = some ((7, 251), (0, 9, 2, 281, 282, 283, 52)) := rfl
theorem q_7_254 : mm_cll 7 254 = some ((7, 254), (1, 44, 0, 377, 378, 60, 0)) := rfl
theorem q_7_257 : mm_cll 7 257 = some ((7, 257), (1, 43, 0, 386, 387, 60, 0)) := rfl
theorem q_8_32 : mm_cll 8 32 = some ((8, 32), (1, 99, 0, 715, 716, 58, 0)) := rfl
theorem q_8_40 : mm_cll 8 40 = some ((8, 40), (0, 105, 7, 742, 744, 23, 58)) := rfl
theorem q_8_43 : mm_cll 8 43 = some ((8, 43), (0, 106, 7, 746, 748, 24, 58)) := rfl
theorem q_8_47 : mm_cll 8 47 = some ((8, 47), (0, 107, 7, 738, 740, 22, 58)) := rfl
theorem q_8_50 : mm_cll 8 50 = some ((8, 50), (0, 103, 7, 718, 720, 18, 58)) := rfl
theorem q_8_53 : mm_cll 8 53 = some ((8, 53), (0, 108, 7, 750, 752, 25, 58)) := rfl
theorem q_8_57 : mm_cll 8 57 = some ((8, 57), (0, 100, 7, 730, 732, 20, 58)) := rfl
theorem q_8_61 : mm_cll 8 61 = some ((8, 61), (0, 110, 7, 726, 728, 19, 58)) := rfl
theorem q_8_65 : mm_cll 8 65 = some ((8, 65), (0, 109, 7, 734, 736, 21, 58)) := rfl
theorem q_8_68 : mm_cll 8 68 = some ((8, 68), (1, 101, 0, 758, 759, 58, 0)) := rfl
theorem q_8_71 : mm_cll 8 71 = some ((8, 71), (0, 102, 7, 773, 775, 26, 58)) := rfl
theorem q_8_74 : mm_cll 8 74 = some ((8, 74), (0, 104, 7, 785, 787, 28, 58)) := rfl
theorem q_8_78 : mm_cll 8 78 = some ((8, 78), (1, 117, 0, 789, 790, 58, 0)) := rfl
theorem q_8_81 : mm_cll 8 81 = some ((8, 81), (1, 118, 0, 792, 793, 58, 0)) := rfl
theorem q_8_84 : mm_cll 8 84 = some ((8, 84), (0, 119, 7, 781, 783, 27, 58)) := rfl
theorem q_8_91 : mm_cll 8 91 = some ((8, 91), (0, 126, 7, 823, 825, 30, 58)) := rfl
theorem q_8_94 : mm_cll 8 94 = some ((8, 94), (0, 128, 7, 835, 837, 32, 58)) := rfl
theorem q_8_97 : mm_cll 8 97 = some ((8, 97), (0, 127, 7, 819, 821, 29, 58)) := rfl
theorem q_8_100 : mm_cll 8 100 = some ((8, 100), (0, 129, 7, 831, 833, 31, 58)) := rfl
theorem q_8_103 : mm_cll 8 103 = some ((8, 103), (0, 130, 7, 847, 849, 34, 58)) := rfl
theorem q_8_106 : mm_cll 8 106 = some ((8, 106), (0, 131, 7, 843, 845, 33, 58)) := rfl
theorem q_8_109 : mm_cll 8 109 = some ((8, 109), (0, 136, 7, 863, 856, 857, 58)) := rfl
theorem q_8_112 : mm_cll 8 112 = some ((8, 112), (0, 139, 7, 872, 874, 35, 58)) := rfl
theorem q_8_115 : mm_cll 8 115 = some ((8, 115), (1, 140, 0, 880, 881, 58, 0)) := rfl
theorem q_8_119 : mm_cll 8 119 = some ((8, 119), (0, 141, 7, 883, 885, 37, 58)) := rfl
theorem q_8_122 : mm_cll 8 122 = some ((8, 122), (0, 142, 7, 876, 878, 36, 58)) := rfl
theorem q_8_125 : mm_cll 8 125 = some ((8, 125), (1, 145, 0, 895, 896, 58, 0)) := rfl
theorem q_8_128 : mm_cll 8 128 = some ((8, 128), (0, 147, 7, 902, 904, 38, 58)) := rfl
theorem q_8_135 : mm_cll 8 135 = some ((8, 135), (0, 151, 7, 934, 936, 43, 58)) := rfl
theorem q_8_139 : mm_cll 8 139 = some ((8, 139), (0, 153, 7, 930, 932, 42, 58)) := rfl
theorem q_8_142 : mm_cll 8 142 = some ((8, 142), (0, 154, 7, 946, 948, 46, 58)) := rfl
theorem q_8_145 : mm_cll 8 145 = some ((8, 145), (0, 155, 7, 950, 952, 47, 58)) := rfl
theorem q_8_149 : mm_cll 8 149 = some ((8, 149), (0, 152, 7, 938, 940, 44, 58)) := rfl
theorem q_8_152 : mm_cll 8 152 = some ((8, 152), (0, 156, 7, 942, 944, 45, 58)) := rfl
theorem q_8_155 : mm_cll 8 155 = some ((8, 155), (0, 157, 7, 954, 956, 48, 58)) := rfl
theorem q_8_158 : mm_cll 8 158 = some ((8, 158), (0, 158, 7, 926, 928, 41, 58)) := rfl
theorem q_8_162 : mm_cll 8 162 = some ((8, 162), (0, 160, 7, 918, 920, 39, 58)) := rfl
theorem q_8_165 : mm_cll 8 165 = some ((8, 165), (0, 159, 7, 922, 924, 40, 58)) := rfl
theorem q_8_168 : mm_cll 8 168 = some ((8, 168), (0, 161, 7, 958, 960, 49, 58)) := rfl
theorem q_8_171 : mm_cll 8 171 = some ((8, 171), (0, 162, 7, 966, 915, 916, 58)) := rfl
theorem t_5_87 : mm_stt 5 87 = some ((5, 87), (true, 612)) := by decide +kernel
theorem t_5_90 : mm_stt 5 90 = some ((5, 90), (false, 614)) := by decide +kernel
theorem mm_roomy_of {j k na : Nat} {r : List mm_V} (h1 : Nat.ble (mm_fr k + 1) (mm_fr j) = true) (h2 : Nat.ble (8 + (mm_maxL k + 11) + mm_lo k) (mm_lo j) = true) (h3 : Nat.ble na (mm_maxL k) = true) (h4 : Nat.ble r.length 8 = true) : mm_roomy j k na r = true := by simp only [mm_roomy, h1, h2, h3, h4, Bool.and_self]
theorem yX0_begin_J7_fill_53178 {na : Nat} {r : List mm_V} (h3 : Nat.ble na 4 = true) (h4 : Nat.ble r.length 8 = true) : mm_roomy 0 168 na r = true := mm_roomy_of (by rw [kfJ7_fill_53178, kfX0_begin]; rfl) (by rw [kmJ7_fill_53178, klJ7_fill_53178, klX0_begin]; rfl) (by rw [kmJ7_fill_53178]; exact h3) h4
theorem yX0_compare_J9_max_7cf53 {na : Nat} {r : List mm_V} (h3 : Nat.ble na 2 = true) (h4 : Nat.ble r.length 8 = true) : mm_roomy 1 166 na r = true := mm_roomy_of (by rw [kfJ9_max_7cf53, kfX0_compare]; rfl) (by rw [kmJ9_max_7cf53, klJ9_max_7cf53, klX0_compare]; rfl) (by rw [kmJ9_max_7cf53]; exact h3) h4
theorem yX0_compare_X2_fillRow {na : Nat} {r : List mm_V} (h3 : Nat.ble na 6 = true) (h4 : Nat.ble r.length 8 = true) : mm_roomy 1 14 na r = true := mm_roomy_of (by rw [kfX2_fillRow, kfX0_compare]; rfl) (by rw [kmX2_fillRow, klX2_fillRow, klX0_compare]; rfl) (by rw [kmX2_fillRow]; exact h3) h4
theorem yX0_compare_X4_lookOf {na : Nat} {r : List mm_V} (h3 : Nat.ble na 1 = true) (h4 : Nat.ble r.length 8 = true) : mm_roomy 1 41 na r = true := mm_roomy_of (by rw [kfX4_lookOf, kfX0_compare]; rfl) (by rw [kmX4_lookOf, klX4_lookOf, klX0_compare]; rfl) (by rw [kmX4_lookOf]; exact h3) h4
theorem yX0_compare_X4_mirrored {na : Nat} {r : List mm_V} (h3 : Nat.ble na 1 = true) (h4 : Nat.ble r.length 8 = true) : mm_roomy 1 44 na r = true := mm_roomy_of (by rw [kfX4_mirrored, kfX0_compare]; rfl) (by rw [kmX4_mirrored, klX4_mirrored, klX0_compare]; rfl) (by rw [kmX4_mirrored]; exact h3) h4
theorem yX0_compare_X4_mirroredColumn {na : Nat} {r : List mm_V} (h3 : Nat.ble na 1 = true) (h4 : Nat.ble r.length 8 = true) : mm_roomy 1 45 na r = true := mm_roomy_of (by rw [kfX4_mirroredColumn, kfX0_compare]; rfl) (by rw [kmX4_mirroredColumn, klX4_mirroredColumn, klX0_compare]; rfl) (by rw [kmX4_mirroredColumn]; exact h3) h4
theorem yX2_endOf_X2_at {na : Nat} {r : List mm_V} (h3 : Nat.ble na 2 = true) (h4 : Nat.ble r.length 8 = true) : mm_roomy 12 8 na r = true := mm_roomy_of (by rw [kfX2_at, kfX2_endOf]; rfl) (by rw [kmX2_at, klX2_at, klX2_endOf]; rfl) (by rw [kmX2_at]; exact h3) h4
theorem yX2_endOf_X4_beginOf {na : Nat} {r : List mm_V} (h3 : Nat.ble na 1 = true) (h4 : Nat.ble r.length 8 = true) : mm_roomy 12 33 na r = true := mm_roomy_of (by rw [kfX4_beginOf, kfX2_endOf]; rfl) (by rw [kmX4_beginOf, klX4_beginOf, klX2_endOf]; rfl) (by rw [kmX4_beginOf]; exact h3) h4
theorem yX2_endOf_X4_columnOf {na : Nat} {r : List mm_V} (h3 : Nat.ble na 1 = true) (h4 : Nat.ble r.length 8 = true) : mm_roomy 12 34 na r = true := mm_roomy_of (by rw [kfX4_columnOf, kfX2_endOf]; rfl) (by rw [kmX4_columnOf, klX4_columnOf, klX2_endOf]; rfl) (by rw [kmX4_columnOf]; exact h3) h4
theorem yX2_endOf_X4_kindOf {na : Nat} {r : List mm_V} (h3 : Nat.ble na 1 = true) (h4 : Nat.ble r.length 8 = true) : mm_roomy 12 36 na r = true := mm_roomy_of (by rw [kfX4_kindOf, kfX2_endOf]; rfl) (by rw [kmX4_kindOf, klX4_kindOf, klX2_endOf]; rfl) (by rw [kmX4_kindOf]; exact h3) h4
theorem yX2_endOf_X4_shortEndOf {na : Nat} {r : List mm_V} (h3 : Nat.ble na 1 = true) (h4 : Nat.ble r.length 8 = true) : mm_roomy 12 40 na r = true := mm_roomy_of (by rw [kfX4_shortEndOf, kfX2_endOf]; rfl) (by rw [kmX4_shortEndOf, klX4_shortEndOf, klX2_endOf]; rfl) (by rw [kmX4_shortEndOf]; exact h3) h4
theorem yX2_fillRow_J7_fill_53178 {na : Nat} {r : List mm_V} (h3 : Nat.ble na 4 = true) (h4 : Nat.ble r.length 8 = true) : mm_roomy 14 168 na r = true := mm_roomy_of (by rw [kfJ7_fill_53178, kfX2_fillRow]; rfl) (by rw [kmJ7_fill_53178, klJ7_fill_53178, klX2_fillRow]; rfl) (by rw [kmJ7_fill_53178]; exact h3) h4
theorem yX2_fillRow_J9_min_7cf53 {na : Nat} {r : List mm_V} (h3 : Nat.ble na 2 = true) (h4 : Nat.ble r.length 8 = true) : mm_roomy 14 167 na r = true := mm_roomy_of (by rw [kfJ9_min_7cf53, kfX2_fillRow]; rfl) (by rw [kmJ9_min_7cf53, klJ9_min_7cf53, klX2_fillRow]; rfl) (by rw [kmJ9_min_7cf53]; exact h3) h4
theorem yX2_fillRow_X2_endOf {na : Nat} {r : List mm_V} (h3 : Nat.ble na 4 = true) (h4 : Nat.ble r.length 8 = true) : mm_roomy 14 12 na r = true := mm_roomy_of (by rw [kfX2_endOf, kfX2_fillRow]; rfl) (by rw [kmX2_endOf, klX2_endOf, klX2_fillRow]; rfl) (by rw [kmX2_endOf]; exact h3) h4
theorem yX2_fillRow_X4_beginOf {na : Nat} {r : List mm_V} (h3 : Nat.ble na 1 = true) (h4 : Nat.ble r.length 8 = true) : mm_roomy 14 33 na r = true := mm_roomy_of (by rw [kfX4_beginOf, kfX2_fillRow]; rfl) (by rw [kmX4_beginOf, klX4_beginOf, klX2_fillRow]; rfl) (by rw [kmX4_beginOf]; exact h3) h4
theorem yX2_fillRow_X4_columnOf {na : Nat} {r : List mm_V} (h3 : Nat.ble na 1 = true) (h4 : Nat.ble r.length 8 = true) : mm_roomy 14 34 na r = true := mm_roomy_of (by rw [kfX4_columnOf, kfX2_fillRow]; rfl) (by rw [kmX4_columnOf, klX4_columnOf, klX2_fillRow]; rfl) (by rw [kmX4_columnOf]; exact h3) h4
theorem yX2_hasRoomFor_X4_beginOf {na : Nat} {r : List mm_V} (h3 : Nat.ble na 1 = true) (h4 : Nat.ble r.length 8 = true) : mm_roomy 9 33 na r = true := mm_roomy_of (by rw [kfX4_beginOf, kfX2_hasRoomFor]; rfl) (by rw [kmX4_beginOf, klX4_beginOf, klX2_hasRoomFor]; rfl) (by rw [kmX4_beginOf]; exact h3) h4
theorem yX2_hasRoomFor_X4_columnOf {na : Nat} {r : List mm_V} (h3 : Nat.ble na 1 = true) (h4 : Nat.ble r.length 8 = true) : mm_roomy 9 34 na r = true := mm_roomy_of (by rw [kfX4_columnOf, kfX2_hasRoomFor]; rfl) (by rw [kmX4_columnOf, klX4_columnOf, klX2_hasRoomFor]; rfl) (by rw [kmX4_columnOf]; exact h3) h4
theorem yX2_hasRoomFor_X4_shortEndOf {na : Nat} {r : List mm_V} (h3 : Nat.ble na 1 = true) (h4 : Nat.ble r.length 8 = true) : mm_roomy 9 40 na r = true := mm_roomy_of (by rw [kfX4_shortEndOf, kfX2_hasRoomFor]; rfl) (by rw [kmX4_shortEndOf, klX4_shortEndOf, klX2_hasRoomFor]; rfl) (by rw [kmX4_shortEndOf]; exact h3) h4
theorem yX2_numberCovering_X2_endOf {na : Nat} {r : List mm_V} (h3 : Nat.ble na 4 = true) (h4 : Nat.ble r.length 8 = true) : mm_roomy 13 12 na r = true := mm_roomy_of (by rw [kfX2_endOf, kfX2_numberCovering]; rfl) (by rw [kmX2_endOf, klX2_endOf, klX2_numberCovering]; rfl) (by rw [kmX2_endOf]; exact h3) h4
theorem yX2_numberCovering_X4_beginOf {na : Nat} {r : List mm_V} (h3 : Nat.ble na 1 = true) (h4 : Nat.ble r.length 8 = true) : mm_roomy 13 33 na r = true := mm_roomy_of (by rw [kfX4_beginOf, kfX2_numberCovering]; rfl) (by rw [kmX4_beginOf, klX4_beginOf, klX2_numberCovering]; rfl) (by rw [kmX4_beginOf]; exact h3) h4
theorem yX2_numberCovering_X4_columnOf {na : Nat} {r : List mm_V} (h3 : Nat.ble na 1 = true) (h4 : Nat.ble r.length 8 = true) : mm_roomy 13 34 na r = true := mm_roomy_of (by rw [kfX4_columnOf, kfX2_numberCovering]; rfl) (by rw [kmX4_columnOf, klX4_columnOf, klX2_numberCovering]; rfl) (by rw [kmX4_columnOf]; exact h3) h4
theorem yX3_isTaken_X2_put {na : Nat} {r : List mm_V} (h3 : Nat.ble na 3 = true) (h4 : Nat.ble r.length 8 = true) : mm_roomy 19 10 na r = true := mm_roomy_of (by rw [kfX2_put, kfX3_isTaken]; rfl) (by rw [kmX2_put, klX2_put, klX3_isTaken]; rfl) (by rw [kmX2_put]; exact h3) h4
theorem yX3_readDigit_X3_digitAt {na : Nat} {r : List mm_V} (h3 : Nat.ble na 3 = true) (h4 : Nat.ble r.length 8 = true) : mm_roomy 25 27 na r = true := mm_roomy_of (by rw [kfX3_digitAt, kfX3_readDigit]; rfl) (by rw [kmX3_digitAt, klX3_digitAt, klX3_readDigit]; rfl) (by rw [kmX3_digitAt]; exact h3) h4
theorem yX3_readFor_J7_fill_53178 {na : Nat} {r : List mm_V} (h3 : Nat.ble na 4 = true) (h4 : Nat.ble r.length 8 = true) : mm_roomy 16 168 na r = true := mm_roomy_of (by rw [kfJ7_fill_53178, kfX3_readFor]; rfl) (by rw [kmJ7_fill_53178, klJ7_fill_53178, klX3_readFor]; rfl) (by rw [kmJ7_fill_53178]; exact h3) h4
theorem yX3_readFor_X2_emptyAs {na : Nat} {r : List mm_V} (h3 : Nat.ble na 2 = true) (h4 : Nat.ble r.length 8 = true) : mm_roomy 16 6 na r = true := mm_roomy_of (by rw [kfX2_emptyAs, kfX3_readFor]; rfl) (by rw [kmX2_emptyAs, klX2_emptyAs, klX3_readFor]; rfl) (by rw [kmX2_emptyAs]; exact h3) h4
theorem yX3_readFor_X3_readItem {na : Nat} {r : List mm_V} (h3 : Nat.ble na 8 = true) (h4 : Nat.ble r.length 8 = true) : mm_roomy 16 17 na r = true := mm_roomy_of (by rw [kfX3_readItem, kfX3_readFor]; rfl) (by rw [kmX3_readItem, klX3_readItem, klX3_readFor]; rfl) (by rw [kmX3_readItem]; exact h3) h4
theorem yX3_readItem_X3_isTaken {na : Nat} {r : List mm_V} (h3 : Nat.ble na 2 = true) (h4 : Nat.ble r.length 8 = true) : mm_roomy 17 19 na r = true := mm_roomy_of (by rw [kfX3_isTaken, kfX3_readItem]; rfl) (by rw [kmX3_isTaken, klX3_isTaken, klX3_readItem]; rfl) (by rw [kmX3_isTaken]; exact h3) h4
theorem yX3_readItem_X3_readCharacter {na : Nat} {r : List mm_V} (h3 : Nat.ble na 2 = true) (h4 : Nat.ble r.length 8 = true) : mm_roomy 17 26 na r = true := mm_roomy_of (by rw [kfX3_readCharacter, kfX3_readItem]; rfl) (by rw [kmX3_readCharacter, klX3_readCharacter, klX3_readItem]; rfl) (by rw [kmX3_readCharacter]; exact h3) h4
theorem yX3_readItem_X3_readDigit {na : Nat} {r : List mm_V} (h3 : Nat.ble na 2 = true) (h4 : Nat.ble r.length 8 = true) : mm_roomy 17 25 na r = true := mm_roomy_of (by rw [kfX3_readDigit, kfX3_readItem]; rfl) (by rw [kmX3_readDigit, klX3_readDigit, klX3_readItem]; rfl) (by rw [kmX3_readDigit]; exact h3) h4
theorem yX3_readItem_X3_readLength {na : Nat} {r : List mm_V} (h3 : Nat.ble na 3 = true) (h4 : Nat.ble r.length 8 = true) : mm_roomy 17 24 na r = true := mm_roomy_of (by rw [kfX3_readLength, kfX3_readItem]; rfl) (by rw [kmX3_readLength, klX3_readLength, klX3_readItem]; rfl) (by rw [kmX3_readLength]; exact h3) h4
theorem yX3_readItem_X3_readSign {na : Nat} {r : List mm_V} (h3 : Nat.ble na 4 = true) (h4 : Nat.ble r.length 8 = true) : mm_roomy 17 20 na r = true := mm_roomy_of (by rw [kfX3_readSign, kfX3_readItem]; rfl) (by rw [kmX3_readSign, klX3_readSign, klX3_readItem]; rfl) (by rw [kmX3_readSign]; exact h3) h4
theorem yX3_readItem_X3_spanOf {na : Nat} {r : List mm_V} (h3 : Nat.ble na 1 = true) (h4 : Nat.ble r.length 8 = true) : mm_roomy 17 18 na r = true := mm_roomy_of (by rw [kfX3_spanOf, kfX3_readItem]; rfl) (by rw [kmX3_spanOf, klX3_spanOf, klX3_readItem]; rfl) (by rw [kmX3_spanOf]; exact h3) h4
theorem yX3_readItem_X7_isColumn {na : Nat} {r : List mm_V} (h3 : Nat.ble na 1 = true) (h4 : Nat.ble r.length 8 = true) : mm_roomy 17 91 na r = true := mm_roomy_of (by rw [kfX7_isColumn, kfX3_readItem]; rfl) (by rw [kmX7_isColumn, klX7_isColumn, klX3_readItem]; rfl) (by rw [kmX7_isColumn]; exact h3) h4
theorem yX3_readLength_X3_digitAt {na : Nat} {r : List mm_V} (h3 : Nat.ble na 3 = true) (h4 : Nat.ble r.length 8 = true) : mm_roomy 24 27 na r = true := mm_roomy_of (by rw [kfX3_digitAt, kfX3_readLength]; rfl) (by rw [kmX3_digitAt, klX3_digitAt, klX3_readLength]; rfl) (by rw [kmX3_digitAt]; exact h3) h4
theorem yX3_readMove_X3_levelNamed {na : Nat} {r : List mm_V} (h3 : Nat.ble na 1 = true) (h4 : Nat.ble r.length 8 = true) : mm_roomy 21 23 na r = true := mm_roomy_of (by rw [kfX3_levelNamed, kfX3_readMove]; rfl) (by rw [kmX3_levelNamed, klX3_levelNamed, klX3_readMove]; rfl) (by rw [kmX3_levelNamed]; exact h3) h4
theorem yX3_readMove_X3_readCharacter {na : Nat} {r : List mm_V} (h3 : Nat.ble na 2 = true) (h4 : Nat.ble r.length 8 = true) : mm_roomy 21 26 na r = true := mm_roomy_of (by rw [kfX3_readCharacter, kfX3_readMove]; rfl) (by rw [kmX3_readCharacter, klX3_readCharacter, klX3_readMove]; rfl) (by rw [kmX3_readCharacter]; exact h3) h4
theorem yX3_readMove_X3_readDigit {na : Nat} {r : List mm_V} (h3 : Nat.ble na 2 = true) (h4 : Nat.ble r.length 8 = true) : mm_roomy 21 25 na r = true := mm_roomy_of (by rw [kfX3_readDigit, kfX3_readMove]; rfl) (by rw [kmX3_readDigit, klX3_readDigit, klX3_readMove]; rfl) (by rw [kmX3_readDigit]; exact h3) h4
theorem yX3_readMove_X3_readLength {na : Nat} {r : List mm_V} (h3 : Nat.ble na 3 = true) (h4 : Nat.ble r.length 8 = true) : mm_roomy 21 24 na r = true := mm_roomy_of (by rw [kfX3_readLength, kfX3_readMove]; rfl) (by rw [kmX3_readLength, klX3_readLength, klX3_readMove]; rfl) (by rw [kmX3_readLength]; exact h3) h4
theorem yX3_readMove_X4_move {na : Nat} {r : List mm_V} (h3 : Nat.ble na 5 = true) (h4 : Nat.ble r.length 8 = true) : mm_roomy 21 28 na r = true := mm_roomy_of (by rw [kfX4_move, kfX3_readMove]; rfl) (by rw [kmX4_move, klX4_move, klX3_readMove]; rfl) (by rw [kmX4_move]; exact h3) h4
theorem yX3_readMove_X7_isWithin {na : Nat} {r : List mm_V} (h3 : Nat.ble na 3 = true) (h4 : Nat.ble r.length 8 = true) : mm_roomy 21 89 na r = true := mm_roomy_of (by rw [kfX7_isWithin, kfX3_readMove]; rfl) (by rw [kmX7_isWithin, klX7_isWithin, klX3_readMove]; rfl) (by rw [kmX7_isWithin]; exact h3) h4
theorem yX3_readSign_X3_readLength {na : Nat} {r : List mm_V} (h3 : Nat.ble na 3 = true) (h4 : Nat.ble r.length 8 = true) : mm_roomy 20 24 na r = true := mm_roomy_of (by rw [kfX3_readLength, kfX3_readSign]; rfl) (by rw [kmX3_readLength, klX3_readLength, klX3_readSign]; rfl) (by rw [kmX3_readLength]; exact h3) h4
theorem yX3_readSign_X3_readMove {na : Nat} {r : List mm_V} (h3 : Nat.ble na 6 = true) (h4 : Nat.ble r.length 8 = true) : mm_roomy 20 21 na r = true := mm_roomy_of (by rw [kfX3_readMove, kfX3_readSign]; rfl) (by rw [kmX3_readMove, klX3_readMove, klX3_readSign]; rfl) (by rw [kmX3_readMove]; exact h3) h4
theorem yX3_readSign_X3_readTurn {na : Nat} {r : List mm_V} (h3 : Nat.ble na 7 = true) (h4 : Nat.ble r.length 8 = true) : mm_roomy 20 22 na r = true := mm_roomy_of (by rw [kfX3_readTurn, kfX3_readSign]; rfl) (by rw [kmX3_readTurn, klX3_readTurn, klX3_readSign]; rfl) (by rw [kmX3_readTurn]; exact h3) h4
theorem yX3_readSign_X4_hold {na : Nat} {r : List mm_V} (h3 : Nat.ble na 2 = true) (h4 : Nat.ble r.length 8 = true) : mm_roomy 20 29 na r = true := mm_roomy_of (by rw [kfX4_hold, kfX3_readSign]; rfl) (by rw [kmX4_hold, klX4_hold, klX3_readSign]; rfl) (by rw [kmX4_hold]; exact h3) h4
theorem yX3_readSign_X4_release {na : Nat} {r : List mm_V} (h3 : Nat.ble na 3 = true) (h4 : Nat.ble r.length 8 = true) : mm_roomy 20 31 na r = true := mm_roomy_of (by rw [kfX4_release, kfX3_readSign]; rfl) (by rw [kmX4_release, klX4_release, klX3_readSign]; rfl) (by rw [kmX4_release]; exact h3) h4
theorem yX3_readTurn_X3_readCharacter {na : Nat} {r : List mm_V} (h3 : Nat.ble na 2 = true) (h4 : Nat.ble r.length 8 = true) : mm_roomy 22 26 na r = true := mm_roomy_of (by rw [kfX3_readCharacter, kfX3_readTurn]; rfl) (by rw [kmX3_readCharacter, klX3_readCharacter, klX3_readTurn]; rfl) (by rw [kmX3_readCharacter]; exact h3) h4
theorem yX3_readTurn_X3_readDigit {na : Nat} {r : List mm_V} (h3 : Nat.ble na 2 = true) (h4 : Nat.ble r.length 8 = true) : mm_roomy 22 25 na r = true := mm_roomy_of (by rw [kfX3_readDigit, kfX3_readTurn]; rfl) (by rw [kmX3_readDigit, klX3_readDigit, klX3_readTurn]; rfl) (by rw [kmX3_readDigit]; exact h3) h4
theorem yX3_readTurn_X3_readLength {na : Nat} {r : List mm_V} (h3 : Nat.ble na 3 = true) (h4 : Nat.ble r.length 8 = true) : mm_roomy 22 24 na r = true := mm_roomy_of (by rw [kfX3_readLength, kfX3_readTurn]; rfl) (by rw [kmX3_readLength, klX3_readLength, klX3_readTurn]; rfl) (by rw [kmX3_readLength]; exact h3) h4
theorem yX3_readTurn_X4_turn {na : Nat} {r : List mm_V} (h3 : Nat.ble na 4 = true) (h4 : Nat.ble r.length 8 = true) : mm_roomy 22 30 na r = true := mm_roomy_of (by rw [kfX4_turn, kfX3_readTurn]; rfl) (by rw [kmX4_turn, klX4_turn, klX3_readTurn]; rfl) (by rw [kmX4_turn]; exact h3) h4
theorem yX3_readTurn_X7_isWithin {na : Nat} {r : List mm_V} (h3 : Nat.ble na 3 = true) (h4 : Nat.ble r.length 8 = true) : mm_roomy 22 89 na r = true := mm_roomy_of (by rw [kfX7_isWithin, kfX3_readTurn]; rfl) (by rw [kmX7_isWithin, klX7_isWithin, klX3_readTurn]; rfl) (by rw [kmX7_isWithin]; exact h3) h4
theorem yX3_spanOf_X4_spanOf {na : Nat} {r : List mm_V} (h3 : Nat.ble na 1 = true) (h4 : Nat.ble r.length 8 = true) : mm_roomy 18 35 na r = true := mm_roomy_of (by rw [kfX4_spanOf, kfX3_spanOf]; rfl) (by rw [kmX4_spanOf, klX4_spanOf, klX3_spanOf]; rfl) (by rw [kmX4_spanOf]; exact h3) h4
theorem yX4_hold_X4_packed {na : Nat} {r : List mm_V} (h3 : Nat.ble na 7 = true) (h4 : Nat.ble r.length 8 = true) : mm_roomy 29 32 na r = true := mm_roomy_of (by rw [kfX4_packed, kfX4_hold]; rfl) (by rw [kmX4_packed, klX4_packed, klX4_hold]; rfl) (by rw [kmX4_packed]; exact h3) h4
theorem yX4_mirrored_X4_amountOf {na : Nat} {r : List mm_V} (h3 : Nat.ble na 1 = true) (h4 : Nat.ble r.length 8 = true) : mm_roomy 44 39 na r = true := mm_roomy_of (by rw [kfX4_amountOf, kfX4_mirrored]; rfl) (by rw [kmX4_amountOf, klX4_amountOf, klX4_mirrored]; rfl) (by rw [kmX4_amountOf]; exact h3) h4
theorem yX4_mirrored_X4_beginOf {na : Nat} {r : List mm_V} (h3 : Nat.ble na 1 = true) (h4 : Nat.ble r.length 8 = true) : mm_roomy 44 33 na r = true := mm_roomy_of (by rw [kfX4_beginOf, kfX4_mirrored]; rfl) (by rw [kmX4_beginOf, klX4_beginOf, klX4_mirrored]; rfl) (by rw [kmX4_beginOf]; exact h3) h4
theorem yX4_mirrored_X4_columnOf {na : Nat} {r : List mm_V} (h3 : Nat.ble na 1 = true) (h4 : Nat.ble r.length 8 = true) : mm_roomy 44 34 na r = true := mm_roomy_of (by rw [kfX4_columnOf, kfX4_mirrored]; rfl) (by rw [kmX4_columnOf, klX4_columnOf, klX4_mirrored]; rfl) (by rw [kmX4_columnOf]; exact h3) h4
theorem yX4_mirrored_X4_directionOf {na : Nat} {r : List mm_V} (h3 : Nat.ble na 1 = true) (h4 : Nat.ble r.length 8 = true) : mm_roomy 44 37 na r = true := mm_roomy_of (by rw [kfX4_directionOf, kfX4_mirrored]; rfl) (by rw [kmX4_directionOf, klX4_directionOf, klX4_mirrored]; rfl) (by rw [kmX4_directionOf]; exact h3) h4
theorem yX4_mirrored_X4_kindOf {na : Nat} {r : List mm_V} (h3 : Nat.ble na 1 = true) (h4 : Nat.ble r.length 8 = true) : mm_roomy 44 36 na r = true := mm_roomy_of (by rw [kfX4_kindOf, kfX4_mirrored]; rfl) (by rw [kmX4_kindOf, klX4_kindOf, klX4_mirrored]; rfl) (by rw [kmX4_kindOf]; exact h3) h4
theorem yX4_mirrored_X4_levelOf {na : Nat} {r : List mm_V} (h3 : Nat.ble na 1 = true) (h4 : Nat.ble r.length 8 = true) : mm_roomy 44 38 na r = true := mm_roomy_of (by rw [kfX4_levelOf, kfX4_mirrored]; rfl) (by rw [kmX4_levelOf, klX4_levelOf, klX4_mirrored]; rfl) (by rw [kmX4_levelOf]; exact h3) h4
theorem yX4_mirrored_X4_mirroredColumn {na : Nat} {r : List mm_V} (h3 : Nat.ble na 1 = true) (h4 : Nat.ble r.length 8 = true) : mm_roomy 44 45 na r = true := mm_roomy_of (by rw [kfX4_mirroredColumn, kfX4_mirrored]; rfl) (by rw [kmX4_mirroredColumn, klX4_mirroredColumn, klX4_mirrored]; rfl) (by rw [kmX4_mirroredColumn]; exact h3) h4
theorem yX4_mirrored_X4_mirroredDirection {na : Nat} {r : List mm_V} (h3 : Nat.ble na 1 = true) (h4 : Nat.ble r.length 8 = true) : mm_roomy 44 46 na r = true := mm_roomy_of (by rw [kfX4_mirroredDirection, kfX4_mirrored]; rfl) (by rw [kmX4_mirroredDirection, klX4_mirroredDirection, klX4_mirrored]; rfl) (by rw [kmX4_mirroredDirection]; exact h3) h4
theorem yX4_mirrored_X4_packed {na : Nat} {r : List mm_V} (h3 : Nat.ble na 7 = true) (h4 : Nat.ble r.length 8 = true) : mm_roomy 44 32 na r = true := mm_roomy_of (by rw [kfX4_packed, kfX4_mirrored]; rfl) (by rw [kmX4_packed, klX4_packed, klX4_mirrored]; rfl) (by rw [kmX4_packed]; exact h3) h4
theorem yX4_mirrored_X4_spanOf {na : Nat} {r : List mm_V} (h3 : Nat.ble na 1 = true) (h4 : Nat.ble r.length 8 = true) : mm_roomy 44 35 na r = true := mm_roomy_of (by rw [kfX4_spanOf, kfX4_mirrored]; rfl) (by rw [kmX4_spanOf, klX4_spanOf, klX4_mirrored]; rfl) (by rw [kmX4_spanOf]; exact h3) h4
theorem yX4_move_X4_packed {na : Nat} {r : List mm_V} (h3 : Nat.ble na 7 = true) (h4 : Nat.ble r.length 8 = true) : mm_roomy 28 32 na r = true := mm_roomy_of (by rw [kfX4_packed, kfX4_move]; rfl) (by rw [kmX4_packed, klX4_packed, klX4_move]; rfl) (by rw [kmX4_packed]; exact h3) h4
theorem yX4_movedTo_X4_amountOf {na : Nat} {r : List mm_V} (h3 : Nat.ble na 1 = true) (h4 : Nat.ble r.length 8 = true) : mm_roomy 42 39 na r = true := mm_roomy_of (by rw [kfX4_amountOf, kfX4_movedTo]; rfl) (by rw [kmX4_amountOf, klX4_amountOf, klX4_movedTo]; rfl) (by rw [kmX4_amountOf]; exact h3) h4
theorem yX4_movedTo_X4_columnOf {na : Nat} {r : List mm_V} (h3 : Nat.ble na 1 = true) (h4 : Nat.ble r.length 8 = true) : mm_roomy 42 34 na r = true := mm_roomy_of (by rw [kfX4_columnOf, kfX4_movedTo]; rfl) (by rw [kmX4_columnOf, klX4_columnOf, klX4_movedTo]; rfl) (by rw [kmX4_columnOf]; exact h3) h4
theorem yX4_movedTo_X4_directionOf {na : Nat} {r : List mm_V} (h3 : Nat.ble na 1 = true) (h4 : Nat.ble r.length 8 = true) : mm_roomy 42 37 na r = true := mm_roomy_of (by rw [kfX4_directionOf, kfX4_movedTo]; rfl) (by rw [kmX4_directionOf, klX4_directionOf, klX4_movedTo]; rfl) (by rw [kmX4_directionOf]; exact h3) h4
theorem yX4_movedTo_X4_kindOf {na : Nat} {r : List mm_V} (h3 : Nat.ble na 1 = true) (h4 : Nat.ble r.length 8 = true) : mm_roomy 42 36 na r = true := mm_roomy_of (by rw [kfX4_kindOf, kfX4_movedTo]; rfl) (by rw [kmX4_kindOf, klX4_kindOf, klX4_movedTo]; rfl) (by rw [kmX4_kindOf]; exact h3) h4
theorem yX4_movedTo_X4_levelOf {na : Nat} {r : List mm_V} (h3 : Nat.ble na 1 = true) (h4 : Nat.ble r.length 8 = true) : mm_roomy 42 38 na r = true := mm_roomy_of (by rw [kfX4_levelOf, kfX4_movedTo]; rfl) (by rw [kmX4_levelOf, klX4_levelOf, klX4_movedTo]; rfl) (by rw [kmX4_levelOf]; exact h3) h4
theorem yX4_movedTo_X4_packed {na : Nat} {r : List mm_V} (h3 : Nat.ble na 7 = true) (h4 : Nat.ble r.length 8 = true) : mm_roomy 42 32 na r = true := mm_roomy_of (by rw [kfX4_packed, kfX4_movedTo]; rfl) (by rw [kmX4_packed, klX4_packed, klX4_movedTo]; rfl) (by rw [kmX4_packed]; exact h3) h4
theorem yX4_movedTo_X4_spanOf {na : Nat} {r : List mm_V} (h3 : Nat.ble na 1 = true) (h4 : Nat.ble r.length 8 = true) : mm_roomy 42 35 na r = true := mm_roomy_of (by rw [kfX4_spanOf, kfX4_movedTo]; rfl) (by rw [kmX4_spanOf, klX4_spanOf, klX4_movedTo]; rfl) (by rw [kmX4_spanOf]; exact h3) h4
theorem yX4_release_X4_packed {na : Nat} {r : List mm_V} (h3 : Nat.ble na 7 = true) (h4 : Nat.ble r.length 8 = true) : mm_roomy 31 32 na r = true := mm_roomy_of (by rw [kfX4_packed, kfX4_release]; rfl) (by rw [kmX4_packed, klX4_packed, klX4_release]; rfl) (by rw [kmX4_packed]; exact h3) h4
theorem yX4_shortEndOf_X4_beginOf {na : Nat} {r : List mm_V} (h3 : Nat.ble na 1 = true) (h4 : Nat.ble r.length 8 = true) : mm_roomy 40 33 na r = true := mm_roomy_of (by rw [kfX4_beginOf, kfX4_shortEndOf]; rfl) (by rw [kmX4_beginOf, klX4_beginOf, klX4_shortEndOf]; rfl) (by rw [kmX4_beginOf]; exact h3) h4
theorem yX4_shortEndOf_X4_spanOf {na : Nat} {r : List mm_V} (h3 : Nat.ble na 1 = true) (h4 : Nat.ble r.length 8 = true) : mm_roomy 40 35 na r = true := mm_roomy_of (by rw [kfX4_spanOf, kfX4_shortEndOf]; rfl) (by rw [kmX4_spanOf, klX4_spanOf, klX4_shortEndOf]; rfl) (by rw [kmX4_spanOf]; exact h3) h4
theorem yX4_turn_X4_packed {na : Nat} {r : List mm_V} (h3 : Nat.ble na 7 = true) (h4 : Nat.ble r.length 8 = true) : mm_roomy 30 32 na r = true := mm_roomy_of (by rw [kfX4_packed, kfX4_turn]; rfl) (by rw [kmX4_packed, klX4_packed, klX4_turn]; rfl) (by rw [kmX4_packed]; exact h3) h4
theorem yX4_turnedBack_X4_amountOf {na : Nat} {r : List mm_V} (h3 : Nat.ble na 1 = true) (h4 : Nat.ble r.length 8 = true) : mm_roomy 43 39 na r = true := mm_roomy_of (by rw [kfX4_amountOf, kfX4_turnedBack]; rfl) (by rw [kmX4_amountOf, klX4_amountOf, klX4_turnedBack]; rfl) (by rw [kmX4_amountOf]; exact h3) h4
theorem yX4_turnedBack_X4_beginOf {na : Nat} {r : List mm_V} (h3 : Nat.ble na 1 = true) (h4 : Nat.ble r.length 8 = true) : mm_roomy 43 33 na r = true := mm_roomy_of (by rw [kfX4_beginOf, kfX4_turnedBack]; rfl) (by rw [kmX4_beginOf, klX4_beginOf, klX4_turnedBack]; rfl) (by rw [kmX4_beginOf]; exact h3) h4
theorem yX4_turnedBack_X4_columnOf {na : Nat} {r : List mm_V} (h3 : Nat.ble na 1 = true) (h4 : Nat.ble r.length 8 = true) : mm_roomy 43 34 na r = true := mm_roomy_of (by rw [kfX4_columnOf, kfX4_turnedBack]; rfl) (by rw [kmX4_columnOf, klX4_columnOf, klX4_turnedBack]; rfl) (by rw [kmX4_columnOf]; exact h3) h4
theorem yX4_turnedBack_X4_directionOf {na : Nat} {r : List mm_V} (h3 : Nat.ble na 1 = true) (h4 : Nat.ble r.length 8 = true) : mm_roomy 43 37 na r = true := mm_roomy_of (by rw [kfX4_directionOf, kfX4_turnedBack]; rfl) (by rw [kmX4_directionOf, klX4_directionOf, klX4_turnedBack]; rfl) (by rw [kmX4_directionOf]; exact h3) h4
theorem yX4_turnedBack_X4_kindOf {na : Nat} {r : List mm_V} (h3 : Nat.ble na 1 = true) (h4 : Nat.ble r.length 8 = true) : mm_roomy 43 36 na r = true := mm_roomy_of (by rw [kfX4_kindOf, kfX4_turnedBack]; rfl) (by rw [kmX4_kindOf, klX4_kindOf, klX4_turnedBack]; rfl) (by rw [kmX4_kindOf]; exact h3) h4
theorem yX4_turnedBack_X4_levelOf {na : Nat} {r : List mm_V} (h3 : Nat.ble na 1 = true) (h4 : Nat.ble r.length 8 = true) : mm_roomy 43 38 na r = true := mm_roomy_of (by rw [kfX4_levelOf, kfX4_turnedBack]; rfl) (by rw [kmX4_levelOf, klX4_levelOf, klX4_turnedBack]; rfl) (by rw [kmX4_levelOf]; exact h3) h4
theorem yX4_turnedBack_X4_packed {na : Nat} {r : List mm_V} (h3 : Nat.ble na 7 = true) (h4 : Nat.ble r.length 8 = true) : mm_roomy 43 32 na r = true := mm_roomy_of (by rw [kfX4_packed, kfX4_turnedBack]; rfl) (by rw [kmX4_packed, klX4_packed, klX4_turnedBack]; rfl) (by rw [kmX4_packed]; exact h3) h4
theorem yX4_turnedBack_X4_spanOf {na : Nat} {r : List mm_V} (h3 : Nat.ble na 1 = true) (h4 : Nat.ble r.length 8 = true) : mm_roomy 43 35 na r = true := mm_roomy_of (by rw [kfX4_spanOf, kfX4_turnedBack]; rfl) (by rw [kmX4_spanOf, klX4_spanOf, klX4_turnedBack]; rfl) (by rw [kmX4_spanOf]; exact h3) h4
theorem yX5_distanceAt_J9_abs_0f7a4 {na : Nat} {r : List mm_V} (h3 : Nat.ble na 1 = true) (h4 : Nat.ble r.length 8 = true) : mm_roomy 51 165 na r = true := mm_roomy_of (by rw [kfJ9_abs_0f7a4, kfX5_distanceAt]; rfl) (by rw [kmJ9_abs_0f7a4, klJ9_abs_0f7a4, klX5_distanceAt]; rfl) (by rw [kmJ9_abs_0f7a4]; exact h3) h4
theorem yX5_distanceAt_J9_max_7cf53 {na : Nat} {r : List mm_V} (h3 : Nat.ble na 2 = true) (h4 : Nat.ble r.length 8 = true) : mm_roomy 51 166 na r = true := mm_roomy_of (by rw [kfJ9_max_7cf53, kfX5_distanceAt]; rfl) (by rw [kmJ9_max_7cf53, klJ9_max_7cf53, klX5_distanceAt]; rfl) (by rw [kmJ9_max_7cf53]; exact h3) h4
theorem yX5_follow_J7_fill_53178 {na : Nat} {r : List mm_V} (h3 : Nat.ble na 4 = true) (h4 : Nat.ble r.length 8 = true) : mm_roomy 47 168 na r = true := mm_roomy_of (by rw [kfJ7_fill_53178, kfX5_follow]; rfl) (by rw [kmJ7_fill_53178, klJ7_fill_53178, klX5_follow]; rfl) (by rw [kmJ7_fill_53178]; exact h3) h4
theorem yX5_follow_J9_floorMod_7cf53 {na : Nat} {r : List mm_V} (h3 : Nat.ble na 3 = true) (h4 : Nat.ble r.length 8 = true) : mm_roomy 47 164 na r = true := mm_roomy_of (by rw [kfJ9_floorMod_7cf53, kfX5_follow]; rfl) (by rw [kmJ9_floorMod_7cf53, klJ9_floorMod_7cf53, klX5_follow]; rfl) (by rw [kmJ9_floorMod_7cf53]; exact h3) h4
theorem yX5_follow_X2_at {na : Nat} {r : List mm_V} (h3 : Nat.ble na 2 = true) (h4 : Nat.ble r.length 8 = true) : mm_roomy 47 8 na r = true := mm_roomy_of (by rw [kfX2_at, kfX5_follow]; rfl) (by rw [kmX2_at, klX2_at, klX5_follow]; rfl) (by rw [kmX2_at]; exact h3) h4
theorem yX5_follow_X5_noteEnd {na : Nat} {r : List mm_V} (h3 : Nat.ble na 3 = true) (h4 : Nat.ble r.length 8 = true) : mm_roomy 47 48 na r = true := mm_roomy_of (by rw [kfX5_noteEnd, kfX5_follow]; rfl) (by rw [kmX5_noteEnd, klX5_noteEnd, klX5_follow]; rfl) (by rw [kmX5_noteEnd]; exact h3) h4
theorem yX5_follow_X5_step {na : Nat} {r : List mm_V} (h3 : Nat.ble na 6 = true) (h4 : Nat.ble r.length 8 = true) : mm_roomy 47 50 na r = true := mm_roomy_of (by rw [kfX5_step, kfX5_follow]; rfl) (by rw [kmX5_step, klX5_step, klX5_follow]; rfl) (by rw [kmX5_step]; exact h3) h4
theorem yX5_noteEnd_X4_amountOf {na : Nat} {r : List mm_V} (h3 : Nat.ble na 1 = true) (h4 : Nat.ble r.length 8 = true) : mm_roomy 48 39 na r = true := mm_roomy_of (by rw [kfX4_amountOf, kfX5_noteEnd]; rfl) (by rw [kmX4_amountOf, klX4_amountOf, klX5_noteEnd]; rfl) (by rw [kmX4_amountOf]; exact h3) h4
theorem yX5_noteEnd_X4_kindOf {na : Nat} {r : List mm_V} (h3 : Nat.ble na 1 = true) (h4 : Nat.ble r.length 8 = true) : mm_roomy 48 36 na r = true := mm_roomy_of (by rw [kfX4_kindOf, kfX5_noteEnd]; rfl) (by rw [kmX4_kindOf, klX4_kindOf, klX5_noteEnd]; rfl) (by rw [kmX4_kindOf]; exact h3) h4
theorem yX5_noteEnd_X4_shortEndOf {na : Nat} {r : List mm_V} (h3 : Nat.ble na 1 = true) (h4 : Nat.ble r.length 8 = true) : mm_roomy 48 40 na r = true := mm_roomy_of (by rw [kfX4_shortEndOf, kfX5_noteEnd]; rfl) (by rw [kmX4_shortEndOf, klX4_shortEndOf, klX5_noteEnd]; rfl) (by rw [kmX4_shortEndOf]; exact h3) h4
theorem yX5_noteEnd_X5_noteStep {na : Nat} {r : List mm_V} (h3 : Nat.ble na 3 = true) (h4 : Nat.ble r.length 8 = true) : mm_roomy 48 49 na r = true := mm_roomy_of (by rw [kfX5_noteStep, kfX5_noteEnd]; rfl) (by rw [kmX5_noteStep, klX5_noteStep, klX5_noteEnd]; rfl) (by rw [kmX5_noteStep]; exact h3) h4
theorem yX5_noteStep_X4_columnOf {na : Nat} {r : List mm_V} (h3 : Nat.ble na 1 = true) (h4 : Nat.ble r.length 8 = true) : mm_roomy 49 34 na r = true := mm_roomy_of (by rw [kfX4_columnOf, kfX5_noteStep]; rfl) (by rw [kmX4_columnOf, klX4_columnOf, klX5_noteStep]; rfl) (by rw [kmX4_columnOf]; exact h3) h4
theorem yX5_step_J9_floorMod_7cf53 {na : Nat} {r : List mm_V} (h3 : Nat.ble na 3 = true) (h4 : Nat.ble r.length 8 = true) : mm_roomy 50 164 na r = true := mm_roomy_of (by rw [kfJ9_floorMod_7cf53, kfX5_step]; rfl) (by rw [kmJ9_floorMod_7cf53, klJ9_floorMod_7cf53, klX5_step]; rfl) (by rw [kmJ9_floorMod_7cf53]; exact h3) h4
theorem yX5_step_X4_beginOf {na : Nat} {r : List mm_V} (h3 : Nat.ble na 1 = true) (h4 : Nat.ble r.length 8 = true) : mm_roomy 50 33 na r = true := mm_roomy_of (by rw [kfX4_beginOf, kfX5_step]; rfl) (by rw [kmX4_beginOf, klX4_beginOf, klX5_step]; rfl) (by rw [kmX4_beginOf]; exact h3) h4
theorem yX5_step_X4_directionOf {na : Nat} {r : List mm_V} (h3 : Nat.ble na 1 = true) (h4 : Nat.ble r.length 8 = true) : mm_roomy 50 37 na r = true := mm_roomy_of (by rw [kfX4_directionOf, kfX5_step]; rfl) (by rw [kmX4_directionOf, klX4_directionOf, klX5_step]; rfl) (by rw [kmX4_directionOf]; exact h3) h4
theorem yX6_canBear_X4_kindOf {na : Nat} {r : List mm_V} (h3 : Nat.ble na 1 = true) (h4 : Nat.ble r.length 8 = true) : mm_roomy 54 36 na r = true := mm_roomy_of (by rw [kfX4_kindOf, kfX6_canBear]; rfl) (by rw [kmX4_kindOf, klX4_kindOf, klX6_canBear]; rfl) (by rw [kmX4_kindOf]; exact h3) h4
theorem yX6_longestFlight_J9_max_7cf53 {na : Nat} {r : List mm_V} (h3 : Nat.ble na 2 = true) (h4 : Nat.ble r.length 8 = true) : mm_roomy 59 166 na r = true := mm_roomy_of (by rw [kfJ9_max_7cf53, kfX6_longestFlight]; rfl) (by rw [kmJ9_max_7cf53, klJ9_max_7cf53, klX6_longestFlight]; rfl) (by rw [kmJ9_max_7cf53]; exact h3) h4
theorem yX6_weigh_J7_fill_53178 {na : Nat} {r : List mm_V} (h3 : Nat.ble na 4 = true) (h4 : Nat.ble r.length 8 = true) : mm_roomy 52 168 na r = true := mm_roomy_of (by rw [kfJ7_fill_53178, kfX6_weigh]; rfl) (by rw [kmJ7_fill_53178, klJ7_fill_53178, klX6_weigh]; rfl) (by rw [kmJ7_fill_53178]; exact h3) h4
theorem yX6_weigh_X6_measureFlights {na : Nat} {r : List mm_V} (h3 : Nat.ble na 3 = true) (h4 : Nat.ble r.length 8 = true) : mm_roomy 52 55 na r = true := mm_roomy_of (by rw [kfX6_measureFlights, kfX6_weigh]; rfl) (by rw [kmX6_measureFlights, klX6_measureFlights, klX6_weigh]; rfl) (by rw [kmX6_measureFlights]; exact h3) h4
theorem yX6_weigh_X6_weighSide {na : Nat} {r : List mm_V} (h3 : Nat.ble na 5 = true) (h4 : Nat.ble r.length 8 = true) : mm_roomy 52 53 na r = true := mm_roomy_of (by rw [kfX6_weighSide, kfX6_weigh]; rfl) (by rw [kmX6_weighSide, klX6_weighSide, klX6_weigh]; rfl) (by rw [kmX6_weighSide]; exact h3) h4
theorem yX6_weighSide_X2_fillRow {na : Nat} {r : List mm_V} (h3 : Nat.ble na 6 = true) (h4 : Nat.ble r.length 8 = true) : mm_roomy 53 14 na r = true := mm_roomy_of (by rw [kfX2_fillRow, kfX6_weighSide]; rfl) (by rw [kmX2_fillRow, klX2_fillRow, klX6_weighSide]; rfl) (by rw [kmX2_fillRow]; exact h3) h4
theorem yX6_weighSide_X4_kindOf {na : Nat} {r : List mm_V} (h3 : Nat.ble na 1 = true) (h4 : Nat.ble r.length 8 = true) : mm_roomy 53 36 na r = true := mm_roomy_of (by rw [kfX4_kindOf, kfX6_weighSide]; rfl) (by rw [kmX4_kindOf, klX4_kindOf, klX6_weighSide]; rfl) (by rw [kmX4_kindOf]; exact h3) h4
theorem yX6_weighSide_X6_canBear {na : Nat} {r : List mm_V} (h3 : Nat.ble na 1 = true) (h4 : Nat.ble r.length 8 = true) : mm_roomy 53 54 na r = true := mm_roomy_of (by rw [kfX6_canBear, kfX6_weighSide]; rfl) (by rw [kmX6_canBear, klX6_canBear, klX6_weighSide]; rfl) (by rw [kmX6_canBear]; exact h3) h4
theorem yX6_wrongBeats_X6_isWrong {na : Nat} {r : List mm_V} (h3 : Nat.ble na 2 = true) (h4 : Nat.ble r.length 8 = true) : mm_roomy 57 56 na r = true := mm_roomy_of (by rw [kfX6_isWrong, kfX6_wrongBeats]; rfl) (by rw [kmX6_isWrong, klX6_isWrong, klX6_wrongBeats]; rfl) (by rw [kmX6_isWrong]; exact h3) h4
theorem yX7_addHold_X4_hold {na : Nat} {r : List mm_V} (h3 : Nat.ble na 2 = true) (h4 : Nat.ble r.length 8 = true) : mm_roomy 64 29 na r = true := mm_roomy_of (by rw [kfX4_hold, kfX7_addHold]; rfl) (by rw [kmX4_hold, klX4_hold, klX7_addHold]; rfl) (by rw [kmX4_hold]; exact h3) h4
theorem yX7_addHold_X7_addSign {na : Nat} {r : List mm_V} (h3 : Nat.ble na 2 = true) (h4 : Nat.ble r.length 8 = true) : mm_roomy 64 95 na r = true := mm_roomy_of (by rw [kfX7_addSign, kfX7_addHold]; rfl) (by rw [kmX7_addSign, klX7_addSign, klX7_addHold]; rfl) (by rw [kmX7_addSign]; exact h3) h4
theorem yX7_addHold_X7_isBeat {na : Nat} {r : List mm_V} (h3 : Nat.ble na 2 = true) (h4 : Nat.ble r.length 8 = true) : mm_roomy 64 92 na r = true := mm_roomy_of (by rw [kfX7_isBeat, kfX7_addHold]; rfl) (by rw [kmX7_isBeat, klX7_isBeat, klX7_addHold]; rfl) (by rw [kmX7_isBeat]; exact h3) h4
theorem yX7_addHold_X7_isColumn {na : Nat} {r : List mm_V} (h3 : Nat.ble na 1 = true) (h4 : Nat.ble r.length 8 = true) : mm_roomy 64 91 na r = true := mm_roomy_of (by rw [kfX7_isColumn, kfX7_addHold]; rfl) (by rw [kmX7_isColumn, klX7_isColumn, klX7_addHold]; rfl) (by rw [kmX7_isColumn]; exact h3) h4
theorem yX7_addMove_X4_move {na : Nat} {r : List mm_V} (h3 : Nat.ble na 5 = true) (h4 : Nat.ble r.length 8 = true) : mm_roomy 63 28 na r = true := mm_roomy_of (by rw [kfX4_move, kfX7_addMove]; rfl) (by rw [kmX4_move, klX4_move, klX7_addMove]; rfl) (by rw [kmX4_move]; exact h3) h4
theorem yX7_addMove_X7_addSign {na : Nat} {r : List mm_V} (h3 : Nat.ble na 2 = true) (h4 : Nat.ble r.length 8 = true) : mm_roomy 63 95 na r = true := mm_roomy_of (by rw [kfX7_addSign, kfX7_addMove]; rfl) (by rw [kmX7_addSign, klX7_addSign, klX7_addMove]; rfl) (by rw [kmX7_addSign]; exact h3) h4
theorem yX7_addMove_X7_isSpan {na : Nat} {r : List mm_V} (h3 : Nat.ble na 3 = true) (h4 : Nat.ble r.length 8 = true) : mm_roomy 63 93 na r = true := mm_roomy_of (by rw [kfX7_isSpan, kfX7_addMove]; rfl) (by rw [kmX7_isSpan, klX7_isSpan, klX7_addMove]; rfl) (by rw [kmX7_isSpan]; exact h3) h4
theorem yX7_addMove_X7_isWithin {na : Nat} {r : List mm_V} (h3 : Nat.ble na 3 = true) (h4 : Nat.ble r.length 8 = true) : mm_roomy 63 89 na r = true := mm_roomy_of (by rw [kfX7_isWithin, kfX7_addMove]; rfl) (by rw [kmX7_isWithin, klX7_isWithin, klX7_addMove]; rfl) (by rw [kmX7_isWithin]; exact h3) h4
theorem yX7_addRelease_X4_release {na : Nat} {r : List mm_V} (h3 : Nat.ble na 3 = true) (h4 : Nat.ble r.length 8 = true) : mm_roomy 66 31 na r = true := mm_roomy_of (by rw [kfX4_release, kfX7_addRelease]; rfl) (by rw [kmX4_release, klX4_release, klX7_addRelease]; rfl) (by rw [kmX4_release]; exact h3) h4
theorem yX7_addRelease_X7_addSign {na : Nat} {r : List mm_V} (h3 : Nat.ble na 2 = true) (h4 : Nat.ble r.length 8 = true) : mm_roomy 66 95 na r = true := mm_roomy_of (by rw [kfX7_addSign, kfX7_addRelease]; rfl) (by rw [kmX7_addSign, klX7_addSign, klX7_addRelease]; rfl) (by rw [kmX7_addSign]; exact h3) h4
theorem yX7_addRelease_X7_isColumn {na : Nat} {r : List mm_V} (h3 : Nat.ble na 1 = true) (h4 : Nat.ble r.length 8 = true) : mm_roomy 66 91 na r = true := mm_roomy_of (by rw [kfX7_isColumn, kfX7_addRelease]; rfl) (by rw [kmX7_isColumn, klX7_isColumn, klX7_addRelease]; rfl) (by rw [kmX7_isColumn]; exact h3) h4
theorem yX7_addRelease_X7_isSpan {na : Nat} {r : List mm_V} (h3 : Nat.ble na 3 = true) (h4 : Nat.ble r.length 8 = true) : mm_roomy 66 93 na r = true := mm_roomy_of (by rw [kfX7_isSpan, kfX7_addRelease]; rfl) (by rw [kmX7_isSpan, klX7_isSpan, klX7_addRelease]; rfl) (by rw [kmX7_isSpan]; exact h3) h4
theorem yX7_addSign_X1_keep {na : Nat} {r : List mm_V} (h3 : Nat.ble na 4 = true) (h4 : Nat.ble r.length 8 = true) : mm_roomy 95 3 na r = true := mm_roomy_of (by rw [kfX1_keep, kfX7_addSign]; rfl) (by rw [kmX1_keep, klX1_keep, klX7_addSign]; rfl) (by rw [kmX1_keep]; exact h3) h4
theorem yX7_addSign_X2_hasRoomFor {na : Nat} {r : List mm_V} (h3 : Nat.ble na 6 = true) (h4 : Nat.ble r.length 8 = true) : mm_roomy 95 9 na r = true := mm_roomy_of (by rw [kfX2_hasRoomFor, kfX7_addSign]; rfl) (by rw [kmX2_hasRoomFor, klX2_hasRoomFor, klX7_addSign]; rfl) (by rw [kmX2_hasRoomFor]; exact h3) h4
theorem yX7_addSign_X2_put {na : Nat} {r : List mm_V} (h3 : Nat.ble na 3 = true) (h4 : Nat.ble r.length 8 = true) : mm_roomy 95 10 na r = true := mm_roomy_of (by rw [kfX2_put, kfX7_addSign]; rfl) (by rw [kmX2_put, klX2_put, klX7_addSign]; rfl) (by rw [kmX2_put]; exact h3) h4
theorem yX7_addTurn_X4_turn {na : Nat} {r : List mm_V} (h3 : Nat.ble na 4 = true) (h4 : Nat.ble r.length 8 = true) : mm_roomy 65 30 na r = true := mm_roomy_of (by rw [kfX4_turn, kfX7_addTurn]; rfl) (by rw [kmX4_turn, klX4_turn, klX7_addTurn]; rfl) (by rw [kmX4_turn]; exact h3) h4
theorem yX7_addTurn_X7_addSign {na : Nat} {r : List mm_V} (h3 : Nat.ble na 2 = true) (h4 : Nat.ble r.length 8 = true) : mm_roomy 65 95 na r = true := mm_roomy_of (by rw [kfX7_addSign, kfX7_addTurn]; rfl) (by rw [kmX7_addSign, klX7_addSign, klX7_addTurn]; rfl) (by rw [kmX7_addSign]; exact h3) h4
theorem yX7_addTurn_X7_isSpan {na : Nat} {r : List mm_V} (h3 : Nat.ble na 3 = true) (h4 : Nat.ble r.length 8 = true) : mm_roomy 65 93 na r = true := mm_roomy_of (by rw [kfX7_isSpan, kfX7_addTurn]; rfl) (by rw [kmX7_isSpan, klX7_isSpan, klX7_addTurn]; rfl) (by rw [kmX7_isSpan]; exact h3) h4
theorem yX7_addTurn_X7_isWithin {na : Nat} {r : List mm_V} (h3 : Nat.ble na 3 = true) (h4 : Nat.ble r.length 8 = true) : mm_roomy 65 89 na r = true := mm_roomy_of (by rw [kfX7_isWithin, kfX7_addTurn]; rfl) (by rw [kmX7_isWithin, klX7_isWithin, klX7_addTurn]; rfl) (by rw [kmX7_isWithin]; exact h3) h4
theorem yX7_alike_X0_alikeBeats {na : Nat} {r : List mm_V} (h3 : Nat.ble na 4 = true) (h4 : Nat.ble r.length 8 = true) : mm_roomy 85 2 na r = true := mm_roomy_of (by rw [kfX0_alikeBeats, kfX7_alike]; rfl) (by rw [kmX0_alikeBeats, klX0_alikeBeats, klX7_alike]; rfl) (by rw [kmX0_alikeBeats]; exact h3) h4
theorem yX7_alike_X0_begin {na : Nat} {r : List mm_V} (h3 : Nat.ble na 1 = true) (h4 : Nat.ble r.length 8 = true) : mm_roomy 85 0 na r = true := mm_roomy_of (by rw [kfX0_begin, kfX7_alike]; rfl) (by rw [kmX0_begin, klX0_begin, klX7_alike]; rfl) (by rw [kmX0_begin]; exact h3) h4
theorem yX7_alike_X0_compare {na : Nat} {r : List mm_V} (h3 : Nat.ble na 9 = true) (h4 : Nat.ble r.length 8 = true) : mm_roomy 85 1 na r = true := mm_roomy_of (by rw [kfX0_compare, kfX7_alike]; rfl) (by rw [kmX0_compare, klX0_compare, klX7_alike]; rfl) (by rw [kmX0_compare]; exact h3) h4
theorem yX7_alike_X7_isFlag {na : Nat} {r : List mm_V} (h3 : Nat.ble na 1 = true) (h4 : Nat.ble r.length 8 = true) : mm_roomy 85 90 na r = true := mm_roomy_of (by rw [kfX7_isFlag, kfX7_alike]; rfl) (by rw [kmX7_isFlag, klX7_isFlag, klX7_alike]; rfl) (by rw [kmX7_isFlag]; exact h3) h4
theorem yX7_alike_X7_isPhrase {na : Nat} {r : List mm_V} (h3 : Nat.ble na 3 = true) (h4 : Nat.ble r.length 8 = true) : mm_roomy 85 94 na r = true := mm_roomy_of (by rw [kfX7_isPhrase, kfX7_alike]; rfl) (by rw [kmX7_isPhrase, klX7_isPhrase, klX7_alike]; rfl) (by rw [kmX7_isPhrase]; exact h3) h4
theorem yX7_alike_X7_isWithin {na : Nat} {r : List mm_V} (h3 : Nat.ble na 3 = true) (h4 : Nat.ble r.length 8 = true) : mm_roomy 85 89 na r = true := mm_roomy_of (by rw [kfX7_isWithin, kfX7_alike]; rfl) (by rw [kmX7_isWithin, klX7_isWithin, klX7_alike]; rfl) (by rw [kmX7_isWithin]; exact h3) h4
theorem yX7_bears_X6_weigh {na : Nat} {r : List mm_V} (h3 : Nat.ble na 2 = true) (h4 : Nat.ble r.length 8 = true) : mm_roomy 75 52 na r = true := mm_roomy_of (by rw [kfX6_weigh, kfX7_bears]; rfl) (by rw [kmX6_weigh, klX6_weigh, klX7_bears]; rfl) (by rw [kmX6_weigh]; exact h3) h4
theorem yX7_bears_X7_isBeat {na : Nat} {r : List mm_V} (h3 : Nat.ble na 2 = true) (h4 : Nat.ble r.length 8 = true) : mm_roomy 75 92 na r = true := mm_roomy_of (by rw [kfX7_isBeat, kfX7_bears]; rfl) (by rw [kmX7_isBeat, klX7_isBeat, klX7_bears]; rfl) (by rw [kmX7_isBeat]; exact h3) h4
theorem yX7_beats_X6_beatsOn {na : Nat} {r : List mm_V} (h3 : Nat.ble na 4 = true) (h4 : Nat.ble r.length 8 = true) : mm_roomy 79 58 na r = true := mm_roomy_of (by rw [kfX6_beatsOn, kfX7_beats]; rfl) (by rw [kmX6_beatsOn, klX6_beatsOn, klX7_beats]; rfl) (by rw [kmX6_beatsOn]; exact h3) h4
theorem yX7_beats_X6_flightCount {na : Nat} {r : List mm_V} (h3 : Nat.ble na 4 = true) (h4 : Nat.ble r.length 8 = true) : mm_roomy 79 60 na r = true := mm_roomy_of (by rw [kfX6_flightCount, kfX7_beats]; rfl) (by rw [kmX6_flightCount, klX6_flightCount, klX7_beats]; rfl) (by rw [kmX6_flightCount]; exact h3) h4
theorem yX7_beats_X6_longestFlight {na : Nat} {r : List mm_V} (h3 : Nat.ble na 3 = true) (h4 : Nat.ble r.length 8 = true) : mm_roomy 79 59 na r = true := mm_roomy_of (by rw [kfX6_longestFlight, kfX7_beats]; rfl) (by rw [kmX6_longestFlight, klX6_longestFlight, klX7_beats]; rfl) (by rw [kmX6_longestFlight]; exact h3) h4
theorem yX7_beats_X6_weigh {na : Nat} {r : List mm_V} (h3 : Nat.ble na 2 = true) (h4 : Nat.ble r.length 8 = true) : mm_roomy 79 52 na r = true := mm_roomy_of (by rw [kfX6_weigh, kfX7_beats]; rfl) (by rw [kmX6_weigh, klX6_weigh, klX7_beats]; rfl) (by rw [kmX6_weigh]; exact h3) h4
theorem yX7_beats_X6_wrongBeats {na : Nat} {r : List mm_V} (h3 : Nat.ble na 3 = true) (h4 : Nat.ble r.length 8 = true) : mm_roomy 79 57 na r = true := mm_roomy_of (by rw [kfX6_wrongBeats, kfX7_beats]; rfl) (by rw [kmX6_wrongBeats, klX6_wrongBeats, klX7_beats]; rfl) (by rw [kmX6_wrongBeats]; exact h3) h4
theorem yX7_beats_X7_isWithin {na : Nat} {r : List mm_V} (h3 : Nat.ble na 3 = true) (h4 : Nat.ble r.length 8 = true) : mm_roomy 79 89 na r = true := mm_roomy_of (by rw [kfX7_isWithin, kfX7_beats]; rfl) (by rw [kmX7_isWithin, klX7_isWithin, klX7_beats]; rfl) (by rw [kmX7_isWithin]; exact h3) h4
theorem yX7_canTryPhrase_X2_at {na : Nat} {r : List mm_V} (h3 : Nat.ble na 2 = true) (h4 : Nat.ble r.length 8 = true) : mm_roomy 98 8 na r = true := mm_roomy_of (by rw [kfX2_at, kfX7_canTryPhrase]; rfl) (by rw [kmX2_at, klX2_at, klX7_canTryPhrase]; rfl) (by rw [kmX2_at]; exact h3) h4
theorem yX7_canTryPhrase_X2_become {na : Nat} {r : List mm_V} (h3 : Nat.ble na 2 = true) (h4 : Nat.ble r.length 8 = true) : mm_roomy 98 7 na r = true := mm_roomy_of (by rw [kfX2_become, kfX7_canTryPhrase]; rfl) (by rw [kmX2_become, klX2_become, klX7_canTryPhrase]; rfl) (by rw [kmX2_become]; exact h3) h4
theorem yX7_canTryPhrase_X2_hasRoomFor {na : Nat} {r : List mm_V} (h3 : Nat.ble na 6 = true) (h4 : Nat.ble r.length 8 = true) : mm_roomy 98 9 na r = true := mm_roomy_of (by rw [kfX2_hasRoomFor, kfX7_canTryPhrase]; rfl) (by rw [kmX2_hasRoomFor, klX2_hasRoomFor, klX7_canTryPhrase]; rfl) (by rw [kmX2_hasRoomFor]; exact h3) h4
theorem yX7_canTryPhrase_X2_put {na : Nat} {r : List mm_V} (h3 : Nat.ble na 3 = true) (h4 : Nat.ble r.length 8 = true) : mm_roomy 98 10 na r = true := mm_roomy_of (by rw [kfX2_put, kfX7_canTryPhrase]; rfl) (by rw [kmX2_put, klX2_put, klX7_canTryPhrase]; rfl) (by rw [kmX2_put]; exact h3) h4
theorem yX7_copyOf_X4_mirrored {na : Nat} {r : List mm_V} (h3 : Nat.ble na 1 = true) (h4 : Nat.ble r.length 8 = true) : mm_roomy 97 44 na r = true := mm_roomy_of (by rw [kfX4_mirrored, kfX7_copyOf]; rfl) (by rw [kmX4_mirrored, klX4_mirrored, klX7_copyOf]; rfl) (by rw [kmX4_mirrored]; exact h3) h4
theorem yX7_copyOf_X4_turnedBack {na : Nat} {r : List mm_V} (h3 : Nat.ble na 1 = true) (h4 : Nat.ble r.length 8 = true) : mm_roomy 97 43 na r = true := mm_roomy_of (by rw [kfX4_turnedBack, kfX7_copyOf]; rfl) (by rw [kmX4_turnedBack, klX4_turnedBack, klX7_copyOf]; rfl) (by rw [kmX4_turnedBack]; exact h3) h4
theorem yX7_copyPhrase_X1_keep {na : Nat} {r : List mm_V} (h3 : Nat.ble na 4 = true) (h4 : Nat.ble r.length 8 = true) : mm_roomy 68 3 na r = true := mm_roomy_of (by rw [kfX1_keep, kfX7_copyPhrase]; rfl) (by rw [kmX1_keep, klX1_keep, klX7_copyPhrase]; rfl) (by rw [kmX1_keep]; exact h3) h4
theorem yX7_copyPhrase_X2_at {na : Nat} {r : List mm_V} (h3 : Nat.ble na 2 = true) (h4 : Nat.ble r.length 8 = true) : mm_roomy 68 8 na r = true := mm_roomy_of (by rw [kfX2_at, kfX7_copyPhrase]; rfl) (by rw [kmX2_at, klX2_at, klX7_copyPhrase]; rfl) (by rw [kmX2_at]; exact h3) h4
theorem yX7_copyPhrase_X2_become {na : Nat} {r : List mm_V} (h3 : Nat.ble na 2 = true) (h4 : Nat.ble r.length 8 = true) : mm_roomy 68 7 na r = true := mm_roomy_of (by rw [kfX2_become, kfX7_copyPhrase]; rfl) (by rw [kmX2_become, klX2_become, klX7_copyPhrase]; rfl) (by rw [kmX2_become]; exact h3) h4
theorem yX7_copyPhrase_X2_emptyAs {na : Nat} {r : List mm_V} (h3 : Nat.ble na 2 = true) (h4 : Nat.ble r.length 8 = true) : mm_roomy 68 6 na r = true := mm_roomy_of (by rw [kfX2_emptyAs, kfX7_copyPhrase]; rfl) (by rw [kmX2_emptyAs, klX2_emptyAs, klX7_copyPhrase]; rfl) (by rw [kmX2_emptyAs]; exact h3) h4
theorem yX7_copyPhrase_X2_put {na : Nat} {r : List mm_V} (h3 : Nat.ble na 3 = true) (h4 : Nat.ble r.length 8 = true) : mm_roomy 68 10 na r = true := mm_roomy_of (by rw [kfX2_put, kfX7_copyPhrase]; rfl) (by rw [kmX2_put, klX2_put, klX7_copyPhrase]; rfl) (by rw [kmX2_put]; exact h3) h4
theorem yX7_copyPhrase_X4_beginOf {na : Nat} {r : List mm_V} (h3 : Nat.ble na 1 = true) (h4 : Nat.ble r.length 8 = true) : mm_roomy 68 33 na r = true := mm_roomy_of (by rw [kfX4_beginOf, kfX7_copyPhrase]; rfl) (by rw [kmX4_beginOf, klX4_beginOf, klX7_copyPhrase]; rfl) (by rw [kmX4_beginOf]; exact h3) h4
theorem yX7_copyPhrase_X4_movedTo {na : Nat} {r : List mm_V} (h3 : Nat.ble na 2 = true) (h4 : Nat.ble r.length 8 = true) : mm_roomy 68 42 na r = true := mm_roomy_of (by rw [kfX4_movedTo, kfX7_copyPhrase]; rfl) (by rw [kmX4_movedTo, klX4_movedTo, klX7_copyPhrase]; rfl) (by rw [kmX4_movedTo]; exact h3) h4
theorem yX7_copyPhrase_X4_shortEndOf {na : Nat} {r : List mm_V} (h3 : Nat.ble na 1 = true) (h4 : Nat.ble r.length 8 = true) : mm_roomy 68 40 na r = true := mm_roomy_of (by rw [kfX4_shortEndOf, kfX7_copyPhrase]; rfl) (by rw [kmX4_shortEndOf, klX4_shortEndOf, klX7_copyPhrase]; rfl) (by rw [kmX4_shortEndOf]; exact h3) h4
theorem yX7_copyPhrase_X7_canTryPhrase {na : Nat} {r : List mm_V} (h3 : Nat.ble na 3 = true) (h4 : Nat.ble r.length 8 = true) : mm_roomy 68 98 na r = true := mm_roomy_of (by rw [kfX7_canTryPhrase, kfX7_copyPhrase]; rfl) (by rw [kmX7_canTryPhrase, klX7_canTryPhrase, klX7_copyPhrase]; rfl) (by rw [kmX7_canTryPhrase]; exact h3) h4
theorem yX7_copyPhrase_X7_copyOf {na : Nat} {r : List mm_V} (h3 : Nat.ble na 4 = true) (h4 : Nat.ble r.length 8 = true) : mm_roomy 68 97 na r = true := mm_roomy_of (by rw [kfX7_copyOf, kfX7_copyPhrase]; rfl) (by rw [kmX7_copyOf, klX7_copyOf, klX7_copyPhrase]; rfl) (by rw [kmX7_copyOf]; exact h3) h4
theorem yX7_copyPhrase_X7_isBeat {na : Nat} {r : List mm_V} (h3 : Nat.ble na 2 = true) (h4 : Nat.ble r.length 8 = true) : mm_roomy 68 92 na r = true := mm_roomy_of (by rw [kfX7_isBeat, kfX7_copyPhrase]; rfl) (by rw [kmX7_isBeat, klX7_isBeat, klX7_copyPhrase]; rfl) (by rw [kmX7_isBeat]; exact h3) h4
theorem yX7_copyPhrase_X7_isFlag {na : Nat} {r : List mm_V} (h3 : Nat.ble na 1 = true) (h4 : Nat.ble r.length 8 = true) : mm_roomy 68 90 na r = true := mm_roomy_of (by rw [kfX7_isFlag, kfX7_copyPhrase]; rfl) (by rw [kmX7_isFlag, klX7_isFlag, klX7_copyPhrase]; rfl) (by rw [kmX7_isFlag]; exact h3) h4
theorem yX7_copyPhrase_X7_isInPhrase {na : Nat} {r : List mm_V} (h3 : Nat.ble na 3 = true) (h4 : Nat.ble r.length 8 = true) : mm_roomy 68 96 na r = true := mm_roomy_of (by rw [kfX7_isInPhrase, kfX7_copyPhrase]; rfl) (by rw [kmX7_isInPhrase, klX7_isInPhrase, klX7_copyPhrase]; rfl) (by rw [kmX7_isInPhrase]; exact h3) h4
theorem yX7_copyPhrase_X7_isPhrase {na : Nat} {r : List mm_V} (h3 : Nat.ble na 3 = true) (h4 : Nat.ble r.length 8 = true) : mm_roomy 68 94 na r = true := mm_roomy_of (by rw [kfX7_isPhrase, kfX7_copyPhrase]; rfl) (by rw [kmX7_isPhrase, klX7_isPhrase, klX7_copyPhrase]; rfl) (by rw [kmX7_isPhrase]; exact h3) h4
theorem yX7_covered_X2_fillRow {na : Nat} {r : List mm_V} (h3 : Nat.ble na 6 = true) (h4 : Nat.ble r.length 8 = true) : mm_roomy 81 14 na r = true := mm_roomy_of (by rw [kfX2_fillRow, kfX7_covered]; rfl) (by rw [kmX2_fillRow, klX2_fillRow, klX7_covered]; rfl) (by rw [kmX2_fillRow]; exact h3) h4
theorem yX7_covered_X4_kindOf {na : Nat} {r : List mm_V} (h3 : Nat.ble na 1 = true) (h4 : Nat.ble r.length 8 = true) : mm_roomy 81 36 na r = true := mm_roomy_of (by rw [kfX4_kindOf, kfX7_covered]; rfl) (by rw [kmX4_kindOf, klX4_kindOf, klX7_covered]; rfl) (by rw [kmX4_kindOf]; exact h3) h4
theorem yX7_covered_X7_isColumn {na : Nat} {r : List mm_V} (h3 : Nat.ble na 1 = true) (h4 : Nat.ble r.length 8 = true) : mm_roomy 81 91 na r = true := mm_roomy_of (by rw [kfX7_isColumn, kfX7_covered]; rfl) (by rw [kmX7_isColumn, klX7_isColumn, klX7_covered]; rfl) (by rw [kmX7_isColumn]; exact h3) h4
theorem yX7_covered_X7_isWithin {na : Nat} {r : List mm_V} (h3 : Nat.ble na 3 = true) (h4 : Nat.ble r.length 8 = true) : mm_roomy 81 89 na r = true := mm_roomy_of (by rw [kfX7_isWithin, kfX7_covered]; rfl) (by rw [kmX7_isWithin, klX7_isWithin, klX7_covered]; rfl) (by rw [kmX7_isWithin]; exact h3) h4
theorem yX7_farthest_J9_max_7cf53 {na : Nat} {r : List mm_V} (h3 : Nat.ble na 2 = true) (h4 : Nat.ble r.length 8 = true) : mm_roomy 84 166 na r = true := mm_roomy_of (by rw [kfJ9_max_7cf53, kfX7_farthest]; rfl) (by rw [kmJ9_max_7cf53, klJ9_max_7cf53, klX7_farthest]; rfl) (by rw [kmJ9_max_7cf53]; exact h3) h4
theorem yX7_farthest_X5_distanceAt {na : Nat} {r : List mm_V} (h3 : Nat.ble na 2 = true) (h4 : Nat.ble r.length 8 = true) : mm_roomy 84 51 na r = true := mm_roomy_of (by rw [kfX5_distanceAt, kfX7_farthest]; rfl) (by rw [kmX5_distanceAt, klX5_distanceAt, klX7_farthest]; rfl) (by rw [kmX5_distanceAt]; exact h3) h4
theorem yX7_farthest_X5_follow {na : Nat} {r : List mm_V} (h3 : Nat.ble na 3 = true) (h4 : Nat.ble r.length 8 = true) : mm_roomy 84 47 na r = true := mm_roomy_of (by rw [kfX5_follow, kfX7_farthest]; rfl) (by rw [kmX5_follow, klX5_follow, klX7_farthest]; rfl) (by rw [kmX5_follow]; exact h3) h4
theorem yX7_fault_X3_readFor {na : Nat} {r : List mm_V} (h3 : Nat.ble na 5 = true) (h4 : Nat.ble r.length 8 = true) : mm_roomy 88 16 na r = true := mm_roomy_of (by rw [kfX3_readFor, kfX7_fault]; rfl) (by rw [kmX3_readFor, klX3_readFor, klX7_fault]; rfl) (by rw [kmX3_readFor]; exact h3) h4
theorem yX7_floor_X5_follow {na : Nat} {r : List mm_V} (h3 : Nat.ble na 3 = true) (h4 : Nat.ble r.length 8 = true) : mm_roomy 82 47 na r = true := mm_roomy_of (by rw [kfX5_follow, kfX7_floor]; rfl) (by rw [kmX5_follow, klX5_follow, klX7_floor]; rfl) (by rw [kmX5_follow]; exact h3) h4
theorem yX7_floor_X7_isWithin {na : Nat} {r : List mm_V} (h3 : Nat.ble na 3 = true) (h4 : Nat.ble r.length 8 = true) : mm_roomy 82 89 na r = true := mm_roomy_of (by rw [kfX7_isWithin, kfX7_floor]; rfl) (by rw [kmX7_isWithin, klX7_isWithin, klX7_floor]; rfl) (by rw [kmX7_isWithin]; exact h3) h4
theorem yX7_home_X5_distanceAt {na : Nat} {r : List mm_V} (h3 : Nat.ble na 2 = true) (h4 : Nat.ble r.length 8 = true) : mm_roomy 83 51 na r = true := mm_roomy_of (by rw [kfX5_distanceAt, kfX7_home]; rfl) (by rw [kmX5_distanceAt, klX5_distanceAt, klX7_home]; rfl) (by rw [kmX5_distanceAt]; exact h3) h4
theorem yX7_home_X5_follow {na : Nat} {r : List mm_V} (h3 : Nat.ble na 3 = true) (h4 : Nat.ble r.length 8 = true) : mm_roomy 83 47 na r = true := mm_roomy_of (by rw [kfX5_follow, kfX7_home]; rfl) (by rw [kmX5_follow, klX5_follow, klX7_home]; rfl) (by rw [kmX5_follow]; exact h3) h4
theorem yX7_isBeat_X7_isWithin {na : Nat} {r : List mm_V} (h3 : Nat.ble na 3 = true) (h4 : Nat.ble r.length 8 = true) : mm_roomy 92 89 na r = true := mm_roomy_of (by rw [kfX7_isWithin, kfX7_isBeat]; rfl) (by rw [kmX7_isWithin, klX7_isWithin, klX7_isBeat]; rfl) (by rw [kmX7_isWithin]; exact h3) h4
theorem yX7_isColumn_X7_isWithin {na : Nat} {r : List mm_V} (h3 : Nat.ble na 3 = true) (h4 : Nat.ble r.length 8 = true) : mm_roomy 91 89 na r = true := mm_roomy_of (by rw [kfX7_isWithin, kfX7_isColumn]; rfl) (by rw [kmX7_isWithin, klX7_isWithin, klX7_isColumn]; rfl) (by rw [kmX7_isWithin]; exact h3) h4
theorem yX7_isFaulty_X6_isWrong {na : Nat} {r : List mm_V} (h3 : Nat.ble na 2 = true) (h4 : Nat.ble r.length 8 = true) : mm_roomy 77 56 na r = true := mm_roomy_of (by rw [kfX6_isWrong, kfX7_isFaulty]; rfl) (by rw [kmX6_isWrong, klX6_isWrong, klX7_isFaulty]; rfl) (by rw [kmX6_isWrong]; exact h3) h4
theorem yX7_isFaulty_X6_weigh {na : Nat} {r : List mm_V} (h3 : Nat.ble na 2 = true) (h4 : Nat.ble r.length 8 = true) : mm_roomy 77 52 na r = true := mm_roomy_of (by rw [kfX6_weigh, kfX7_isFaulty]; rfl) (by rw [kmX6_weigh, klX6_weigh, klX7_isFaulty]; rfl) (by rw [kmX6_weigh]; exact h3) h4
theorem yX7_isFaulty_X7_isBeat {na : Nat} {r : List mm_V} (h3 : Nat.ble na 2 = true) (h4 : Nat.ble r.length 8 = true) : mm_roomy 77 92 na r = true := mm_roomy_of (by rw [kfX7_isBeat, kfX7_isFaulty]; rfl) (by rw [kmX7_isBeat, klX7_isBeat, klX7_isFaulty]; rfl) (by rw [kmX7_isBeat]; exact h3) h4
theorem yX7_isFlag_X7_isWithin {na : Nat} {r : List mm_V} (h3 : Nat.ble na 3 = true) (h4 : Nat.ble r.length 8 = true) : mm_roomy 90 89 na r = true := mm_roomy_of (by rw [kfX7_isWithin, kfX7_isFlag]; rfl) (by rw [kmX7_isWithin, klX7_isWithin, klX7_isFlag]; rfl) (by rw [kmX7_isWithin]; exact h3) h4
theorem yX7_isInPhrase_X4_beginOf {na : Nat} {r : List mm_V} (h3 : Nat.ble na 1 = true) (h4 : Nat.ble r.length 8 = true) : mm_roomy 96 33 na r = true := mm_roomy_of (by rw [kfX4_beginOf, kfX7_isInPhrase]; rfl) (by rw [kmX4_beginOf, klX4_beginOf, klX7_isInPhrase]; rfl) (by rw [kmX4_beginOf]; exact h3) h4
theorem yX7_isInPhrase_X4_shortEndOf {na : Nat} {r : List mm_V} (h3 : Nat.ble na 1 = true) (h4 : Nat.ble r.length 8 = true) : mm_roomy 96 40 na r = true := mm_roomy_of (by rw [kfX4_shortEndOf, kfX7_isInPhrase]; rfl) (by rw [kmX4_shortEndOf, klX4_shortEndOf, klX7_isInPhrase]; rfl) (by rw [kmX4_shortEndOf]; exact h3) h4
theorem yX7_isPhrase_X7_isBeat {na : Nat} {r : List mm_V} (h3 : Nat.ble na 2 = true) (h4 : Nat.ble r.length 8 = true) : mm_roomy 94 92 na r = true := mm_roomy_of (by rw [kfX7_isBeat, kfX7_isPhrase]; rfl) (by rw [kmX7_isBeat, klX7_isBeat, klX7_isPhrase]; rfl) (by rw [kmX7_isBeat]; exact h3) h4
theorem yX7_isPhrase_X7_isWithin {na : Nat} {r : List mm_V} (h3 : Nat.ble na 3 = true) (h4 : Nat.ble r.length 8 = true) : mm_roomy 94 89 na r = true := mm_roomy_of (by rw [kfX7_isWithin, kfX7_isPhrase]; rfl) (by rw [kmX7_isWithin, klX7_isWithin, klX7_isPhrase]; rfl) (by rw [kmX7_isWithin]; exact h3) h4
theorem yX7_isSpan_X7_isBeat {na : Nat} {r : List mm_V} (h3 : Nat.ble na 2 = true) (h4 : Nat.ble r.length 8 = true) : mm_roomy 93 92 na r = true := mm_roomy_of (by rw [kfX7_isBeat, kfX7_isSpan]; rfl) (by rw [kmX7_isBeat, klX7_isBeat, klX7_isSpan]; rfl) (by rw [kmX7_isBeat]; exact h3) h4
theorem yX7_isSpan_X7_isWithin {na : Nat} {r : List mm_V} (h3 : Nat.ble na 3 = true) (h4 : Nat.ble r.length 8 = true) : mm_roomy 93 89 na r = true := mm_roomy_of (by rw [kfX7_isWithin, kfX7_isSpan]; rfl) (by rw [kmX7_isWithin, klX7_isWithin, klX7_isSpan]; rfl) (by rw [kmX7_isWithin]; exact h3) h4
theorem yX7_lay_X1_keep {na : Nat} {r : List mm_V} (h3 : Nat.ble na 4 = true) (h4 : Nat.ble r.length 8 = true) : mm_roomy 70 3 na r = true := mm_roomy_of (by rw [kfX1_keep, kfX7_lay]; rfl) (by rw [kmX1_keep, klX1_keep, klX7_lay]; rfl) (by rw [kmX1_keep]; exact h3) h4
theorem yX7_lay_X2_become {na : Nat} {r : List mm_V} (h3 : Nat.ble na 2 = true) (h4 : Nat.ble r.length 8 = true) : mm_roomy 70 7 na r = true := mm_roomy_of (by rw [kfX2_become, kfX7_lay]; rfl) (by rw [kmX2_become, klX2_become, klX7_lay]; rfl) (by rw [kmX2_become]; exact h3) h4
theorem yX7_lay_X3_readFor {na : Nat} {r : List mm_V} (h3 : Nat.ble na 5 = true) (h4 : Nat.ble r.length 8 = true) : mm_roomy 70 16 na r = true := mm_roomy_of (by rw [kfX3_readFor, kfX7_lay]; rfl) (by rw [kmX3_readFor, klX3_readFor, klX7_lay]; rfl) (by rw [kmX3_readFor]; exact h3) h4
theorem yX7_leastLeap_X6_isAnyLegTold {na : Nat} {r : List mm_V} (h3 : Nat.ble na 2 = true) (h4 : Nat.ble r.length 8 = true) : mm_roomy 80 61 na r = true := mm_roomy_of (by rw [kfX6_isAnyLegTold, kfX7_leastLeap]; rfl) (by rw [kmX6_isAnyLegTold, klX6_isAnyLegTold, klX7_leastLeap]; rfl) (by rw [kmX6_isAnyLegTold]; exact h3) h4
theorem yX7_leastLeap_X6_longestFlight {na : Nat} {r : List mm_V} (h3 : Nat.ble na 3 = true) (h4 : Nat.ble r.length 8 = true) : mm_roomy 80 59 na r = true := mm_roomy_of (by rw [kfX6_longestFlight, kfX7_leastLeap]; rfl) (by rw [kmX6_longestFlight, klX6_longestFlight, klX7_leastLeap]; rfl) (by rw [kmX6_longestFlight]; exact h3) h4
theorem yX7_leastLeap_X6_weigh {na : Nat} {r : List mm_V} (h3 : Nat.ble na 2 = true) (h4 : Nat.ble r.length 8 = true) : mm_roomy 80 52 na r = true := mm_roomy_of (by rw [kfX6_weigh, kfX7_leastLeap]; rfl) (by rw [kmX6_weigh, klX6_weigh, klX7_leastLeap]; rfl) (by rw [kmX6_weigh]; exact h3) h4
theorem yX7_nextFault_X6_isWrong {na : Nat} {r : List mm_V} (h3 : Nat.ble na 2 = true) (h4 : Nat.ble r.length 8 = true) : mm_roomy 78 56 na r = true := mm_roomy_of (by rw [kfX6_isWrong, kfX7_nextFault]; rfl) (by rw [kmX6_isWrong, klX6_isWrong, klX7_nextFault]; rfl) (by rw [kmX6_isWrong]; exact h3) h4
theorem yX7_nextFault_X6_weigh {na : Nat} {r : List mm_V} (h3 : Nat.ble na 2 = true) (h4 : Nat.ble r.length 8 = true) : mm_roomy 78 52 na r = true := mm_roomy_of (by rw [kfX6_weigh, kfX7_nextFault]; rfl) (by rw [kmX6_weigh, klX6_weigh, klX7_nextFault]; rfl) (by rw [kmX6_weigh]; exact h3) h4
theorem yX7_nextFault_X7_isBeat {na : Nat} {r : List mm_V} (h3 : Nat.ble na 2 = true) (h4 : Nat.ble r.length 8 = true) : mm_roomy 78 92 na r = true := mm_roomy_of (by rw [kfX7_isBeat, kfX7_nextFault]; rfl) (by rw [kmX7_isBeat, klX7_isBeat, klX7_nextFault]; rfl) (by rw [kmX7_isBeat]; exact h3) h4
theorem yX7_removeSign_X1_keep {na : Nat} {r : List mm_V} (h3 : Nat.ble na 4 = true) (h4 : Nat.ble r.length 8 = true) : mm_roomy 67 3 na r = true := mm_roomy_of (by rw [kfX1_keep, kfX7_removeSign]; rfl) (by rw [kmX1_keep, klX1_keep, klX7_removeSign]; rfl) (by rw [kmX1_keep]; exact h3) h4
theorem yX7_removeSign_X2_takeOut {na : Nat} {r : List mm_V} (h3 : Nat.ble na 3 = true) (h4 : Nat.ble r.length 8 = true) : mm_roomy 67 11 na r = true := mm_roomy_of (by rw [kfX2_takeOut, kfX7_removeSign]; rfl) (by rw [kmX2_takeOut, klX2_takeOut, klX7_removeSign]; rfl) (by rw [kmX2_takeOut]; exact h3) h4
theorem yX7_removeSign_X7_isWithin {na : Nat} {r : List mm_V} (h3 : Nat.ble na 3 = true) (h4 : Nat.ble r.length 8 = true) : mm_roomy 67 89 na r = true := mm_roomy_of (by rw [kfX7_isWithin, kfX7_removeSign]; rfl) (by rw [kmX7_isWithin, klX7_isWithin, klX7_removeSign]; rfl) (by rw [kmX7_isWithin]; exact h3) h4
theorem yX7_reset_X1_keep {na : Nat} {r : List mm_V} (h3 : Nat.ble na 4 = true) (h4 : Nat.ble r.length 8 = true) : mm_roomy 62 3 na r = true := mm_roomy_of (by rw [kfX1_keep, kfX7_reset]; rfl) (by rw [kmX1_keep, klX1_keep, klX7_reset]; rfl) (by rw [kmX1_keep]; exact h3) h4
theorem yX7_reset_X2_empty {na : Nat} {r : List mm_V} (h3 : Nat.ble na 2 = true) (h4 : Nat.ble r.length 8 = true) : mm_roomy 62 5 na r = true := mm_roomy_of (by rw [kfX2_empty, kfX7_reset]; rfl) (by rw [kmX2_empty, klX2_empty, klX7_reset]; rfl) (by rw [kmX2_empty]; exact h3) h4
theorem yX7_reset_X7_isWithin {na : Nat} {r : List mm_V} (h3 : Nat.ble na 3 = true) (h4 : Nat.ble r.length 8 = true) : mm_roomy 62 89 na r = true := mm_roomy_of (by rw [kfX7_isWithin, kfX7_reset]; rfl) (by rw [kmX7_isWithin, klX7_isWithin, klX7_reset]; rfl) (by rw [kmX7_isWithin]; exact h3) h4
theorem yX7_setLeap_X1_keep {na : Nat} {r : List mm_V} (h3 : Nat.ble na 4 = true) (h4 : Nat.ble r.length 8 = true) : mm_roomy 69 3 na r = true := mm_roomy_of (by rw [kfX1_keep, kfX7_setLeap]; rfl) (by rw [kmX1_keep, klX1_keep, klX7_setLeap]; rfl) (by rw [kmX1_keep]; exact h3) h4
theorem yX7_setLeap_X7_isWithin {na : Nat} {r : List mm_V} (h3 : Nat.ble na 3 = true) (h4 : Nat.ble r.length 8 = true) : mm_roomy 69 89 na r = true := mm_roomy_of (by rw [kfX7_isWithin, kfX7_setLeap]; rfl) (by rw [kmX7_isWithin, klX7_isWithin, klX7_setLeap]; rfl) (by rw [kmX7_isWithin]; exact h3) h4
theorem yX7_sign_X2_at {na : Nat} {r : List mm_V} (h3 : Nat.ble na 2 = true) (h4 : Nat.ble r.length 8 = true) : mm_roomy 73 8 na r = true := mm_roomy_of (by rw [kfX2_at, kfX7_sign]; rfl) (by rw [kmX2_at, klX2_at, klX7_sign]; rfl) (by rw [kmX2_at]; exact h3) h4
theorem yX7_sign_X2_endOf {na : Nat} {r : List mm_V} (h3 : Nat.ble na 4 = true) (h4 : Nat.ble r.length 8 = true) : mm_roomy 73 12 na r = true := mm_roomy_of (by rw [kfX2_endOf, kfX7_sign]; rfl) (by rw [kmX2_endOf, klX2_endOf, klX7_sign]; rfl) (by rw [kmX2_endOf]; exact h3) h4
theorem yX7_sign_X4_amountOf {na : Nat} {r : List mm_V} (h3 : Nat.ble na 1 = true) (h4 : Nat.ble r.length 8 = true) : mm_roomy 73 39 na r = true := mm_roomy_of (by rw [kfX4_amountOf, kfX7_sign]; rfl) (by rw [kmX4_amountOf, klX4_amountOf, klX7_sign]; rfl) (by rw [kmX4_amountOf]; exact h3) h4
theorem yX7_sign_X4_beginOf {na : Nat} {r : List mm_V} (h3 : Nat.ble na 1 = true) (h4 : Nat.ble r.length 8 = true) : mm_roomy 73 33 na r = true := mm_roomy_of (by rw [kfX4_beginOf, kfX7_sign]; rfl) (by rw [kmX4_beginOf, klX4_beginOf, klX7_sign]; rfl) (by rw [kmX4_beginOf]; exact h3) h4
theorem yX7_sign_X4_columnOf {na : Nat} {r : List mm_V} (h3 : Nat.ble na 1 = true) (h4 : Nat.ble r.length 8 = true) : mm_roomy 73 34 na r = true := mm_roomy_of (by rw [kfX4_columnOf, kfX7_sign]; rfl) (by rw [kmX4_columnOf, klX4_columnOf, klX7_sign]; rfl) (by rw [kmX4_columnOf]; exact h3) h4
theorem yX7_sign_X4_directionOf {na : Nat} {r : List mm_V} (h3 : Nat.ble na 1 = true) (h4 : Nat.ble r.length 8 = true) : mm_roomy 73 37 na r = true := mm_roomy_of (by rw [kfX4_directionOf, kfX7_sign]; rfl) (by rw [kmX4_directionOf, klX4_directionOf, klX7_sign]; rfl) (by rw [kmX4_directionOf]; exact h3) h4
theorem yX7_sign_X4_kindOf {na : Nat} {r : List mm_V} (h3 : Nat.ble na 1 = true) (h4 : Nat.ble r.length 8 = true) : mm_roomy 73 36 na r = true := mm_roomy_of (by rw [kfX4_kindOf, kfX7_sign]; rfl) (by rw [kmX4_kindOf, klX4_kindOf, klX7_sign]; rfl) (by rw [kmX4_kindOf]; exact h3) h4
theorem yX7_sign_X4_levelOf {na : Nat} {r : List mm_V} (h3 : Nat.ble na 1 = true) (h4 : Nat.ble r.length 8 = true) : mm_roomy 73 38 na r = true := mm_roomy_of (by rw [kfX4_levelOf, kfX7_sign]; rfl) (by rw [kmX4_levelOf, klX4_levelOf, klX7_sign]; rfl) (by rw [kmX4_levelOf]; exact h3) h4
theorem yX7_sign_X7_isWithin {na : Nat} {r : List mm_V} (h3 : Nat.ble na 3 = true) (h4 : Nat.ble r.length 8 = true) : mm_roomy 73 89 na r = true := mm_roomy_of (by rw [kfX7_isWithin, kfX7_sign]; rfl) (by rw [kmX7_isWithin, klX7_isWithin, klX7_sign]; rfl) (by rw [kmX7_isWithin]; exact h3) h4
theorem yX7_signAt_X2_numberCovering {na : Nat} {r : List mm_V} (h3 : Nat.ble na 5 = true) (h4 : Nat.ble r.length 8 = true) : mm_roomy 74 13 na r = true := mm_roomy_of (by rw [kfX2_numberCovering, kfX7_signAt]; rfl) (by rw [kmX2_numberCovering, klX2_numberCovering, klX7_signAt]; rfl) (by rw [kmX2_numberCovering]; exact h3) h4
theorem yX7_signAt_X7_isBeat {na : Nat} {r : List mm_V} (h3 : Nat.ble na 2 = true) (h4 : Nat.ble r.length 8 = true) : mm_roomy 74 92 na r = true := mm_roomy_of (by rw [kfX7_isBeat, kfX7_signAt]; rfl) (by rw [kmX7_isBeat, klX7_isBeat, klX7_signAt]; rfl) (by rw [kmX7_isBeat]; exact h3) h4
theorem yX7_signAt_X7_isColumn {na : Nat} {r : List mm_V} (h3 : Nat.ble na 1 = true) (h4 : Nat.ble r.length 8 = true) : mm_roomy 74 91 na r = true := mm_roomy_of (by rw [kfX7_isColumn, kfX7_signAt]; rfl) (by rw [kmX7_isColumn, klX7_isColumn, klX7_signAt]; rfl) (by rw [kmX7_isColumn]; exact h3) h4
theorem yX7_toldTwice_X6_weigh {na : Nat} {r : List mm_V} (h3 : Nat.ble na 2 = true) (h4 : Nat.ble r.length 8 = true) : mm_roomy 76 52 na r = true := mm_roomy_of (by rw [kfX6_weigh, kfX7_toldTwice]; rfl) (by rw [kmX6_weigh, klX6_weigh, klX7_toldTwice]; rfl) (by rw [kmX6_weigh]; exact h3) h4
theorem yX7_toldTwice_X7_isBeat {na : Nat} {r : List mm_V} (h3 : Nat.ble na 2 = true) (h4 : Nat.ble r.length 8 = true) : mm_roomy 76 92 na r = true := mm_roomy_of (by rw [kfX7_isBeat, kfX7_toldTwice]; rfl) (by rw [kmX7_isBeat, klX7_isBeat, klX7_toldTwice]; rfl) (by rw [kmX7_isBeat]; exact h3) h4
theorem yX7_type_X3_append {na : Nat} {r : List mm_V} (h3 : Nat.ble na 2 = true) (h4 : Nat.ble r.length 8 = true) : mm_roomy 86 15 na r = true := mm_roomy_of (by rw [kfX3_append, kfX7_type]; rfl) (by rw [kmX3_append, klX3_append, klX7_type]; rfl) (by rw [kmX3_append]; exact h3) h4
theorem yX7_type_X7_isWithin {na : Nat} {r : List mm_V} (h3 : Nat.ble na 3 = true) (h4 : Nat.ble r.length 8 = true) : mm_roomy 86 89 na r = true := mm_roomy_of (by rw [kfX7_isWithin, kfX7_type]; rfl) (by rw [kmX7_isWithin, klX7_isWithin, klX7_type]; rfl) (by rw [kmX7_isWithin]; exact h3) h4
theorem yX7_undo_X1_restore {na : Nat} {r : List mm_V} (h3 : Nat.ble na 4 = true) (h4 : Nat.ble r.length 8 = true) : mm_roomy 71 4 na r = true := mm_roomy_of (by rw [kfX1_restore, kfX7_undo]; rfl) (by rw [kmX1_restore, klX1_restore, klX7_undo]; rfl) (by rw [kmX1_restore]; exact h3) h4
theorem yX8_addHold_X8_adds {na : Nat} {r : List mm_V} (h3 : Nat.ble na 7 = true) (h4 : Nat.ble r.length 8 = true) : mm_roomy 113 109 na r = true := mm_roomy_of (by rw [kfX8_adds, kfX8_addHold]; rfl) (by rw [kmX8_adds, klX8_adds, klX8_addHold]; rfl) (by rw [kmX8_adds]; exact h3) h4
theorem yX8_addHold_X8_isBeat {na : Nat} {r : List mm_V} (h3 : Nat.ble na 2 = true) (h4 : Nat.ble r.length 8 = true) : mm_roomy 113 100 na r = true := mm_roomy_of (by rw [kfX8_isBeat, kfX8_addHold]; rfl) (by rw [kmX8_isBeat, klX8_isBeat, klX8_addHold]; rfl) (by rw [kmX8_isBeat]; exact h3) h4
theorem yX8_addHold_X8_isColumn {na : Nat} {r : List mm_V} (h3 : Nat.ble na 1 = true) (h4 : Nat.ble r.length 8 = true) : mm_roomy 113 101 na r = true := mm_roomy_of (by rw [kfX8_isColumn, kfX8_addHold]; rfl) (by rw [kmX8_isColumn, klX8_isColumn, klX8_addHold]; rfl) (by rw [kmX8_isColumn]; exact h3) h4
theorem yX8_addMove_X8_adds {na : Nat} {r : List mm_V} (h3 : Nat.ble na 7 = true) (h4 : Nat.ble r.length 8 = true) : mm_roomy 112 109 na r = true := mm_roomy_of (by rw [kfX8_adds, kfX8_addMove]; rfl) (by rw [kmX8_adds, klX8_adds, klX8_addMove]; rfl) (by rw [kmX8_adds]; exact h3) h4
theorem yX8_addMove_X8_in {na : Nat} {r : List mm_V} (h3 : Nat.ble na 3 = true) (h4 : Nat.ble r.length 8 = true) : mm_roomy 112 99 na r = true := mm_roomy_of (by rw [kfX8_in, kfX8_addMove]; rfl) (by rw [kmX8_in, klX8_in, klX8_addMove]; rfl) (by rw [kmX8_in]; exact h3) h4
theorem yX8_addMove_X8_isSpan {na : Nat} {r : List mm_V} (h3 : Nat.ble na 3 = true) (h4 : Nat.ble r.length 8 = true) : mm_roomy 112 110 na r = true := mm_roomy_of (by rw [kfX8_isSpan, kfX8_addMove]; rfl) (by rw [kmX8_isSpan, klX8_isSpan, klX8_addMove]; rfl) (by rw [kmX8_isSpan]; exact h3) h4
theorem yX8_addRelease_X8_adds {na : Nat} {r : List mm_V} (h3 : Nat.ble na 7 = true) (h4 : Nat.ble r.length 8 = true) : mm_roomy 115 109 na r = true := mm_roomy_of (by rw [kfX8_adds, kfX8_addRelease]; rfl) (by rw [kmX8_adds, klX8_adds, klX8_addRelease]; rfl) (by rw [kmX8_adds]; exact h3) h4
theorem yX8_addRelease_X8_isColumn {na : Nat} {r : List mm_V} (h3 : Nat.ble na 1 = true) (h4 : Nat.ble r.length 8 = true) : mm_roomy 115 101 na r = true := mm_roomy_of (by rw [kfX8_isColumn, kfX8_addRelease]; rfl) (by rw [kmX8_isColumn, klX8_isColumn, klX8_addRelease]; rfl) (by rw [kmX8_isColumn]; exact h3) h4
theorem yX8_addRelease_X8_isSpan {na : Nat} {r : List mm_V} (h3 : Nat.ble na 3 = true) (h4 : Nat.ble r.length 8 = true) : mm_roomy 115 110 na r = true := mm_roomy_of (by rw [kfX8_isSpan, kfX8_addRelease]; rfl) (by rw [kmX8_isSpan, klX8_isSpan, klX8_addRelease]; rfl) (by rw [kmX8_isSpan]; exact h3) h4
theorem yX8_addTurn_X8_adds {na : Nat} {r : List mm_V} (h3 : Nat.ble na 7 = true) (h4 : Nat.ble r.length 8 = true) : mm_roomy 114 109 na r = true := mm_roomy_of (by rw [kfX8_adds, kfX8_addTurn]; rfl) (by rw [kmX8_adds, klX8_adds, klX8_addTurn]; rfl) (by rw [kmX8_adds]; exact h3) h4
theorem yX8_addTurn_X8_in {na : Nat} {r : List mm_V} (h3 : Nat.ble na 3 = true) (h4 : Nat.ble r.length 8 = true) : mm_roomy 114 99 na r = true := mm_roomy_of (by rw [kfX8_in, kfX8_addTurn]; rfl) (by rw [kmX8_in, klX8_in, klX8_addTurn]; rfl) (by rw [kmX8_in]; exact h3) h4
theorem yX8_addTurn_X8_isSpan {na : Nat} {r : List mm_V} (h3 : Nat.ble na 3 = true) (h4 : Nat.ble r.length 8 = true) : mm_roomy 114 110 na r = true := mm_roomy_of (by rw [kfX8_isSpan, kfX8_addTurn]; rfl) (by rw [kmX8_isSpan, klX8_isSpan, klX8_addTurn]; rfl) (by rw [kmX8_isSpan]; exact h3) h4
theorem yX8_adds_X8_isFree {na : Nat} {r : List mm_V} (h3 : Nat.ble na 7 = true) (h4 : Nat.ble r.length 8 = true) : mm_roomy 109 107 na r = true := mm_roomy_of (by rw [kfX8_isFree, kfX8_adds]; rfl) (by rw [kmX8_isFree, klX8_isFree, klX8_adds]; rfl) (by rw [kmX8_isFree]; exact h3) h4
theorem yX8_adds_X8_puts {na : Nat} {r : List mm_V} (h3 : Nat.ble na 9 = true) (h4 : Nat.ble r.length 8 = true) : mm_roomy 109 108 na r = true := mm_roomy_of (by rw [kfX8_puts, kfX8_adds]; rfl) (by rw [kmX8_puts, klX8_puts, klX8_adds]; rfl) (by rw [kmX8_puts]; exact h3) h4
theorem yX8_adds_X8_records {na : Nat} {r : List mm_V} (h3 : Nat.ble na 2 = true) (h4 : Nat.ble r.length 8 = true) : mm_roomy 109 103 na r = true := mm_roomy_of (by rw [kfX8_records, kfX8_adds]; rfl) (by rw [kmX8_records, klX8_records, klX8_adds]; rfl) (by rw [kmX8_records]; exact h3) h4
theorem yX8_alike_X8_fills {na : Nat} {r : List mm_V} (h3 : Nat.ble na 4 = true) (h4 : Nat.ble r.length 8 = true) : mm_roomy 148 105 na r = true := mm_roomy_of (by rw [kfX8_fills, kfX8_alike]; rfl) (by rw [kmX8_fills, klX8_fills, klX8_alike]; rfl) (by rw [kmX8_fills]; exact h3) h4
theorem yX8_alike_X8_in {na : Nat} {r : List mm_V} (h3 : Nat.ble na 3 = true) (h4 : Nat.ble r.length 8 = true) : mm_roomy 148 99 na r = true := mm_roomy_of (by rw [kfX8_in, kfX8_alike]; rfl) (by rw [kmX8_in, klX8_in, klX8_alike]; rfl) (by rw [kmX8_in]; exact h3) h4
theorem yX8_alike_X8_isBeat {na : Nat} {r : List mm_V} (h3 : Nat.ble na 2 = true) (h4 : Nat.ble r.length 8 = true) : mm_roomy 148 100 na r = true := mm_roomy_of (by rw [kfX8_isBeat, kfX8_alike]; rfl) (by rw [kmX8_isBeat, klX8_isBeat, klX8_alike]; rfl) (by rw [kmX8_isBeat]; exact h3) h4
theorem yX8_alike_X8_isLike {na : Nat} {r : List mm_V} (h3 : Nat.ble na 9 = true) (h4 : Nat.ble r.length 8 = true) : mm_roomy 148 147 na r = true := mm_roomy_of (by rw [kfX8_isLike, kfX8_alike]; rfl) (by rw [kmX8_isLike, klX8_isLike, klX8_alike]; rfl) (by rw [kmX8_isLike]; exact h3) h4
theorem yX8_bears_X8_feet {na : Nat} {r : List mm_V} (h3 : Nat.ble na 2 = true) (h4 : Nat.ble r.length 8 = true) : mm_roomy 132 127 na r = true := mm_roomy_of (by rw [kfX8_feet, kfX8_bears]; rfl) (by rw [kmX8_feet, klX8_feet, klX8_bears]; rfl) (by rw [kmX8_feet]; exact h3) h4
theorem yX8_bears_X8_fills {na : Nat} {r : List mm_V} (h3 : Nat.ble na 4 = true) (h4 : Nat.ble r.length 8 = true) : mm_roomy 132 105 na r = true := mm_roomy_of (by rw [kfX8_fills, kfX8_bears]; rfl) (by rw [kmX8_fills, klX8_fills, klX8_bears]; rfl) (by rw [kmX8_fills]; exact h3) h4
theorem yX8_bears_X8_isBeat {na : Nat} {r : List mm_V} (h3 : Nat.ble na 2 = true) (h4 : Nat.ble r.length 8 = true) : mm_roomy 132 100 na r = true := mm_roomy_of (by rw [kfX8_isBeat, kfX8_bears]; rfl) (by rw [kmX8_isBeat, klX8_isBeat, klX8_bears]; rfl) (by rw [kmX8_isBeat]; exact h3) h4
theorem yX8_beats_X8_feet {na : Nat} {r : List mm_V} (h3 : Nat.ble na 2 = true) (h4 : Nat.ble r.length 8 = true) : mm_roomy 136 127 na r = true := mm_roomy_of (by rw [kfX8_feet, kfX8_beats]; rfl) (by rw [kmX8_feet, klX8_feet, klX8_beats]; rfl) (by rw [kmX8_feet]; exact h3) h4
theorem yX8_beats_X8_fills {na : Nat} {r : List mm_V} (h3 : Nat.ble na 4 = true) (h4 : Nat.ble r.length 8 = true) : mm_roomy 136 105 na r = true := mm_roomy_of (by rw [kfX8_fills, kfX8_beats]; rfl) (by rw [kmX8_fills, klX8_fills, klX8_beats]; rfl) (by rw [kmX8_fills]; exact h3) h4
theorem yX8_beats_X8_flight {na : Nat} {r : List mm_V} (h3 : Nat.ble na 4 = true) (h4 : Nat.ble r.length 8 = true) : mm_roomy 136 130 na r = true := mm_roomy_of (by rw [kfX8_flight, kfX8_beats]; rfl) (by rw [kmX8_flight, klX8_flight, klX8_beats]; rfl) (by rw [kmX8_flight]; exact h3) h4
theorem yX8_beats_X8_in {na : Nat} {r : List mm_V} (h3 : Nat.ble na 3 = true) (h4 : Nat.ble r.length 8 = true) : mm_roomy 136 99 na r = true := mm_roomy_of (by rw [kfX8_in, kfX8_beats]; rfl) (by rw [kmX8_in, klX8_in, klX8_beats]; rfl) (by rw [kmX8_in]; exact h3) h4
theorem yX8_beats_X8_isWrong {na : Nat} {r : List mm_V} (h3 : Nat.ble na 2 = true) (h4 : Nat.ble r.length 8 = true) : mm_roomy 136 131 na r = true := mm_roomy_of (by rw [kfX8_isWrong, kfX8_beats]; rfl) (by rw [kmX8_isWrong, klX8_isWrong, klX8_beats]; rfl) (by rw [kmX8_isWrong]; exact h3) h4
theorem yX8_collects_X8_endOf {na : Nat} {r : List mm_V} (h3 : Nat.ble na 3 = true) (h4 : Nat.ble r.length 8 = true) : mm_roomy 119 104 na r = true := mm_roomy_of (by rw [kfX8_endOf, kfX8_collects]; rfl) (by rw [kmX8_endOf, klX8_endOf, klX8_collects]; rfl) (by rw [kmX8_endOf]; exact h3) h4
theorem yX8_collects_X8_in {na : Nat} {r : List mm_V} (h3 : Nat.ble na 3 = true) (h4 : Nat.ble r.length 8 = true) : mm_roomy 119 99 na r = true := mm_roomy_of (by rw [kfX8_in, kfX8_collects]; rfl) (by rw [kmX8_in, klX8_in, klX8_collects]; rfl) (by rw [kmX8_in]; exact h3) h4
theorem yX8_collects_X8_turnedColumn {na : Nat} {r : List mm_V} (h3 : Nat.ble na 1 = true) (h4 : Nat.ble r.length 8 = true) : mm_roomy 119 117 na r = true := mm_roomy_of (by rw [kfX8_turnedColumn, kfX8_collects]; rfl) (by rw [kmX8_turnedColumn, klX8_turnedColumn, klX8_collects]; rfl) (by rw [kmX8_turnedColumn]; exact h3) h4
theorem yX8_collects_X8_turnedWay {na : Nat} {r : List mm_V} (h3 : Nat.ble na 2 = true) (h4 : Nat.ble r.length 8 = true) : mm_roomy 119 118 na r = true := mm_roomy_of (by rw [kfX8_turnedWay, kfX8_collects]; rfl) (by rw [kmX8_turnedWay, klX8_turnedWay, klX8_collects]; rfl) (by rw [kmX8_turnedWay]; exact h3) h4
theorem yX8_copyPhrase_X8_collects {na : Nat} {r : List mm_V} (h3 : Nat.ble na 15 = true) (h4 : Nat.ble r.length 8 = true) : mm_roomy 120 119 na r = true := mm_roomy_of (by rw [kfX8_collects, kfX8_copyPhrase]; rfl) (by rw [kmX8_collects, klX8_collects, klX8_copyPhrase]; rfl) (by rw [kmX8_collects]; exact h3) h4
theorem yX8_copyPhrase_X8_in {na : Nat} {r : List mm_V} (h3 : Nat.ble na 3 = true) (h4 : Nat.ble r.length 8 = true) : mm_roomy 120 99 na r = true := mm_roomy_of (by rw [kfX8_in, kfX8_copyPhrase]; rfl) (by rw [kmX8_in, klX8_in, klX8_copyPhrase]; rfl) (by rw [kmX8_in]; exact h3) h4
theorem yX8_copyPhrase_X8_isBeat {na : Nat} {r : List mm_V} (h3 : Nat.ble na 2 = true) (h4 : Nat.ble r.length 8 = true) : mm_roomy 120 100 na r = true := mm_roomy_of (by rw [kfX8_isBeat, kfX8_copyPhrase]; rfl) (by rw [kmX8_isBeat, klX8_isBeat, klX8_copyPhrase]; rfl) (by rw [kmX8_isBeat]; exact h3) h4
theorem yX8_copyPhrase_X8_isFree {na : Nat} {r : List mm_V} (h3 : Nat.ble na 7 = true) (h4 : Nat.ble r.length 8 = true) : mm_roomy 120 107 na r = true := mm_roomy_of (by rw [kfX8_isFree, kfX8_copyPhrase]; rfl) (by rw [kmX8_isFree, klX8_isFree, klX8_copyPhrase]; rfl) (by rw [kmX8_isFree]; exact h3) h4
theorem yX8_copyPhrase_X8_puts {na : Nat} {r : List mm_V} (h3 : Nat.ble na 9 = true) (h4 : Nat.ble r.length 8 = true) : mm_roomy 120 108 na r = true := mm_roomy_of (by rw [kfX8_puts, kfX8_copyPhrase]; rfl) (by rw [kmX8_puts, klX8_puts, klX8_copyPhrase]; rfl) (by rw [kmX8_puts]; exact h3) h4
theorem yX8_copyPhrase_X8_records {na : Nat} {r : List mm_V} (h3 : Nat.ble na 2 = true) (h4 : Nat.ble r.length 8 = true) : mm_roomy 120 103 na r = true := mm_roomy_of (by rw [kfX8_records, kfX8_copyPhrase]; rfl) (by rw [kmX8_records, klX8_records, klX8_copyPhrase]; rfl) (by rw [kmX8_records]; exact h3) h4
theorem yX8_covered_X8_covering {na : Nat} {r : List mm_V} (h3 : Nat.ble na 3 = true) (h4 : Nat.ble r.length 8 = true) : mm_roomy 138 106 na r = true := mm_roomy_of (by rw [kfX8_covering, kfX8_covered]; rfl) (by rw [kmX8_covering, klX8_covering, klX8_covered]; rfl) (by rw [kmX8_covering]; exact h3) h4
theorem yX8_covered_X8_fills {na : Nat} {r : List mm_V} (h3 : Nat.ble na 4 = true) (h4 : Nat.ble r.length 8 = true) : mm_roomy 138 105 na r = true := mm_roomy_of (by rw [kfX8_fills, kfX8_covered]; rfl) (by rw [kmX8_fills, klX8_fills, klX8_covered]; rfl) (by rw [kmX8_fills]; exact h3) h4
theorem yX8_covered_X8_in {na : Nat} {r : List mm_V} (h3 : Nat.ble na 3 = true) (h4 : Nat.ble r.length 8 = true) : mm_roomy 138 99 na r = true := mm_roomy_of (by rw [kfX8_in, kfX8_covered]; rfl) (by rw [kmX8_in, klX8_in, klX8_covered]; rfl) (by rw [kmX8_in]; exact h3) h4
theorem yX8_covered_X8_isColumn {na : Nat} {r : List mm_V} (h3 : Nat.ble na 1 = true) (h4 : Nat.ble r.length 8 = true) : mm_roomy 138 101 na r = true := mm_roomy_of (by rw [kfX8_isColumn, kfX8_covered]; rfl) (by rw [kmX8_isColumn, klX8_isColumn, klX8_covered]; rfl) (by rw [kmX8_isColumn]; exact h3) h4
theorem yX8_digit_X8_here {na : Nat} {r : List mm_V} (h3 : Nat.ble na 1 = true) (h4 : Nat.ble r.length 8 = true) : mm_roomy 153 151 na r = true := mm_roomy_of (by rw [kfX8_here, kfX8_digit]; rfl) (by rw [kmX8_here, klX8_here, klX8_digit]; rfl) (by rw [kmX8_here]; exact h3) h4
theorem yX8_digit_X8_in {na : Nat} {r : List mm_V} (h3 : Nat.ble na 3 = true) (h4 : Nat.ble r.length 8 = true) : mm_roomy 153 99 na r = true := mm_roomy_of (by rw [kfX8_in, kfX8_digit]; rfl) (by rw [kmX8_in, klX8_in, klX8_digit]; rfl) (by rw [kmX8_in]; exact h3) h4
theorem yX8_facing_X8_endOf {na : Nat} {r : List mm_V} (h3 : Nat.ble na 3 = true) (h4 : Nat.ble r.length 8 = true) : mm_roomy 139 104 na r = true := mm_roomy_of (by rw [kfX8_endOf, kfX8_facing]; rfl) (by rw [kmX8_endOf, klX8_endOf, klX8_facing]; rfl) (by rw [kmX8_endOf]; exact h3) h4
theorem yX8_farthest_X8_place {na : Nat} {r : List mm_V} (h3 : Nat.ble na 6 = true) (h4 : Nat.ble r.length 8 = true) : mm_roomy 146 142 na r = true := mm_roomy_of (by rw [kfX8_place, kfX8_farthest]; rfl) (by rw [kmX8_place, klX8_place, klX8_farthest]; rfl) (by rw [kmX8_place]; exact h3) h4
theorem yX8_farthest_X8_size {na : Nat} {r : List mm_V} (h3 : Nat.ble na 1 = true) (h4 : Nat.ble r.length 8 = true) : mm_roomy 146 145 na r = true := mm_roomy_of (by rw [kfX8_size, kfX8_farthest]; rfl) (by rw [kmX8_size, klX8_size, klX8_farthest]; rfl) (by rw [kmX8_size]; exact h3) h4
theorem yX8_fault_X8_keeps {na : Nat} {r : List mm_V} (h3 : Nat.ble na 2 = true) (h4 : Nat.ble r.length 8 = true) : mm_roomy 162 160 na r = true := mm_roomy_of (by rw [kfX8_keeps, kfX8_fault]; rfl) (by rw [kmX8_keeps, klX8_keeps, klX8_fault]; rfl) (by rw [kmX8_keeps]; exact h3) h4
theorem yX8_fault_X8_reads {na : Nat} {r : List mm_V} (h3 : Nat.ble na 2 = true) (h4 : Nat.ble r.length 8 = true) : mm_roomy 162 159 na r = true := mm_roomy_of (by rw [kfX8_reads, kfX8_fault]; rfl) (by rw [kmX8_reads, klX8_reads, klX8_fault]; rfl) (by rw [kmX8_reads]; exact h3) h4
theorem yX8_fault_X8_swaps {na : Nat} {r : List mm_V} (h3 : Nat.ble na 3 = true) (h4 : Nat.ble r.length 8 = true) : mm_roomy 162 161 na r = true := mm_roomy_of (by rw [kfX8_swaps, kfX8_fault]; rfl) (by rw [kmX8_swaps, klX8_swaps, klX8_fault]; rfl) (by rw [kmX8_swaps]; exact h3) h4
theorem yX8_feet_X8_isBearing {na : Nat} {r : List mm_V} (h3 : Nat.ble na 4 = true) (h4 : Nat.ble r.length 8 = true) : mm_roomy 127 126 na r = true := mm_roomy_of (by rw [kfX8_isBearing, kfX8_feet]; rfl) (by rw [kmX8_isBearing, klX8_isBearing, klX8_feet]; rfl) (by rw [kmX8_isBearing]; exact h3) h4
theorem yX8_flight_X8_feet {na : Nat} {r : List mm_V} (h3 : Nat.ble na 2 = true) (h4 : Nat.ble r.length 8 = true) : mm_roomy 130 127 na r = true := mm_roomy_of (by rw [kfX8_feet, kfX8_flight]; rfl) (by rw [kmX8_feet, klX8_feet, klX8_flight]; rfl) (by rw [kmX8_feet]; exact h3) h4
theorem yX8_floor_X8_facing {na : Nat} {r : List mm_V} (h3 : Nat.ble na 4 = true) (h4 : Nat.ble r.length 8 = true) : mm_roomy 143 139 na r = true := mm_roomy_of (by rw [kfX8_facing, kfX8_floor]; rfl) (by rw [kmX8_facing, klX8_facing, klX8_floor]; rfl) (by rw [kmX8_facing]; exact h3) h4
theorem yX8_floor_X8_in {na : Nat} {r : List mm_V} (h3 : Nat.ble na 3 = true) (h4 : Nat.ble r.length 8 = true) : mm_roomy 143 99 na r = true := mm_roomy_of (by rw [kfX8_in, kfX8_floor]; rfl) (by rw [kmX8_in, klX8_in, klX8_floor]; rfl) (by rw [kmX8_in]; exact h3) h4
theorem yX8_floor_X8_place {na : Nat} {r : List mm_V} (h3 : Nat.ble na 6 = true) (h4 : Nat.ble r.length 8 = true) : mm_roomy 143 142 na r = true := mm_roomy_of (by rw [kfX8_place, kfX8_floor]; rfl) (by rw [kmX8_place, klX8_place, klX8_floor]; rfl) (by rw [kmX8_place]; exact h3) h4
theorem yX8_home_X8_place {na : Nat} {r : List mm_V} (h3 : Nat.ble na 6 = true) (h4 : Nat.ble r.length 8 = true) : mm_roomy 144 142 na r = true := mm_roomy_of (by rw [kfX8_place, kfX8_home]; rfl) (by rw [kmX8_place, klX8_place, klX8_home]; rfl) (by rw [kmX8_place]; exact h3) h4
theorem yX8_isBearing_X8_covering {na : Nat} {r : List mm_V} (h3 : Nat.ble na 3 = true) (h4 : Nat.ble r.length 8 = true) : mm_roomy 126 106 na r = true := mm_roomy_of (by rw [kfX8_covering, kfX8_isBearing]; rfl) (by rw [kmX8_covering, klX8_covering, klX8_isBearing]; rfl) (by rw [kmX8_covering]; exact h3) h4
theorem yX8_isBeat_X8_in {na : Nat} {r : List mm_V} (h3 : Nat.ble na 3 = true) (h4 : Nat.ble r.length 8 = true) : mm_roomy 100 99 na r = true := mm_roomy_of (by rw [kfX8_in, kfX8_isBeat]; rfl) (by rw [kmX8_in, klX8_in, klX8_isBeat]; rfl) (by rw [kmX8_in]; exact h3) h4
theorem yX8_isColumn_X8_in {na : Nat} {r : List mm_V} (h3 : Nat.ble na 3 = true) (h4 : Nat.ble r.length 8 = true) : mm_roomy 101 99 na r = true := mm_roomy_of (by rw [kfX8_in, kfX8_isColumn]; rfl) (by rw [kmX8_in, klX8_in, klX8_isColumn]; rfl) (by rw [kmX8_in]; exact h3) h4
theorem yX8_isFaulty_X8_fills {na : Nat} {r : List mm_V} (h3 : Nat.ble na 4 = true) (h4 : Nat.ble r.length 8 = true) : mm_roomy 134 105 na r = true := mm_roomy_of (by rw [kfX8_fills, kfX8_isFaulty]; rfl) (by rw [kmX8_fills, klX8_fills, klX8_isFaulty]; rfl) (by rw [kmX8_fills]; exact h3) h4
theorem yX8_isFaulty_X8_isBeat {na : Nat} {r : List mm_V} (h3 : Nat.ble na 2 = true) (h4 : Nat.ble r.length 8 = true) : mm_roomy 134 100 na r = true := mm_roomy_of (by rw [kfX8_isBeat, kfX8_isFaulty]; rfl) (by rw [kmX8_isBeat, klX8_isBeat, klX8_isFaulty]; rfl) (by rw [kmX8_isBeat]; exact h3) h4
theorem yX8_isFaulty_X8_isWrong {na : Nat} {r : List mm_V} (h3 : Nat.ble na 2 = true) (h4 : Nat.ble r.length 8 = true) : mm_roomy 134 131 na r = true := mm_roomy_of (by rw [kfX8_isWrong, kfX8_isFaulty]; rfl) (by rw [kmX8_isWrong, klX8_isWrong, klX8_isFaulty]; rfl) (by rw [kmX8_isWrong]; exact h3) h4
theorem yX8_isFree_X8_covering {na : Nat} {r : List mm_V} (h3 : Nat.ble na 3 = true) (h4 : Nat.ble r.length 8 = true) : mm_roomy 107 106 na r = true := mm_roomy_of (by rw [kfX8_covering, kfX8_isFree]; rfl) (by rw [kmX8_covering, klX8_covering, klX8_isFree]; rfl) (by rw [kmX8_covering]; exact h3) h4
theorem yX8_isFree_X8_fills {na : Nat} {r : List mm_V} (h3 : Nat.ble na 4 = true) (h4 : Nat.ble r.length 8 = true) : mm_roomy 107 105 na r = true := mm_roomy_of (by rw [kfX8_fills, kfX8_isFree]; rfl) (by rw [kmX8_fills, klX8_fills, klX8_isFree]; rfl) (by rw [kmX8_fills]; exact h3) h4
theorem yX8_isFree_X8_in {na : Nat} {r : List mm_V} (h3 : Nat.ble na 3 = true) (h4 : Nat.ble r.length 8 = true) : mm_roomy 107 99 na r = true := mm_roomy_of (by rw [kfX8_in, kfX8_isFree]; rfl) (by rw [kmX8_in, klX8_in, klX8_isFree]; rfl) (by rw [kmX8_in]; exact h3) h4
theorem yX8_isLike_X8_covering {na : Nat} {r : List mm_V} (h3 : Nat.ble na 3 = true) (h4 : Nat.ble r.length 8 = true) : mm_roomy 147 106 na r = true := mm_roomy_of (by rw [kfX8_covering, kfX8_isLike]; rfl) (by rw [kmX8_covering, klX8_covering, klX8_isLike]; rfl) (by rw [kmX8_covering]; exact h3) h4
theorem yX8_isLike_X8_turnedColumn {na : Nat} {r : List mm_V} (h3 : Nat.ble na 1 = true) (h4 : Nat.ble r.length 8 = true) : mm_roomy 147 117 na r = true := mm_roomy_of (by rw [kfX8_turnedColumn, kfX8_isLike]; rfl) (by rw [kmX8_turnedColumn, klX8_turnedColumn, klX8_isLike]; rfl) (by rw [kmX8_turnedColumn]; exact h3) h4
theorem yX8_isLike_X8_turnedWay {na : Nat} {r : List mm_V} (h3 : Nat.ble na 2 = true) (h4 : Nat.ble r.length 8 = true) : mm_roomy 147 118 na r = true := mm_roomy_of (by rw [kfX8_turnedWay, kfX8_isLike]; rfl) (by rw [kmX8_turnedWay, klX8_turnedWay, klX8_isLike]; rfl) (by rw [kmX8_turnedWay]; exact h3) h4
theorem yX8_isSign_X8_in {na : Nat} {r : List mm_V} (h3 : Nat.ble na 3 = true) (h4 : Nat.ble r.length 8 = true) : mm_roomy 102 99 na r = true := mm_roomy_of (by rw [kfX8_in, kfX8_isSign]; rfl) (by rw [kmX8_in, klX8_in, klX8_isSign]; rfl) (by rw [kmX8_in]; exact h3) h4
theorem yX8_isSpan_X8_in {na : Nat} {r : List mm_V} (h3 : Nat.ble na 3 = true) (h4 : Nat.ble r.length 8 = true) : mm_roomy 110 99 na r = true := mm_roomy_of (by rw [kfX8_in, kfX8_isSpan]; rfl) (by rw [kmX8_in, klX8_in, klX8_isSpan]; rfl) (by rw [kmX8_in]; exact h3) h4
theorem yX8_isSpan_X8_isBeat {na : Nat} {r : List mm_V} (h3 : Nat.ble na 2 = true) (h4 : Nat.ble r.length 8 = true) : mm_roomy 110 100 na r = true := mm_roomy_of (by rw [kfX8_isBeat, kfX8_isSpan]; rfl) (by rw [kmX8_isBeat, klX8_isBeat, klX8_isSpan]; rfl) (by rw [kmX8_isBeat]; exact h3) h4
theorem yX8_isTogether_X8_endOf {na : Nat} {r : List mm_V} (h3 : Nat.ble na 3 = true) (h4 : Nat.ble r.length 8 = true) : mm_roomy 141 104 na r = true := mm_roomy_of (by rw [kfX8_endOf, kfX8_isTogether]; rfl) (by rw [kmX8_endOf, klX8_endOf, klX8_isTogether]; rfl) (by rw [kmX8_endOf]; exact h3) h4
theorem yX8_isTwice_X8_covering {na : Nat} {r : List mm_V} (h3 : Nat.ble na 3 = true) (h4 : Nat.ble r.length 8 = true) : mm_roomy 128 106 na r = true := mm_roomy_of (by rw [kfX8_covering, kfX8_isTwice]; rfl) (by rw [kmX8_covering, klX8_covering, klX8_isTwice]; rfl) (by rw [kmX8_covering]; exact h3) h4
theorem yX8_isTwice_X8_isBearing {na : Nat} {r : List mm_V} (h3 : Nat.ble na 4 = true) (h4 : Nat.ble r.length 8 = true) : mm_roomy 128 126 na r = true := mm_roomy_of (by rw [kfX8_isBearing, kfX8_isTwice]; rfl) (by rw [kmX8_isBearing, klX8_isBearing, klX8_isTwice]; rfl) (by rw [kmX8_isBearing]; exact h3) h4
theorem yX8_isWrong_X8_flight {na : Nat} {r : List mm_V} (h3 : Nat.ble na 4 = true) (h4 : Nat.ble r.length 8 = true) : mm_roomy 131 130 na r = true := mm_roomy_of (by rw [kfX8_flight, kfX8_isWrong]; rfl) (by rw [kmX8_flight, klX8_flight, klX8_isWrong]; rfl) (by rw [kmX8_flight]; exact h3) h4
theorem yX8_isWrong_X8_twice {na : Nat} {r : List mm_V} (h3 : Nat.ble na 2 = true) (h4 : Nat.ble r.length 8 = true) : mm_roomy 131 129 na r = true := mm_roomy_of (by rw [kfX8_twice, kfX8_isWrong]; rfl) (by rw [kmX8_twice, klX8_twice, klX8_isWrong]; rfl) (by rw [kmX8_twice]; exact h3) h4
theorem yX8_lay_X8_fault {na : Nat} {r : List mm_V} (h3 : Nat.ble na 2 = true) (h4 : Nat.ble r.length 8 = true) : mm_roomy 163 162 na r = true := mm_roomy_of (by rw [kfX8_fault, kfX8_lay]; rfl) (by rw [kmX8_fault, klX8_fault, klX8_lay]; rfl) (by rw [kmX8_fault]; exact h3) h4
theorem yX8_lay_X8_records {na : Nat} {r : List mm_V} (h3 : Nat.ble na 2 = true) (h4 : Nat.ble r.length 8 = true) : mm_roomy 163 103 na r = true := mm_roomy_of (by rw [kfX8_records, kfX8_lay]; rfl) (by rw [kmX8_records, klX8_records, klX8_lay]; rfl) (by rw [kmX8_records]; exact h3) h4
theorem yX8_lay_X8_swaps {na : Nat} {r : List mm_V} (h3 : Nat.ble na 3 = true) (h4 : Nat.ble r.length 8 = true) : mm_roomy 163 161 na r = true := mm_roomy_of (by rw [kfX8_swaps, kfX8_lay]; rfl) (by rw [kmX8_swaps, klX8_swaps, klX8_lay]; rfl) (by rw [kmX8_swaps]; exact h3) h4
theorem yX8_lays_X8_puts {na : Nat} {r : List mm_V} (h3 : Nat.ble na 9 = true) (h4 : Nat.ble r.length 8 = true) : mm_roomy 155 108 na r = true := mm_roomy_of (by rw [kfX8_puts, kfX8_lays]; rfl) (by rw [kmX8_puts, klX8_puts, klX8_lays]; rfl) (by rw [kmX8_puts]; exact h3) h4
theorem yX8_leastLeap_X8_beats {na : Nat} {r : List mm_V} (h3 : Nat.ble na 9 = true) (h4 : Nat.ble r.length 8 = true) : mm_roomy 137 136 na r = true := mm_roomy_of (by rw [kfX8_beats, kfX8_leastLeap]; rfl) (by rw [kmX8_beats, klX8_beats, klX8_leastLeap]; rfl) (by rw [kmX8_beats]; exact h3) h4
theorem yX8_leastLeap_X8_fills {na : Nat} {r : List mm_V} (h3 : Nat.ble na 4 = true) (h4 : Nat.ble r.length 8 = true) : mm_roomy 137 105 na r = true := mm_roomy_of (by rw [kfX8_fills, kfX8_leastLeap]; rfl) (by rw [kmX8_fills, klX8_fills, klX8_leastLeap]; rfl) (by rw [kmX8_fills]; exact h3) h4
theorem yX8_leastLeap_X8_twice {na : Nat} {r : List mm_V} (h3 : Nat.ble na 2 = true) (h4 : Nat.ble r.length 8 = true) : mm_roomy 137 129 na r = true := mm_roomy_of (by rw [kfX8_twice, kfX8_leastLeap]; rfl) (by rw [kmX8_twice, klX8_twice, klX8_leastLeap]; rfl) (by rw [kmX8_twice]; exact h3) h4
theorem yX8_length_X8_digit {na : Nat} {r : List mm_V} (h3 : Nat.ble na 4 = true) (h4 : Nat.ble r.length 8 = true) : mm_roomy 154 153 na r = true := mm_roomy_of (by rw [kfX8_digit, kfX8_length]; rfl) (by rw [kmX8_digit, klX8_digit, klX8_length]; rfl) (by rw [kmX8_digit]; exact h3) h4
theorem yX8_nextFault_X8_fills {na : Nat} {r : List mm_V} (h3 : Nat.ble na 4 = true) (h4 : Nat.ble r.length 8 = true) : mm_roomy 135 105 na r = true := mm_roomy_of (by rw [kfX8_fills, kfX8_nextFault]; rfl) (by rw [kmX8_fills, klX8_fills, klX8_nextFault]; rfl) (by rw [kmX8_fills]; exact h3) h4
theorem yX8_nextFault_X8_isBeat {na : Nat} {r : List mm_V} (h3 : Nat.ble na 2 = true) (h4 : Nat.ble r.length 8 = true) : mm_roomy 135 100 na r = true := mm_roomy_of (by rw [kfX8_isBeat, kfX8_nextFault]; rfl) (by rw [kmX8_isBeat, klX8_isBeat, klX8_nextFault]; rfl) (by rw [kmX8_isBeat]; exact h3) h4
theorem yX8_nextFault_X8_isWrong {na : Nat} {r : List mm_V} (h3 : Nat.ble na 2 = true) (h4 : Nat.ble r.length 8 = true) : mm_roomy 135 131 na r = true := mm_roomy_of (by rw [kfX8_isWrong, kfX8_nextFault]; rfl) (by rw [kmX8_isWrong, klX8_isWrong, klX8_nextFault]; rfl) (by rw [kmX8_isWrong]; exact h3) h4
theorem yX8_passes_X8_here {na : Nat} {r : List mm_V} (h3 : Nat.ble na 1 = true) (h4 : Nat.ble r.length 8 = true) : mm_roomy 152 151 na r = true := mm_roomy_of (by rw [kfX8_here, kfX8_passes]; rfl) (by rw [kmX8_here, klX8_here, klX8_passes]; rfl) (by rw [kmX8_here]; exact h3) h4
theorem yX8_place_X8_endOf {na : Nat} {r : List mm_V} (h3 : Nat.ble na 3 = true) (h4 : Nat.ble r.length 8 = true) : mm_roomy 142 104 na r = true := mm_roomy_of (by rw [kfX8_endOf, kfX8_place]; rfl) (by rw [kmX8_endOf, klX8_endOf, klX8_place]; rfl) (by rw [kmX8_endOf]; exact h3) h4
theorem yX8_place_X8_facing {na : Nat} {r : List mm_V} (h3 : Nat.ble na 4 = true) (h4 : Nat.ble r.length 8 = true) : mm_roomy 142 139 na r = true := mm_roomy_of (by rw [kfX8_facing, kfX8_place]; rfl) (by rw [kmX8_facing, klX8_facing, klX8_place]; rfl) (by rw [kmX8_facing]; exact h3) h4
theorem yX8_place_X8_isTogether {na : Nat} {r : List mm_V} (h3 : Nat.ble na 4 = true) (h4 : Nat.ble r.length 8 = true) : mm_roomy 142 141 na r = true := mm_roomy_of (by rw [kfX8_isTogether, kfX8_place]; rfl) (by rw [kmX8_isTogether, klX8_isTogether, klX8_place]; rfl) (by rw [kmX8_isTogether]; exact h3) h4
theorem yX8_place_X8_unit {na : Nat} {r : List mm_V} (h3 : Nat.ble na 3 = true) (h4 : Nat.ble r.length 8 = true) : mm_roomy 142 140 na r = true := mm_roomy_of (by rw [kfX8_unit, kfX8_place]; rfl) (by rw [kmX8_unit, klX8_unit, klX8_place]; rfl) (by rw [kmX8_unit]; exact h3) h4
theorem yX8_reads_X8_passes {na : Nat} {r : List mm_V} (h3 : Nat.ble na 3 = true) (h4 : Nat.ble r.length 8 = true) : mm_roomy 159 152 na r = true := mm_roomy_of (by rw [kfX8_passes, kfX8_reads]; rfl) (by rw [kmX8_passes, klX8_passes, klX8_reads]; rfl) (by rw [kmX8_passes]; exact h3) h4
theorem yX8_reads_X8_readsItem {na : Nat} {r : List mm_V} (h3 : Nat.ble na 3 = true) (h4 : Nat.ble r.length 8 = true) : mm_roomy 159 158 na r = true := mm_roomy_of (by rw [kfX8_readsItem, kfX8_reads]; rfl) (by rw [kmX8_readsItem, klX8_readsItem, klX8_reads]; rfl) (by rw [kmX8_readsItem]; exact h3) h4
theorem yX8_readsItem_X8_digit {na : Nat} {r : List mm_V} (h3 : Nat.ble na 4 = true) (h4 : Nat.ble r.length 8 = true) : mm_roomy 158 153 na r = true := mm_roomy_of (by rw [kfX8_digit, kfX8_readsItem]; rfl) (by rw [kmX8_digit, klX8_digit, klX8_readsItem]; rfl) (by rw [kmX8_digit]; exact h3) h4
theorem yX8_readsItem_X8_lays {na : Nat} {r : List mm_V} (h3 : Nat.ble na 8 = true) (h4 : Nat.ble r.length 8 = true) : mm_roomy 158 155 na r = true := mm_roomy_of (by rw [kfX8_lays, kfX8_readsItem]; rfl) (by rw [kmX8_lays, klX8_lays, klX8_readsItem]; rfl) (by rw [kmX8_lays]; exact h3) h4
theorem yX8_readsItem_X8_length {na : Nat} {r : List mm_V} (h3 : Nat.ble na 3 = true) (h4 : Nat.ble r.length 8 = true) : mm_roomy 158 154 na r = true := mm_roomy_of (by rw [kfX8_length, kfX8_readsItem]; rfl) (by rw [kmX8_length, klX8_length, klX8_readsItem]; rfl) (by rw [kmX8_length]; exact h3) h4
theorem yX8_readsItem_X8_passes {na : Nat} {r : List mm_V} (h3 : Nat.ble na 3 = true) (h4 : Nat.ble r.length 8 = true) : mm_roomy 158 152 na r = true := mm_roomy_of (by rw [kfX8_passes, kfX8_readsItem]; rfl) (by rw [kmX8_passes, klX8_passes, klX8_readsItem]; rfl) (by rw [kmX8_passes]; exact h3) h4
theorem yX8_readsItem_X8_readsMove {na : Nat} {r : List mm_V} (h3 : Nat.ble na 4 = true) (h4 : Nat.ble r.length 8 = true) : mm_roomy 158 156 na r = true := mm_roomy_of (by rw [kfX8_readsMove, kfX8_readsItem]; rfl) (by rw [kmX8_readsMove, klX8_readsMove, klX8_readsItem]; rfl) (by rw [kmX8_readsMove]; exact h3) h4
theorem yX8_readsItem_X8_readsTurn {na : Nat} {r : List mm_V} (h3 : Nat.ble na 4 = true) (h4 : Nat.ble r.length 8 = true) : mm_roomy 158 157 na r = true := mm_roomy_of (by rw [kfX8_readsTurn, kfX8_readsItem]; rfl) (by rw [kmX8_readsTurn, klX8_readsTurn, klX8_readsItem]; rfl) (by rw [kmX8_readsTurn]; exact h3) h4
theorem yX8_readsMove_X8_digit {na : Nat} {r : List mm_V} (h3 : Nat.ble na 4 = true) (h4 : Nat.ble r.length 8 = true) : mm_roomy 156 153 na r = true := mm_roomy_of (by rw [kfX8_digit, kfX8_readsMove]; rfl) (by rw [kmX8_digit, klX8_digit, klX8_readsMove]; rfl) (by rw [kmX8_digit]; exact h3) h4
theorem yX8_readsMove_X8_here {na : Nat} {r : List mm_V} (h3 : Nat.ble na 1 = true) (h4 : Nat.ble r.length 8 = true) : mm_roomy 156 151 na r = true := mm_roomy_of (by rw [kfX8_here, kfX8_readsMove]; rfl) (by rw [kmX8_here, klX8_here, klX8_readsMove]; rfl) (by rw [kmX8_here]; exact h3) h4
theorem yX8_readsMove_X8_lays {na : Nat} {r : List mm_V} (h3 : Nat.ble na 8 = true) (h4 : Nat.ble r.length 8 = true) : mm_roomy 156 155 na r = true := mm_roomy_of (by rw [kfX8_lays, kfX8_readsMove]; rfl) (by rw [kmX8_lays, klX8_lays, klX8_readsMove]; rfl) (by rw [kmX8_lays]; exact h3) h4
theorem yX8_readsMove_X8_length {na : Nat} {r : List mm_V} (h3 : Nat.ble na 3 = true) (h4 : Nat.ble r.length 8 = true) : mm_roomy 156 154 na r = true := mm_roomy_of (by rw [kfX8_length, kfX8_readsMove]; rfl) (by rw [kmX8_length, klX8_length, klX8_readsMove]; rfl) (by rw [kmX8_length]; exact h3) h4
theorem yX8_readsTurn_X8_digit {na : Nat} {r : List mm_V} (h3 : Nat.ble na 4 = true) (h4 : Nat.ble r.length 8 = true) : mm_roomy 157 153 na r = true := mm_roomy_of (by rw [kfX8_digit, kfX8_readsTurn]; rfl) (by rw [kmX8_digit, klX8_digit, klX8_readsTurn]; rfl) (by rw [kmX8_digit]; exact h3) h4
theorem yX8_readsTurn_X8_here {na : Nat} {r : List mm_V} (h3 : Nat.ble na 1 = true) (h4 : Nat.ble r.length 8 = true) : mm_roomy 157 151 na r = true := mm_roomy_of (by rw [kfX8_here, kfX8_readsTurn]; rfl) (by rw [kmX8_here, klX8_here, klX8_readsTurn]; rfl) (by rw [kmX8_here]; exact h3) h4
theorem yX8_readsTurn_X8_lays {na : Nat} {r : List mm_V} (h3 : Nat.ble na 8 = true) (h4 : Nat.ble r.length 8 = true) : mm_roomy 157 155 na r = true := mm_roomy_of (by rw [kfX8_lays, kfX8_readsTurn]; rfl) (by rw [kmX8_lays, klX8_lays, klX8_readsTurn]; rfl) (by rw [kmX8_lays]; exact h3) h4
theorem yX8_readsTurn_X8_length {na : Nat} {r : List mm_V} (h3 : Nat.ble na 3 = true) (h4 : Nat.ble r.length 8 = true) : mm_roomy 157 154 na r = true := mm_roomy_of (by rw [kfX8_length, kfX8_readsTurn]; rfl) (by rw [kmX8_length, klX8_length, klX8_readsTurn]; rfl) (by rw [kmX8_length]; exact h3) h4
theorem yX8_readsTurn_X8_passes {na : Nat} {r : List mm_V} (h3 : Nat.ble na 3 = true) (h4 : Nat.ble r.length 8 = true) : mm_roomy 157 152 na r = true := mm_roomy_of (by rw [kfX8_passes, kfX8_readsTurn]; rfl) (by rw [kmX8_passes, klX8_passes, klX8_readsTurn]; rfl) (by rw [kmX8_passes]; exact h3) h4
theorem yX8_removeSign_X8_isSign {na : Nat} {r : List mm_V} (h3 : Nat.ble na 2 = true) (h4 : Nat.ble r.length 8 = true) : mm_roomy 116 102 na r = true := mm_roomy_of (by rw [kfX8_isSign, kfX8_removeSign]; rfl) (by rw [kmX8_isSign, klX8_isSign, klX8_removeSign]; rfl) (by rw [kmX8_isSign]; exact h3) h4
theorem yX8_removeSign_X8_records {na : Nat} {r : List mm_V} (h3 : Nat.ble na 2 = true) (h4 : Nat.ble r.length 8 = true) : mm_roomy 116 103 na r = true := mm_roomy_of (by rw [kfX8_records, kfX8_removeSign]; rfl) (by rw [kmX8_records, klX8_records, klX8_removeSign]; rfl) (by rw [kmX8_records]; exact h3) h4
theorem yX8_reset_X8_in {na : Nat} {r : List mm_V} (h3 : Nat.ble na 3 = true) (h4 : Nat.ble r.length 8 = true) : mm_roomy 111 99 na r = true := mm_roomy_of (by rw [kfX8_in, kfX8_reset]; rfl) (by rw [kmX8_in, klX8_in, klX8_reset]; rfl) (by rw [kmX8_in]; exact h3) h4
theorem yX8_reset_X8_records {na : Nat} {r : List mm_V} (h3 : Nat.ble na 2 = true) (h4 : Nat.ble r.length 8 = true) : mm_roomy 111 103 na r = true := mm_roomy_of (by rw [kfX8_records, kfX8_reset]; rfl) (by rw [kmX8_records, klX8_records, klX8_reset]; rfl) (by rw [kmX8_records]; exact h3) h4
theorem yX8_setLeap_X8_in {na : Nat} {r : List mm_V} (h3 : Nat.ble na 3 = true) (h4 : Nat.ble r.length 8 = true) : mm_roomy 121 99 na r = true := mm_roomy_of (by rw [kfX8_in, kfX8_setLeap]; rfl) (by rw [kmX8_in, klX8_in, klX8_setLeap]; rfl) (by rw [kmX8_in]; exact h3) h4
theorem yX8_setLeap_X8_records {na : Nat} {r : List mm_V} (h3 : Nat.ble na 2 = true) (h4 : Nat.ble r.length 8 = true) : mm_roomy 121 103 na r = true := mm_roomy_of (by rw [kfX8_records, kfX8_setLeap]; rfl) (by rw [kmX8_records, klX8_records, klX8_setLeap]; rfl) (by rw [kmX8_records]; exact h3) h4
theorem yX8_sign_X8_endOf {na : Nat} {r : List mm_V} (h3 : Nat.ble na 3 = true) (h4 : Nat.ble r.length 8 = true) : mm_roomy 124 104 na r = true := mm_roomy_of (by rw [kfX8_endOf, kfX8_sign]; rfl) (by rw [kmX8_endOf, klX8_endOf, klX8_sign]; rfl) (by rw [kmX8_endOf]; exact h3) h4
theorem yX8_sign_X8_isSign {na : Nat} {r : List mm_V} (h3 : Nat.ble na 2 = true) (h4 : Nat.ble r.length 8 = true) : mm_roomy 124 102 na r = true := mm_roomy_of (by rw [kfX8_isSign, kfX8_sign]; rfl) (by rw [kmX8_isSign, klX8_isSign, klX8_sign]; rfl) (by rw [kmX8_isSign]; exact h3) h4
theorem yX8_signAt_X8_covering {na : Nat} {r : List mm_V} (h3 : Nat.ble na 3 = true) (h4 : Nat.ble r.length 8 = true) : mm_roomy 125 106 na r = true := mm_roomy_of (by rw [kfX8_covering, kfX8_signAt]; rfl) (by rw [kmX8_covering, klX8_covering, klX8_signAt]; rfl) (by rw [kmX8_covering]; exact h3) h4
theorem yX8_signAt_X8_fills {na : Nat} {r : List mm_V} (h3 : Nat.ble na 4 = true) (h4 : Nat.ble r.length 8 = true) : mm_roomy 125 105 na r = true := mm_roomy_of (by rw [kfX8_fills, kfX8_signAt]; rfl) (by rw [kmX8_fills, klX8_fills, klX8_signAt]; rfl) (by rw [kmX8_fills]; exact h3) h4
theorem yX8_signAt_X8_isBeat {na : Nat} {r : List mm_V} (h3 : Nat.ble na 2 = true) (h4 : Nat.ble r.length 8 = true) : mm_roomy 125 100 na r = true := mm_roomy_of (by rw [kfX8_isBeat, kfX8_signAt]; rfl) (by rw [kmX8_isBeat, klX8_isBeat, klX8_signAt]; rfl) (by rw [kmX8_isBeat]; exact h3) h4
theorem yX8_signAt_X8_isColumn {na : Nat} {r : List mm_V} (h3 : Nat.ble na 1 = true) (h4 : Nat.ble r.length 8 = true) : mm_roomy 125 101 na r = true := mm_roomy_of (by rw [kfX8_isColumn, kfX8_signAt]; rfl) (by rw [kmX8_isColumn, klX8_isColumn, klX8_signAt]; rfl) (by rw [kmX8_isColumn]; exact h3) h4
theorem yX8_toldTwice_X8_fills {na : Nat} {r : List mm_V} (h3 : Nat.ble na 4 = true) (h4 : Nat.ble r.length 8 = true) : mm_roomy 133 105 na r = true := mm_roomy_of (by rw [kfX8_fills, kfX8_toldTwice]; rfl) (by rw [kmX8_fills, klX8_fills, klX8_toldTwice]; rfl) (by rw [kmX8_fills]; exact h3) h4
theorem yX8_toldTwice_X8_isBeat {na : Nat} {r : List mm_V} (h3 : Nat.ble na 2 = true) (h4 : Nat.ble r.length 8 = true) : mm_roomy 133 100 na r = true := mm_roomy_of (by rw [kfX8_isBeat, kfX8_toldTwice]; rfl) (by rw [kmX8_isBeat, klX8_isBeat, klX8_toldTwice]; rfl) (by rw [kmX8_isBeat]; exact h3) h4
theorem yX8_toldTwice_X8_twice {na : Nat} {r : List mm_V} (h3 : Nat.ble na 2 = true) (h4 : Nat.ble r.length 8 = true) : mm_roomy 133 129 na r = true := mm_roomy_of (by rw [kfX8_twice, kfX8_toldTwice]; rfl) (by rw [kmX8_twice, klX8_twice, klX8_toldTwice]; rfl) (by rw [kmX8_twice]; exact h3) h4
theorem yX8_twice_X8_isTwice {na : Nat} {r : List mm_V} (h3 : Nat.ble na 4 = true) (h4 : Nat.ble r.length 8 = true) : mm_roomy 129 128 na r = true := mm_roomy_of (by rw [kfX8_isTwice, kfX8_twice]; rfl) (by rw [kmX8_isTwice, klX8_isTwice, klX8_twice]; rfl) (by rw [kmX8_isTwice]; exact h3) h4
theorem yX8_type_X8_in {na : Nat} {r : List mm_V} (h3 : Nat.ble na 3 = true) (h4 : Nat.ble r.length 8 = true) : mm_roomy 149 99 na r = true := mm_roomy_of (by rw [kfX8_in, kfX8_type]; rfl) (by rw [kmX8_in, klX8_in, klX8_type]; rfl) (by rw [kmX8_in]; exact h3) h4
theorem cB_m8 : (Int8.ofInt (-8)).toInt32 = (-8) := by decide +kernel
theorem cB_6 : (Int8.ofInt (6)).toInt32 = (nI 6) := by decide +kernel
theorem cB_7 : (Int8.ofInt (7)).toInt32 = (nI 7) := by decide +kernel
theorem cB_8 : (Int8.ofInt (8)).toInt32 = (nI 8) := by decide +kernel
theorem cB_9 : (Int8.ofInt (9)).toInt32 = (nI 9) := by decide +kernel
theorem cB_10 : (Int8.ofInt (10)).toInt32 = (nI 10) := by decide +kernel
theorem cB_11 : (Int8.ofInt (11)).toInt32 = (nI 11) := by decide +kernel
theorem cB_13 : (Int8.ofInt (13)).toInt32 = (nI 13) := by decide +kernel
theorem cB_15 : (Int8.ofInt (15)).toInt32 = (nI 15) := by decide +kernel
theorem cB_20 : (Int8.ofInt (20)).toInt32 = (nI 20) := by decide +kernel
theorem cB_23 : (Int8.ofInt (23)).toInt32 = (nI 23) := by decide +kernel
theorem cB_31 : (Int8.ofInt (31)).toInt32 = (nI 31) := by decide +kernel
theorem cB_32 : (Int8.ofInt (32)).toInt32 = (nI 32) := by decide +kernel
theorem cB_43 : (Int8.ofInt (43)).toInt32 = (nI 43) := by decide +kernel
theorem cB_45 : (Int8.ofInt (45)).toInt32 = (nI 45) := by decide +kernel
theorem cB_47 : (Int8.ofInt (47)).toInt32 = (nI 47) := by decide +kernel
theorem cB_48 : (Int8.ofInt (48)).toInt32 = (nI 48) := by decide +kernel
theorem cB_57 : (Int8.ofInt (57)).toInt32 = (nI 57) := by decide +kernel
theorem cB_59 : (Int8.ofInt (59)).toInt32 = (nI 59) := by decide +kernel
theorem cB_60 : (Int8.ofInt (60)).toInt32 = (nI 60) := by decide +kernel
theorem cB_63 : (Int8.ofInt (63)).toInt32 = (nI 63) := by decide +kernel
theorem cB_101 : (Int8.ofInt (101)).toInt32 = (nI 101) := by decide +kernel
theorem cB_104 : (Int8.ofInt (104)).toInt32 = (nI 104) := by decide +kernel
theorem cB_107 : (Int8.ofInt (107)).toInt32 = (nI 107) := by decide +kernel
theorem cB_108 : (Int8.ofInt (108)).toInt32 = (nI 108) := by decide +kernel
theorem cB_109 : (Int8.ofInt (109)).toInt32 = (nI 109) := by decide +kernel
theorem cB_110 : (Int8.ofInt (110)).toInt32 = (nI 110) := by decide +kernel
theorem cB_114 : (Int8.ofInt (114)).toInt32 = (nI 114) := by decide +kernel
theorem cB_116 : (Int8.ofInt (116)).toInt32 = (nI 116) := by decide +kernel
theorem cB_120 : (Int8.ofInt (120)).toInt32 = (nI 120) := by decide +kernel
theorem cB_123 : (Int8.ofInt (123)).toInt32 = (nI 123) := by decide +kernel
theorem cB_126 : (Int8.ofInt (126)).toInt32 = (nI 126) := by decide +kernel
theorem cB_127 : (Int8.ofInt (127)).toInt32 = (nI 127) := by decide +kernel
theorem cI_m1 : Int32.ofInt (-1) = (-1) := by decide +kernel
theorem cI_0 : Int32.ofInt (0) = (nI 0) := by decide +kernel
theorem cI_1 : Int32.ofInt (1) = (nI 1) := by decide +kernel
theorem cI_2 : Int32.ofInt (2) = (nI 2) := by decide +kernel
theorem cI_3 : Int32.ofInt (3) = (nI 3) := by decide +kernel
theorem cI_4 : Int32.ofInt (4) = (nI 4) := by decide +kernel
theorem cI_5 : Int32.ofInt (5) = (nI 5) := by decide +kernel
theorem cI_60 : Int32.ofInt (60) = (nI 60) := by decide +kernel
theorem cI_120 : Int32.ofInt (120) = (nI 120) := by decide +kernel
theorem cS_m1004 : (Int16.ofInt (-1004)).toInt32 = (-1004) := by decide +kernel
theorem cS_m1003 : (Int16.ofInt (-1003)).toInt32 = (-1003) := by decide +kernel
theorem cS_m1002 : (Int16.ofInt (-1002)).toInt32 = (-1002) := by decide +kernel
theorem cS_m1001 : (Int16.ofInt (-1001)).toInt32 = (-1001) := by decide +kernel
theorem cS_180 : (Int16.ofInt (180)).toInt32 = (nI 180) := by decide +kernel
theorem cS_240 : (Int16.ofInt (240)).toInt32 = (nI 240) := by decide +kernel
theorem cS_243 : (Int16.ofInt (243)).toInt32 = (nI 243) := by decide +kernel
theorem cS_300 : (Int16.ofInt (300)).toInt32 = (nI 300) := by decide +kernel
theorem cS_315 : (Int16.ofInt (315)).toInt32 = (nI 315) := by decide +kernel
theorem cS_336 : (Int16.ofInt (336)).toInt32 = (nI 336) := by decide +kernel
theorem cS_360 : (Int16.ofInt (360)).toInt32 = (nI 360) := by decide +kernel
theorem cS_363 : (Int16.ofInt (363)).toInt32 = (nI 363) := by decide +kernel
theorem cS_483 : (Int16.ofInt (483)).toInt32 = (nI 483) := by decide +kernel
theorem cS_603 : (Int16.ofInt (603)).toInt32 = (nI 603) := by decide +kernel
theorem cS_723 : (Int16.ofInt (723)).toInt32 = (nI 723) := by decide +kernel
theorem cS_3615 : (Int16.ofInt (3615)).toInt32 = (nI 3615) := by decide +kernel
theorem cS_8191 : (Int16.ofInt (8191)).toInt32 = (nI 8191) := by decide +kernel
/-- one of the three scores -/
def isSc (o : Nat) : Prop := o = 1 ∨ o = 3 ∨ o = 5
theorem isSc1 : isSc 1 := Or.inl rfl
theorem isSc3 : isSc 3 := Or.inr (Or.inl rfl)
theorem isSc5 : isSc 5 := Or.inr (Or.inr rfl)
theorem sc_shape {o : Nat} (h : isSc o) : mm_shape[o]? = some (.inl (2, [none, none, none, some (o + 1)])) := by
  rcases h with rfl | rfl | rfl <;> rfl
theorem sc_ln {o : Nat} (h : isSc o) : mm_ln (o + 1) = 120 := by
  rcases h with rfl | rfl | rfl <;> rfl
theorem sc_lt {o : Nat} (h : isSc o) : o + 1 < 38 := by
  rcases h with rfl | rfl | rfl <;> decide
theorem ln_2 : mm_ln 2 = 120 := rfl
theorem ln_4 : mm_ln 4 = 120 := rfl
theorem ln_6 : mm_ln 6 = 120 := rfl
theorem ln_8 : mm_ln 8 = 378 := rfl
theorem ln_10 : mm_ln 10 = 48 := rfl
theorem ln_11 : mm_ln 11 = 48 := rfl
theorem ln_12 : mm_ln 12 = 48 := rfl
theorem ln_13 : mm_ln 13 = 48 := rfl
theorem ln_14 : mm_ln 14 = 48 := rfl
theorem ln_16 : mm_ln 16 = 49 := rfl
theorem ln_17 : mm_ln 17 = 49 := rfl
theorem ln_18 : mm_ln 18 = 49 := rfl
theorem ln_19 : mm_ln 19 = 49 := rfl
theorem ln_20 : mm_ln 20 = 49 := rfl
theorem ln_21 : mm_ln 21 = 49 := rfl
theorem ln_23 : mm_ln 23 = 48 := rfl
theorem ln_24 : mm_ln 24 = 48 := rfl
theorem ln_25 : mm_ln 25 = 48 := rfl
theorem ln_27 : mm_ln 27 = 120 := rfl
theorem ln_28 : mm_ln 28 = 7 := rfl
theorem ln_29 : mm_ln 29 = 48 := rfl
theorem ln_31 : mm_ln 31 = 723 := rfl
theorem ln_32 : mm_ln 32 = 4338 := rfl
theorem ln_33 : mm_ln 33 = 723 := rfl
theorem ln_35 : mm_ln 35 = 7 := rfl
theorem ln_36 : mm_ln 36 = 360 := rfl
theorem ln_37 : mm_ln 37 = 336 := rfl
end
