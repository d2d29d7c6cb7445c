section
-- ===== PART A: goes FIRST, ahead of the names: the tables' words, and 'selects' of the private methods out of them =====
/-- a private method of a class that the tables say can be made, by its rows of tables_1 -/
def lw_okq (q : MethodName × Nat) : Prop := (q.1.cls ≠ "java/lang/invoke/MethodHandle" ∧ q.1.cls ≠ "java/lang/invoke/VarHandle") ∧ Cond.instantiable q.1.cls q.2 ∈ tables_1 ∧ Cond.privateMethod q.1 ∈ tables_1 ∧ Cond.instanceMethod q.1 ∈ tables_1
theorem lw_p0 : lw_okq (⟨"NineBoards$Reader", "advance", "()V"⟩, 12) := ⟨⟨by decide +kernel, by decide +kernel⟩, List.mem_of_getElem? (i := 348) (by decide +kernel), List.mem_of_getElem? (i := 532) (by decide +kernel), List.mem_of_getElem? (i := 533) (by decide +kernel)⟩
theorem lw_p1 : lw_okq (⟨"NineBoards$Reader", "knowWord", "()V"⟩, 12) := ⟨⟨by decide +kernel, by decide +kernel⟩, List.mem_of_getElem? (i := 348) (by decide +kernel), List.mem_of_getElem? (i := 542) (by decide +kernel), List.mem_of_getElem? (i := 543) (by decide +kernel)⟩
theorem lw_p2 : lw_okq (⟨"NineBoards$Reader", "knowNumber", "()V"⟩, 12) := ⟨⟨by decide +kernel, by decide +kernel⟩, List.mem_of_getElem? (i := 348) (by decide +kernel), List.mem_of_getElem? (i := 546) (by decide +kernel), List.mem_of_getElem? (i := 547) (by decide +kernel)⟩
theorem lw_p3 : lw_okq (⟨"NineBoards$Reader", "readLake", "()V"⟩, 12) := ⟨⟨by decide +kernel, by decide +kernel⟩, List.mem_of_getElem? (i := 348) (by decide +kernel), List.mem_of_getElem? (i := 550) (by decide +kernel), List.mem_of_getElem? (i := 551) (by decide +kernel)⟩
theorem lw_p4 : lw_okq (⟨"NineBoards$Reader", "readWord", "(I)V"⟩, 12) := ⟨⟨by decide +kernel, by decide +kernel⟩, List.mem_of_getElem? (i := 348) (by decide +kernel), List.mem_of_getElem? (i := 554) (by decide +kernel), List.mem_of_getElem? (i := 555) (by decide +kernel)⟩
theorem lw_p5 : lw_okq (⟨"NineBoards$Reader", "isWord", "(I)Z"⟩, 12) := ⟨⟨by decide +kernel, by decide +kernel⟩, List.mem_of_getElem? (i := 348) (by decide +kernel), List.mem_of_getElem? (i := 558) (by decide +kernel), List.mem_of_getElem? (i := 559) (by decide +kernel)⟩
theorem lw_p6 : lw_okq (⟨"NineBoards$Reader", "fail", "(II)V"⟩, 12) := ⟨⟨by decide +kernel, by decide +kernel⟩, List.mem_of_getElem? (i := 348) (by decide +kernel), List.mem_of_getElem? (i := 562) (by decide +kernel), List.mem_of_getElem? (i := 563) (by decide +kernel)⟩
theorem lw_p7 : lw_okq (⟨"NineBoards$Reader", "readNumber", "(II)I"⟩, 12) := ⟨⟨by decide +kernel, by decide +kernel⟩, List.mem_of_getElem? (i := 348) (by decide +kernel), List.mem_of_getElem? (i := 566) (by decide +kernel), List.mem_of_getElem? (i := 567) (by decide +kernel)⟩
theorem lw_p8 : lw_okq (⟨"NineBoards$Reader", "endStatement", "()V"⟩, 12) := ⟨⟨by decide +kernel, by decide +kernel⟩, List.mem_of_getElem? (i := 348) (by decide +kernel), List.mem_of_getElem? (i := 570) (by decide +kernel), List.mem_of_getElem? (i := 571) (by decide +kernel)⟩
theorem lw_p9 : lw_okq (⟨"NineBoards$Reader", "readSign", "(C)V"⟩, 12) := ⟨⟨by decide +kernel, by decide +kernel⟩, List.mem_of_getElem? (i := 348) (by decide +kernel), List.mem_of_getElem? (i := 574) (by decide +kernel), List.mem_of_getElem? (i := 575) (by decide +kernel)⟩
theorem lw_p10 : lw_okq (⟨"NineBoards$Reader", "isSign", "(C)Z"⟩, 12) := ⟨⟨by decide +kernel, by decide +kernel⟩, List.mem_of_getElem? (i := 348) (by decide +kernel), List.mem_of_getElem? (i := 578) (by decide +kernel), List.mem_of_getElem? (i := 579) (by decide +kernel)⟩
theorem lw_p11 : lw_okq (⟨"NineBoards$Reader", "readRule", "(I)V"⟩, 12) := ⟨⟨by decide +kernel, by decide +kernel⟩, List.mem_of_getElem? (i := 348) (by decide +kernel), List.mem_of_getElem? (i := 582) (by decide +kernel), List.mem_of_getElem? (i := 583) (by decide +kernel)⟩
theorem lw_p12 : lw_okq (⟨"NineBoards$Reader", "readKind", "(II)Z"⟩, 12) := ⟨⟨by decide +kernel, by decide +kernel⟩, List.mem_of_getElem? (i := 348) (by decide +kernel), List.mem_of_getElem? (i := 586) (by decide +kernel), List.mem_of_getElem? (i := 587) (by decide +kernel)⟩
theorem lw_p13 : lw_okq (⟨"NineBoards$Reader", "readSum", "(I)V"⟩, 12) := ⟨⟨by decide +kernel, by decide +kernel⟩, List.mem_of_getElem? (i := 348) (by decide +kernel), List.mem_of_getElem? (i := 590) (by decide +kernel), List.mem_of_getElem? (i := 591) (by decide +kernel)⟩
theorem lw_p14 : lw_okq (⟨"NineBoards$Reader", "readProduct", "(I)V"⟩, 12) := ⟨⟨by decide +kernel, by decide +kernel⟩, List.mem_of_getElem? (i := 348) (by decide +kernel), List.mem_of_getElem? (i := 594) (by decide +kernel), List.mem_of_getElem? (i := 595) (by decide +kernel)⟩
theorem lw_p15 : lw_okq (⟨"NineBoards$Reader", "readPart", "(I)V"⟩, 12) := ⟨⟨by decide +kernel, by decide +kernel⟩, List.mem_of_getElem? (i := 348) (by decide +kernel), List.mem_of_getElem? (i := 598) (by decide +kernel), List.mem_of_getElem? (i := 599) (by decide +kernel)⟩
def lw_privs_1 : List (MethodName × Nat) := [(⟨"NineBoards$Reader", "advance", "()V"⟩, 12), (⟨"NineBoards$Reader", "knowWord", "()V"⟩, 12), (⟨"NineBoards$Reader", "knowNumber", "()V"⟩, 12), (⟨"NineBoards$Reader", "readLake", "()V"⟩, 12), (⟨"NineBoards$Reader", "readWord", "(I)V"⟩, 12), (⟨"NineBoards$Reader", "isWord", "(I)Z"⟩, 12), (⟨"NineBoards$Reader", "fail", "(II)V"⟩, 12), (⟨"NineBoards$Reader", "readNumber", "(II)I"⟩, 12), (⟨"NineBoards$Reader", "endStatement", "()V"⟩, 12), (⟨"NineBoards$Reader", "readSign", "(C)V"⟩, 12), (⟨"NineBoards$Reader", "isSign", "(C)Z"⟩, 12), (⟨"NineBoards$Reader", "readRule", "(I)V"⟩, 12), (⟨"NineBoards$Reader", "readKind", "(II)Z"⟩, 12), (⟨"NineBoards$Reader", "readSum", "(I)V"⟩, 12), (⟨"NineBoards$Reader", "readProduct", "(I)V"⟩, 12), (⟨"NineBoards$Reader", "readPart", "(I)V"⟩, 12)]
theorem lw_r1 : ∀ q ∈ lw_privs_1, lw_okq q := List.forall_mem_cons.mpr ⟨lw_p0, List.forall_mem_cons.mpr ⟨lw_p1, List.forall_mem_cons.mpr ⟨lw_p2, List.forall_mem_cons.mpr ⟨lw_p3, List.forall_mem_cons.mpr ⟨lw_p4, List.forall_mem_cons.mpr ⟨lw_p5, List.forall_mem_cons.mpr ⟨lw_p6, List.forall_mem_cons.mpr ⟨lw_p7, List.forall_mem_cons.mpr ⟨lw_p8, List.forall_mem_cons.mpr ⟨lw_p9, List.forall_mem_cons.mpr ⟨lw_p10, List.forall_mem_cons.mpr ⟨lw_p11, List.forall_mem_cons.mpr ⟨lw_p12, List.forall_mem_cons.mpr ⟨lw_p13, List.forall_mem_cons.mpr ⟨lw_p14, List.forall_mem_cons.mpr ⟨lw_p15, fun _ h => absurd h List.not_mem_nil⟩⟩⟩⟩⟩⟩⟩⟩⟩⟩⟩⟩⟩⟩⟩⟩
theorem lw_p16 : lw_okq (⟨"NineBoards$Reader", "readPair", "(II)V"⟩, 12) := ⟨⟨by decide +kernel, by decide +kernel⟩, List.mem_of_getElem? (i := 348) (by decide +kernel), List.mem_of_getElem? (i := 606) (by decide +kernel), List.mem_of_getElem? (i := 607) (by decide +kernel)⟩
theorem lw_p17 : lw_okq (⟨"NineBoards$Reader", "goesDeeper", "(I)Z"⟩, 12) := ⟨⟨by decide +kernel, by decide +kernel⟩, List.mem_of_getElem? (i := 348) (by decide +kernel), List.mem_of_getElem? (i := 610) (by decide +kernel), List.mem_of_getElem? (i := 611) (by decide +kernel)⟩
theorem lw_p18 : lw_okq (⟨"NineBoards$Reader", "readTest", "(I)V"⟩, 12) := ⟨⟨by decide +kernel, by decide +kernel⟩, List.mem_of_getElem? (i := 348) (by decide +kernel), List.mem_of_getElem? (i := 614) (by decide +kernel), List.mem_of_getElem? (i := 615) (by decide +kernel)⟩
theorem lw_p19 : lw_okq (⟨"NineBoards$Reader", "readBothFacts", "(I)V"⟩, 12) := ⟨⟨by decide +kernel, by decide +kernel⟩, List.mem_of_getElem? (i := 348) (by decide +kernel), List.mem_of_getElem? (i := 618) (by decide +kernel), List.mem_of_getElem? (i := 619) (by decide +kernel)⟩
theorem lw_p20 : lw_okq (⟨"NineBoards$Reader", "readFact", "(I)V"⟩, 12) := ⟨⟨by decide +kernel, by decide +kernel⟩, List.mem_of_getElem? (i := 348) (by decide +kernel), List.mem_of_getElem? (i := 622) (by decide +kernel), List.mem_of_getElem? (i := 623) (by decide +kernel)⟩
theorem lw_p21 : lw_okq (⟨"NineBoards$Reader", "readStatement", "()V"⟩, 12) := ⟨⟨by decide +kernel, by decide +kernel⟩, List.mem_of_getElem? (i := 348) (by decide +kernel), List.mem_of_getElem? (i := 626) (by decide +kernel), List.mem_of_getElem? (i := 627) (by decide +kernel)⟩
theorem lw_p22 : lw_okq (⟨"NineBoards$Reader", "readGate", "()V"⟩, 12) := ⟨⟨by decide +kernel, by decide +kernel⟩, List.mem_of_getElem? (i := 348) (by decide +kernel), List.mem_of_getElem? (i := 630) (by decide +kernel), List.mem_of_getElem? (i := 631) (by decide +kernel)⟩
theorem lw_p23 : lw_okq (⟨"NineBoards$Reader", "readNewName", "()I"⟩, 12) := ⟨⟨by decide +kernel, by decide +kernel⟩, List.mem_of_getElem? (i := 348) (by decide +kernel), List.mem_of_getElem? (i := 634) (by decide +kernel), List.mem_of_getElem? (i := 635) (by decide +kernel)⟩
theorem lw_p24 : lw_okq (⟨"NineBoards$Reader", "readName", "()I"⟩, 12) := ⟨⟨by decide +kernel, by decide +kernel⟩, List.mem_of_getElem? (i := 348) (by decide +kernel), List.mem_of_getElem? (i := 638) (by decide +kernel), List.mem_of_getElem? (i := 639) (by decide +kernel)⟩
theorem lw_p25 : lw_okq (⟨"NineBoards$Reader", "readGateKind", "(LNineBoards$Gates;I)V"⟩, 12) := ⟨⟨by decide +kernel, by decide +kernel⟩, List.mem_of_getElem? (i := 348) (by decide +kernel), List.mem_of_getElem? (i := 650) (by decide +kernel), List.mem_of_getElem? (i := 651) (by decide +kernel)⟩
theorem lw_p26 : lw_okq (⟨"NineBoards$Reader", "readJoin", "()V"⟩, 12) := ⟨⟨by decide +kernel, by decide +kernel⟩, List.mem_of_getElem? (i := 348) (by decide +kernel), List.mem_of_getElem? (i := 654) (by decide +kernel), List.mem_of_getElem? (i := 655) (by decide +kernel)⟩
theorem lw_p27 : lw_okq (⟨"NineBoards$Reader", "readGateName", "()I"⟩, 12) := ⟨⟨by decide +kernel, by decide +kernel⟩, List.mem_of_getElem? (i := 348) (by decide +kernel), List.mem_of_getElem? (i := 658) (by decide +kernel), List.mem_of_getElem? (i := 659) (by decide +kernel)⟩
theorem lw_p28 : lw_okq (⟨"NineBoards$Reader", "readVillage", "()V"⟩, 12) := ⟨⟨by decide +kernel, by decide +kernel⟩, List.mem_of_getElem? (i := 348) (by decide +kernel), List.mem_of_getElem? (i := 662) (by decide +kernel), List.mem_of_getElem? (i := 663) (by decide +kernel)⟩
theorem lw_p29 : lw_okq (⟨"NineBoards$Reader", "readThing", "()V"⟩, 12) := ⟨⟨by decide +kernel, by decide +kernel⟩, List.mem_of_getElem? (i := 348) (by decide +kernel), List.mem_of_getElem? (i := 666) (by decide +kernel), List.mem_of_getElem? (i := 667) (by decide +kernel)⟩
theorem lw_p30 : lw_okq (⟨"NineBoards$Reader", "readChapel", "()V"⟩, 12) := ⟨⟨by decide +kernel, by decide +kernel⟩, List.mem_of_getElem? (i := 348) (by decide +kernel), List.mem_of_getElem? (i := 670) (by decide +kernel), List.mem_of_getElem? (i := 671) (by decide +kernel)⟩
theorem lw_p31 : lw_okq (⟨"NineBoards$Reader", "readBank", "()V"⟩, 12) := ⟨⟨by decide +kernel, by decide +kernel⟩, List.mem_of_getElem? (i := 348) (by decide +kernel), List.mem_of_getElem? (i := 674) (by decide +kernel), List.mem_of_getElem? (i := 675) (by decide +kernel)⟩
def lw_privs_2 : List (MethodName × Nat) := [(⟨"NineBoards$Reader", "readPair", "(II)V"⟩, 12), (⟨"NineBoards$Reader", "goesDeeper", "(I)Z"⟩, 12), (⟨"NineBoards$Reader", "readTest", "(I)V"⟩, 12), (⟨"NineBoards$Reader", "readBothFacts", "(I)V"⟩, 12), (⟨"NineBoards$Reader", "readFact", "(I)V"⟩, 12), (⟨"NineBoards$Reader", "readStatement", "()V"⟩, 12), (⟨"NineBoards$Reader", "readGate", "()V"⟩, 12), (⟨"NineBoards$Reader", "readNewName", "()I"⟩, 12), (⟨"NineBoards$Reader", "readName", "()I"⟩, 12), (⟨"NineBoards$Reader", "readGateKind", "(LNineBoards$Gates;I)V"⟩, 12), (⟨"NineBoards$Reader", "readJoin", "()V"⟩, 12), (⟨"NineBoards$Reader", "readGateName", "()I"⟩, 12), (⟨"NineBoards$Reader", "readVillage", "()V"⟩, 12), (⟨"NineBoards$Reader", "readThing", "()V"⟩, 12), (⟨"NineBoards$Reader", "readChapel", "()V"⟩, 12), (⟨"NineBoards$Reader", "readBank", "()V"⟩, 12)]
theorem lw_r2 : ∀ q ∈ lw_privs_2, lw_okq q := List.forall_mem_cons.mpr ⟨lw_p16, List.forall_mem_cons.mpr ⟨lw_p17, List.forall_mem_cons.mpr ⟨lw_p18, List.forall_mem_cons.mpr ⟨lw_p19, List.forall_mem_cons.mpr ⟨lw_p20, List.forall_mem_cons.mpr ⟨lw_p21, List.forall_mem_cons.mpr ⟨lw_p22, List.forall_mem_cons.mpr ⟨lw_p23, List.forall_mem_cons.mpr ⟨lw_p24, List.forall_mem_cons.mpr ⟨lw_p25, List.forall_mem_cons.mpr ⟨lw_p26, List.forall_mem_cons.mpr ⟨lw_p27, List.forall_mem_cons.mpr ⟨lw_p28, List.forall_mem_cons.mpr ⟨lw_p29, List.forall_mem_cons.mpr ⟨lw_p30, List.forall_mem_cons.mpr ⟨lw_p31, fun _ h => absurd h List.not_mem_nil⟩⟩⟩⟩⟩⟩⟩⟩⟩⟩⟩⟩⟩⟩⟩⟩
theorem lw_p32 : lw_okq (⟨"NineBoards", "beginAt", "(III)V"⟩, 10) := ⟨⟨by decide +kernel, by decide +kernel⟩, List.mem_of_getElem? (i := 20) (by decide +kernel), List.mem_of_getElem? (i := 678) (by decide +kernel), List.mem_of_getElem? (i := 679) (by decide +kernel)⟩
theorem lw_p33 : lw_okq (⟨"NineBoards$Rules", "value", "(IIIII)I"⟩, 8) := ⟨⟨by decide +kernel, by decide +kernel⟩, List.mem_of_getElem? (i := 227) (by decide +kernel), List.mem_of_getElem? (i := 806) (by decide +kernel), List.mem_of_getElem? (i := 807) (by decide +kernel)⟩
theorem lw_p34 : lw_okq (⟨"NineBoards", "putBoards", "(II)V"⟩, 10) := ⟨⟨by decide +kernel, by decide +kernel⟩, List.mem_of_getElem? (i := 20) (by decide +kernel), List.mem_of_getElem? (i := 853) (by decide +kernel), List.mem_of_getElem? (i := 854) (by decide +kernel)⟩
theorem lw_p35 : lw_okq (⟨"NineBoards", "isServedInTrial", "(I)Z"⟩, 10) := ⟨⟨by decide +kernel, by decide +kernel⟩, List.mem_of_getElem? (i := 20) (by decide +kernel), List.mem_of_getElem? (i := 861) (by decide +kernel), List.mem_of_getElem? (i := 862) (by decide +kernel)⟩
theorem lw_p36 : lw_okq (⟨"NineBoards", "canPlan", "(I)Z"⟩, 10) := ⟨⟨by decide +kernel, by decide +kernel⟩, List.mem_of_getElem? (i := 20) (by decide +kernel), List.mem_of_getElem? (i := 890) (by decide +kernel), List.mem_of_getElem? (i := 891) (by decide +kernel)⟩
theorem lw_p37 : lw_okq (⟨"NineBoards", "isPlanned", "(II)Z"⟩, 10) := ⟨⟨by decide +kernel, by decide +kernel⟩, List.mem_of_getElem? (i := 20) (by decide +kernel), List.mem_of_getElem? (i := 894) (by decide +kernel), List.mem_of_getElem? (i := 895) (by decide +kernel)⟩
theorem lw_p38 : lw_okq (⟨"NineBoards$Plans", "plan", "(I)V"⟩, 6) := ⟨⟨by decide +kernel, by decide +kernel⟩, List.mem_of_getElem? (i := 443) (by decide +kernel), List.mem_of_getElem? (i := 905) (by decide +kernel), List.mem_of_getElem? (i := 906) (by decide +kernel)⟩
theorem lw_p39 : lw_okq (⟨"NineBoards$Plans", "addDay", "(I)V"⟩, 6) := ⟨⟨by decide +kernel, by decide +kernel⟩, List.mem_of_getElem? (i := 443) (by decide +kernel), List.mem_of_getElem? (i := 912) (by decide +kernel), List.mem_of_getElem? (i := 913) (by decide +kernel)⟩
theorem lw_p40 : lw_okq (⟨"NineBoards$Plans", "worthTo", "(II)I"⟩, 6) := ⟨⟨by decide +kernel, by decide +kernel⟩, List.mem_of_getElem? (i := 443) (by decide +kernel), List.mem_of_getElem? (i := 916) (by decide +kernel), List.mem_of_getElem? (i := 917) (by decide +kernel)⟩
theorem lw_p41 : lw_okq (⟨"NineBoards$Plans", "choose", "(II)V"⟩, 6) := ⟨⟨by decide +kernel, by decide +kernel⟩, List.mem_of_getElem? (i := 443) (by decide +kernel), List.mem_of_getElem? (i := 923) (by decide +kernel), List.mem_of_getElem? (i := 924) (by decide +kernel)⟩
theorem lw_p42 : lw_okq (⟨"NineBoards", "canLookAtDawn", "()Z"⟩, 10) := ⟨⟨by decide +kernel, by decide +kernel⟩, List.mem_of_getElem? (i := 20) (by decide +kernel), List.mem_of_getElem? (i := 972) (by decide +kernel), List.mem_of_getElem? (i := 973) (by decide +kernel)⟩
theorem lw_p43 : lw_okq (⟨"NineBoards", "suspects", "()I"⟩, 10) := ⟨⟨by decide +kernel, by decide +kernel⟩, List.mem_of_getElem? (i := 20) (by decide +kernel), List.mem_of_getElem? (i := 976) (by decide +kernel), List.mem_of_getElem? (i := 977) (by decide +kernel)⟩
theorem lw_p44 : lw_okq (⟨"NineBoards", "trialIsSeen", "()Z"⟩, 10) := ⟨⟨by decide +kernel, by decide +kernel⟩, List.mem_of_getElem? (i := 20) (by decide +kernel), List.mem_of_getElem? (i := 980) (by decide +kernel), List.mem_of_getElem? (i := 981) (by decide +kernel)⟩
theorem lw_p45 : lw_okq (⟨"NineBoards", "dammedGate", "()I"⟩, 10) := ⟨⟨by decide +kernel, by decide +kernel⟩, List.mem_of_getElem? (i := 20) (by decide +kernel), List.mem_of_getElem? (i := 996) (by decide +kernel), List.mem_of_getElem? (i := 997) (by decide +kernel)⟩
theorem lw_p46 : lw_okq (⟨"NineBoards", "goThroughYear", "(IIZ)J"⟩, 10) := ⟨⟨by decide +kernel, by decide +kernel⟩, List.mem_of_getElem? (i := 20) (by decide +kernel), List.mem_of_getElem? (i := 1009) (by decide +kernel), List.mem_of_getElem? (i := 1010) (by decide +kernel)⟩
theorem lw_p47 : lw_okq (⟨"NineBoards", "draw", "(I)I"⟩, 10) := ⟨⟨by decide +kernel, by decide +kernel⟩, List.mem_of_getElem? (i := 20) (by decide +kernel), List.mem_of_getElem? (i := 1013) (by decide +kernel), List.mem_of_getElem? (i := 1014) (by decide +kernel)⟩
def lw_privs_3 : List (MethodName × Nat) := [(⟨"NineBoards", "beginAt", "(III)V"⟩, 10), (⟨"NineBoards$Rules", "value", "(IIIII)I"⟩, 8), (⟨"NineBoards", "putBoards", "(II)V"⟩, 10), (⟨"NineBoards", "isServedInTrial", "(I)Z"⟩, 10), (⟨"NineBoards", "canPlan", "(I)Z"⟩, 10), (⟨"NineBoards", "isPlanned", "(II)Z"⟩, 10), (⟨"NineBoards$Plans", "plan", "(I)V"⟩, 6), (⟨"NineBoards$Plans", "addDay", "(I)V"⟩, 6), (⟨"NineBoards$Plans", "worthTo", "(II)I"⟩, 6), (⟨"NineBoards$Plans", "choose", "(II)V"⟩, 6), (⟨"NineBoards", "canLookAtDawn", "()Z"⟩, 10), (⟨"NineBoards", "suspects", "()I"⟩, 10), (⟨"NineBoards", "trialIsSeen", "()Z"⟩, 10), (⟨"NineBoards", "dammedGate", "()I"⟩, 10), (⟨"NineBoards", "goThroughYear", "(IIZ)J"⟩, 10), (⟨"NineBoards", "draw", "(I)I"⟩, 10)]
theorem lw_r3 : ∀ q ∈ lw_privs_3, lw_okq q := List.forall_mem_cons.mpr ⟨lw_p32, List.forall_mem_cons.mpr ⟨lw_p33, List.forall_mem_cons.mpr ⟨lw_p34, List.forall_mem_cons.mpr ⟨lw_p35, List.forall_mem_cons.mpr ⟨lw_p36, List.forall_mem_cons.mpr ⟨lw_p37, List.forall_mem_cons.mpr ⟨lw_p38, List.forall_mem_cons.mpr ⟨lw_p39, List.forall_mem_cons.mpr ⟨lw_p40, List.forall_mem_cons.mpr ⟨lw_p41, List.forall_mem_cons.mpr ⟨lw_p42, List.forall_mem_cons.mpr ⟨lw_p43, List.forall_mem_cons.mpr ⟨lw_p44, List.forall_mem_cons.mpr ⟨lw_p45, List.forall_mem_cons.mpr ⟨lw_p46, List.forall_mem_cons.mpr ⟨lw_p47, fun _ h => absurd h List.not_mem_nil⟩⟩⟩⟩⟩⟩⟩⟩⟩⟩⟩⟩⟩⟩⟩⟩
theorem lw_p48 : lw_okq (⟨"NineBoards", "tapeIsImage", "()Z"⟩, 10) := ⟨⟨by decide +kernel, by decide +kernel⟩, List.mem_of_getElem? (i := 20) (by decide +kernel), List.mem_of_getElem? (i := 1039) (by decide +kernel), List.mem_of_getElem? (i := 1040) (by decide +kernel)⟩
theorem lw_p49 : lw_okq (⟨"NineBoardsModel", "lakeTold", "()V"⟩, 79) := ⟨⟨by decide +kernel, by decide +kernel⟩, List.mem_of_getElem? (i := 1043) (by decide +kernel), List.mem_of_getElem? (i := 1301) (by decide +kernel), List.mem_of_getElem? (i := 1302) (by decide +kernel)⟩
theorem lw_p50 : lw_okq (⟨"NineBoardsModel", "asks", "([C)V"⟩, 79) := ⟨⟨by decide +kernel, by decide +kernel⟩, List.mem_of_getElem? (i := 1043) (by decide +kernel), List.mem_of_getElem? (i := 1305) (by decide +kernel), List.mem_of_getElem? (i := 1306) (by decide +kernel)⟩
theorem lw_p51 : lw_okq (⟨"NineBoardsModel", "takes", "([C)Z"⟩, 79) := ⟨⟨by decide +kernel, by decide +kernel⟩, List.mem_of_getElem? (i := 1043) (by decide +kernel), List.mem_of_getElem? (i := 1309) (by decide +kernel), List.mem_of_getElem? (i := 1310) (by decide +kernel)⟩
theorem lw_p52 : lw_okq (⟨"NineBoardsModel", "isHere", "([C)Z"⟩, 79) := ⟨⟨by decide +kernel, by decide +kernel⟩, List.mem_of_getElem? (i := 1043) (by decide +kernel), List.mem_of_getElem? (i := 1313) (by decide +kernel), List.mem_of_getElem? (i := 1314) (by decide +kernel)⟩
theorem lw_p53 : lw_okq (⟨"NineBoardsModel", "look", "()I"⟩, 79) := ⟨⟨by decide +kernel, by decide +kernel⟩, List.mem_of_getElem? (i := 1043) (by decide +kernel), List.mem_of_getElem? (i := 1317) (by decide +kernel), List.mem_of_getElem? (i := 1318) (by decide +kernel)⟩
theorem lw_p54 : lw_okq (⟨"NineBoardsModel", "fail", "(II)V"⟩, 79) := ⟨⟨by decide +kernel, by decide +kernel⟩, List.mem_of_getElem? (i := 1043) (by decide +kernel), List.mem_of_getElem? (i := 1324) (by decide +kernel), List.mem_of_getElem? (i := 1325) (by decide +kernel)⟩
theorem lw_p55 : lw_okq (⟨"NineBoardsModel", "number", "(II)I"⟩, 79) := ⟨⟨by decide +kernel, by decide +kernel⟩, List.mem_of_getElem? (i := 1043) (by decide +kernel), List.mem_of_getElem? (i := 1328) (by decide +kernel), List.mem_of_getElem? (i := 1329) (by decide +kernel)⟩
theorem lw_p56 : lw_okq (⟨"NineBoardsModel", "asksSign", "(I)V"⟩, 79) := ⟨⟨by decide +kernel, by decide +kernel⟩, List.mem_of_getElem? (i := 1043) (by decide +kernel), List.mem_of_getElem? (i := 1338) (by decide +kernel), List.mem_of_getElem? (i := 1339) (by decide +kernel)⟩
theorem lw_p57 : lw_okq (⟨"NineBoardsModel", "takesSign", "(I)Z"⟩, 79) := ⟨⟨by decide +kernel, by decide +kernel⟩, List.mem_of_getElem? (i := 1043) (by decide +kernel), List.mem_of_getElem? (i := 1342) (by decide +kernel), List.mem_of_getElem? (i := 1343) (by decide +kernel)⟩
theorem lw_p58 : lw_okq (⟨"NineBoardsModel", "statementTold", "()V"⟩, 79) := ⟨⟨by decide +kernel, by decide +kernel⟩, List.mem_of_getElem? (i := 1043) (by decide +kernel), List.mem_of_getElem? (i := 1346) (by decide +kernel), List.mem_of_getElem? (i := 1347) (by decide +kernel)⟩
theorem lw_p59 : lw_okq (⟨"NineBoardsModel", "gateTold", "(I)V"⟩, 79) := ⟨⟨by decide +kernel, by decide +kernel⟩, List.mem_of_getElem? (i := 1043) (by decide +kernel), List.mem_of_getElem? (i := 1350) (by decide +kernel), List.mem_of_getElem? (i := 1351) (by decide +kernel)⟩
theorem lw_p60 : lw_okq (⟨"NineBoardsModel", "isFull", "(III)Z"⟩, 79) := ⟨⟨by decide +kernel, by decide +kernel⟩, List.mem_of_getElem? (i := 1043) (by decide +kernel), List.mem_of_getElem? (i := 1354) (by decide +kernel), List.mem_of_getElem? (i := 1355) (by decide +kernel)⟩
theorem lw_p61 : lw_okq (⟨"NineBoardsModel", "newName", "(I)I"⟩, 79) := ⟨⟨by decide +kernel, by decide +kernel⟩, List.mem_of_getElem? (i := 1043) (by decide +kernel), List.mem_of_getElem? (i := 1358) (by decide +kernel), List.mem_of_getElem? (i := 1359) (by decide +kernel)⟩
theorem lw_p62 : lw_okq (⟨"NineBoardsModel", "name", "()J"⟩, 79) := ⟨⟨by decide +kernel, by decide +kernel⟩, List.mem_of_getElem? (i := 1043) (by decide +kernel), List.mem_of_getElem? (i := 1362) (by decide +kernel), List.mem_of_getElem? (i := 1363) (by decide +kernel)⟩
theorem lw_p63 : lw_okq (⟨"NineBoardsModel", "isOwnHere", "()Z"⟩, 79) := ⟨⟨by decide +kernel, by decide +kernel⟩, List.mem_of_getElem? (i := 1043) (by decide +kernel), List.mem_of_getElem? (i := 1366) (by decide +kernel), List.mem_of_getElem? (i := 1367) (by decide +kernel)⟩
def lw_privs_4 : List (MethodName × Nat) := [(⟨"NineBoards", "tapeIsImage", "()Z"⟩, 10), (⟨"NineBoardsModel", "lakeTold", "()V"⟩, 79), (⟨"NineBoardsModel", "asks", "([C)V"⟩, 79), (⟨"NineBoardsModel", "takes", "([C)Z"⟩, 79), (⟨"NineBoardsModel", "isHere", "([C)Z"⟩, 79), (⟨"NineBoardsModel", "look", "()I"⟩, 79), (⟨"NineBoardsModel", "fail", "(II)V"⟩, 79), (⟨"NineBoardsModel", "number", "(II)I"⟩, 79), (⟨"NineBoardsModel", "asksSign", "(I)V"⟩, 79), (⟨"NineBoardsModel", "takesSign", "(I)Z"⟩, 79), (⟨"NineBoardsModel", "statementTold", "()V"⟩, 79), (⟨"NineBoardsModel", "gateTold", "(I)V"⟩, 79), (⟨"NineBoardsModel", "isFull", "(III)Z"⟩, 79), (⟨"NineBoardsModel", "newName", "(I)I"⟩, 79), (⟨"NineBoardsModel", "name", "()J"⟩, 79), (⟨"NineBoardsModel", "isOwnHere", "()Z"⟩, 79)]
theorem lw_r4 : ∀ q ∈ lw_privs_4, lw_okq q := List.forall_mem_cons.mpr ⟨lw_p48, List.forall_mem_cons.mpr ⟨lw_p49, List.forall_mem_cons.mpr ⟨lw_p50, List.forall_mem_cons.mpr ⟨lw_p51, List.forall_mem_cons.mpr ⟨lw_p52, List.forall_mem_cons.mpr ⟨lw_p53, List.forall_mem_cons.mpr ⟨lw_p54, List.forall_mem_cons.mpr ⟨lw_p55, List.forall_mem_cons.mpr ⟨lw_p56, List.forall_mem_cons.mpr ⟨lw_p57, List.forall_mem_cons.mpr ⟨lw_p58, List.forall_mem_cons.mpr ⟨lw_p59, List.forall_mem_cons.mpr ⟨lw_p60, List.forall_mem_cons.mpr ⟨lw_p61, List.forall_mem_cons.mpr ⟨lw_p62, List.forall_mem_cons.mpr ⟨lw_p63, fun _ h => absurd h List.not_mem_nil⟩⟩⟩⟩⟩⟩⟩⟩⟩⟩⟩⟩⟩⟩⟩⟩
theorem lw_p64 : lw_okq (⟨"NineBoardsModel", "nameOf", "(IJ)I"⟩, 79) := ⟨⟨by decide +kernel, by decide +kernel⟩, List.mem_of_getElem? (i := 1043) (by decide +kernel), List.mem_of_getElem? (i := 1372) (by decide +kernel), List.mem_of_getElem? (i := 1373) (by decide +kernel)⟩
theorem lw_p65 : lw_okq (⟨"NineBoardsModel", "joinTold", "()V"⟩, 79) := ⟨⟨by decide +kernel, by decide +kernel⟩, List.mem_of_getElem? (i := 1043) (by decide +kernel), List.mem_of_getElem? (i := 1376) (by decide +kernel), List.mem_of_getElem? (i := 1377) (by decide +kernel)⟩
theorem lw_p66 : lw_okq (⟨"NineBoardsModel", "oneOf", "(I)I"⟩, 79) := ⟨⟨by decide +kernel, by decide +kernel⟩, List.mem_of_getElem? (i := 1043) (by decide +kernel), List.mem_of_getElem? (i := 1380) (by decide +kernel), List.mem_of_getElem? (i := 1381) (by decide +kernel)⟩
theorem lw_p67 : lw_okq (⟨"NineBoardsModel", "villageTold", "(I)V"⟩, 79) := ⟨⟨by decide +kernel, by decide +kernel⟩, List.mem_of_getElem? (i := 1043) (by decide +kernel), List.mem_of_getElem? (i := 1384) (by decide +kernel), List.mem_of_getElem? (i := 1385) (by decide +kernel)⟩
theorem lw_p68 : lw_okq (⟨"NineBoardsModel", "thingTold", "(I)V"⟩, 79) := ⟨⟨by decide +kernel, by decide +kernel⟩, List.mem_of_getElem? (i := 1043) (by decide +kernel), List.mem_of_getElem? (i := 1388) (by decide +kernel), List.mem_of_getElem? (i := 1389) (by decide +kernel)⟩
theorem lw_p69 : lw_okq (⟨"NineBoardsModel", "lossTold", "(I)V"⟩, 79) := ⟨⟨by decide +kernel, by decide +kernel⟩, List.mem_of_getElem? (i := 1043) (by decide +kernel), List.mem_of_getElem? (i := 1392) (by decide +kernel), List.mem_of_getElem? (i := 1393) (by decide +kernel)⟩
theorem lw_p70 : lw_okq (⟨"NineBoardsModel", "ruleTold", "(IZ)V"⟩, 79) := ⟨⟨by decide +kernel, by decide +kernel⟩, List.mem_of_getElem? (i := 1043) (by decide +kernel), List.mem_of_getElem? (i := 1396) (by decide +kernel), List.mem_of_getElem? (i := 1397) (by decide +kernel)⟩
theorem lw_p71 : lw_okq (⟨"NineBoardsModel", "sumsTold", "()V"⟩, 79) := ⟨⟨by decide +kernel, by decide +kernel⟩, List.mem_of_getElem? (i := 1043) (by decide +kernel), List.mem_of_getElem? (i := 1400) (by decide +kernel), List.mem_of_getElem? (i := 1401) (by decide +kernel)⟩
theorem lw_p72 : lw_okq (⟨"NineBoardsModel", "onePart", "()V"⟩, 79) := ⟨⟨by decide +kernel, by decide +kernel⟩, List.mem_of_getElem? (i := 1043) (by decide +kernel), List.mem_of_getElem? (i := 1404) (by decide +kernel), List.mem_of_getElem? (i := 1405) (by decide +kernel)⟩
theorem lw_p73 : lw_okq (⟨"NineBoardsModel", "opens", "(II)V"⟩, 79) := ⟨⟨by decide +kernel, by decide +kernel⟩, List.mem_of_getElem? (i := 1043) (by decide +kernel), List.mem_of_getElem? (i := 1408) (by decide +kernel), List.mem_of_getElem? (i := 1409) (by decide +kernel)⟩
theorem lw_p74 : lw_okq (⟨"NineBoardsModel", "code", "(I)V"⟩, 79) := ⟨⟨by decide +kernel, by decide +kernel⟩, List.mem_of_getElem? (i := 1043) (by decide +kernel), List.mem_of_getElem? (i := 1412) (by decide +kernel), List.mem_of_getElem? (i := 1413) (by decide +kernel)⟩
theorem lw_p75 : lw_okq (⟨"NineBoardsModel", "goesOn", "()Z"⟩, 79) := ⟨⟨by decide +kernel, by decide +kernel⟩, List.mem_of_getElem? (i := 1043) (by decide +kernel), List.mem_of_getElem? (i := 1416) (by decide +kernel), List.mem_of_getElem? (i := 1417) (by decide +kernel)⟩
theorem lw_p76 : lw_okq (⟨"NineBoardsModel", "mark", "()I"⟩, 79) := ⟨⟨by decide +kernel, by decide +kernel⟩, List.mem_of_getElem? (i := 1043) (by decide +kernel), List.mem_of_getElem? (i := 1420) (by decide +kernel), List.mem_of_getElem? (i := 1421) (by decide +kernel)⟩
theorem lw_p77 : lw_okq (⟨"NineBoardsModel", "isMark", "(I)Z"⟩, 79) := ⟨⟨by decide +kernel, by decide +kernel⟩, List.mem_of_getElem? (i := 1043) (by decide +kernel), List.mem_of_getElem? (i := 1424) (by decide +kernel), List.mem_of_getElem? (i := 1425) (by decide +kernel)⟩
theorem lw_p78 : lw_okq (⟨"NineBoardsModel", "dropsToMark", "()V"⟩, 79) := ⟨⟨by decide +kernel, by decide +kernel⟩, List.mem_of_getElem? (i := 1043) (by decide +kernel), List.mem_of_getElem? (i := 1428) (by decide +kernel), List.mem_of_getElem? (i := 1429) (by decide +kernel)⟩
theorem lw_p79 : lw_okq (⟨"NineBoardsModel", "drops", "()V"⟩, 79) := ⟨⟨by decide +kernel, by decide +kernel⟩, List.mem_of_getElem? (i := 1043) (by decide +kernel), List.mem_of_getElem? (i := 1432) (by decide +kernel), List.mem_of_getElem? (i := 1433) (by decide +kernel)⟩
def lw_privs_5 : List (MethodName × Nat) := [(⟨"NineBoardsModel", "nameOf", "(IJ)I"⟩, 79), (⟨"NineBoardsModel", "joinTold", "()V"⟩, 79), (⟨"NineBoardsModel", "oneOf", "(I)I"⟩, 79), (⟨"NineBoardsModel", "villageTold", "(I)V"⟩, 79), (⟨"NineBoardsModel", "thingTold", "(I)V"⟩, 79), (⟨"NineBoardsModel", "lossTold", "(I)V"⟩, 79), (⟨"NineBoardsModel", "ruleTold", "(IZ)V"⟩, 79), (⟨"NineBoardsModel", "sumsTold", "()V"⟩, 79), (⟨"NineBoardsModel", "onePart", "()V"⟩, 79), (⟨"NineBoardsModel", "opens", "(II)V"⟩, 79), (⟨"NineBoardsModel", "code", "(I)V"⟩, 79), (⟨"NineBoardsModel", "goesOn", "()Z"⟩, 79), (⟨"NineBoardsModel", "mark", "()I"⟩, 79), (⟨"NineBoardsModel", "isMark", "(I)Z"⟩, 79), (⟨"NineBoardsModel", "dropsToMark", "()V"⟩, 79), (⟨"NineBoardsModel", "drops", "()V"⟩, 79)]
theorem lw_r5 : ∀ q ∈ lw_privs_5, lw_okq q := List.forall_mem_cons.mpr ⟨lw_p64, List.forall_mem_cons.mpr ⟨lw_p65, List.forall_mem_cons.mpr ⟨lw_p66, List.forall_mem_cons.mpr ⟨lw_p67, List.forall_mem_cons.mpr ⟨lw_p68, List.forall_mem_cons.mpr ⟨lw_p69, List.forall_mem_cons.mpr ⟨lw_p70, List.forall_mem_cons.mpr ⟨lw_p71, List.forall_mem_cons.mpr ⟨lw_p72, List.forall_mem_cons.mpr ⟨lw_p73, List.forall_mem_cons.mpr ⟨lw_p74, List.forall_mem_cons.mpr ⟨lw_p75, List.forall_mem_cons.mpr ⟨lw_p76, List.forall_mem_cons.mpr ⟨lw_p77, List.forall_mem_cons.mpr ⟨lw_p78, List.forall_mem_cons.mpr ⟨lw_p79, fun _ h => absurd h List.not_mem_nil⟩⟩⟩⟩⟩⟩⟩⟩⟩⟩⟩⟩⟩⟩⟩⟩
theorem lw_p80 : lw_okq (⟨"NineBoardsModel", "isOn", "(I)Z"⟩, 79) := ⟨⟨by decide +kernel, by decide +kernel⟩, List.mem_of_getElem? (i := 1043) (by decide +kernel), List.mem_of_getElem? (i := 1436) (by decide +kernel), List.mem_of_getElem? (i := 1437) (by decide +kernel)⟩
theorem lw_p81 : lw_okq (⟨"NineBoardsModel", "test", "()V"⟩, 79) := ⟨⟨by decide +kernel, by decide +kernel⟩, List.mem_of_getElem? (i := 1043) (by decide +kernel), List.mem_of_getElem? (i := 1440) (by decide +kernel), List.mem_of_getElem? (i := 1441) (by decide +kernel)⟩
theorem lw_p82 : lw_okq (⟨"NineBoardsModel", "fact", "()V"⟩, 79) := ⟨⟨by decide +kernel, by decide +kernel⟩, List.mem_of_getElem? (i := 1043) (by decide +kernel), List.mem_of_getElem? (i := 1444) (by decide +kernel), List.mem_of_getElem? (i := 1445) (by decide +kernel)⟩
theorem lw_p83 : lw_okq (⟨"NineBoardsModel", "dropsNots", "()V"⟩, 79) := ⟨⟨by decide +kernel, by decide +kernel⟩, List.mem_of_getElem? (i := 1043) (by decide +kernel), List.mem_of_getElem? (i := 1448) (by decide +kernel), List.mem_of_getElem? (i := 1449) (by decide +kernel)⟩
theorem lw_p84 : lw_okq (⟨"NineBoardsModel", "goesOnTest", "()Z"⟩, 79) := ⟨⟨by decide +kernel, by decide +kernel⟩, List.mem_of_getElem? (i := 1043) (by decide +kernel), List.mem_of_getElem? (i := 1452) (by decide +kernel), List.mem_of_getElem? (i := 1453) (by decide +kernel)⟩
theorem lw_p85 : lw_okq (⟨"NineBoardsModel", "hasSquare", "()Z"⟩, 79) := ⟨⟨by decide +kernel, by decide +kernel⟩, List.mem_of_getElem? (i := 1043) (by decide +kernel), List.mem_of_getElem? (i := 1456) (by decide +kernel), List.mem_of_getElem? (i := 1457) (by decide +kernel)⟩
theorem lw_p86 : lw_okq (⟨"NineBoardsModel", "stands", "()V"⟩, 79) := ⟨⟨by decide +kernel, by decide +kernel⟩, List.mem_of_getElem? (i := 1043) (by decide +kernel), List.mem_of_getElem? (i := 1460) (by decide +kernel), List.mem_of_getElem? (i := 1461) (by decide +kernel)⟩
theorem lw_p87 : lw_okq (⟨"NineBoardsModel", "nothing", "()V"⟩, 79) := ⟨⟨by decide +kernel, by decide +kernel⟩, List.mem_of_getElem? (i := 1043) (by decide +kernel), List.mem_of_getElem? (i := 1464) (by decide +kernel), List.mem_of_getElem? (i := 1465) (by decide +kernel)⟩
theorem lw_p88 : lw_okq (⟨"NineBoardsModel", "gateMany", "()I"⟩, 79) := ⟨⟨by decide +kernel, by decide +kernel⟩, List.mem_of_getElem? (i := 1043) (by decide +kernel), List.mem_of_getElem? (i := 1468) (by decide +kernel), List.mem_of_getElem? (i := 1469) (by decide +kernel)⟩
theorem lw_p89 : lw_okq (⟨"NineBoardsModel", "villages", "()I"⟩, 79) := ⟨⟨by decide +kernel, by decide +kernel⟩, List.mem_of_getElem? (i := 1043) (by decide +kernel), List.mem_of_getElem? (i := 1480) (by decide +kernel), List.mem_of_getElem? (i := 1481) (by decide +kernel)⟩
theorem lw_p90 : lw_okq (⟨"NineBoardsModel", "level", "()I"⟩, 79) := ⟨⟨by decide +kernel, by decide +kernel⟩, List.mem_of_getElem? (i := 1043) (by decide +kernel), List.mem_of_getElem? (i := 1484) (by decide +kernel), List.mem_of_getElem? (i := 1485) (by decide +kernel)⟩
theorem lw_p91 : lw_okq (⟨"NineBoardsModel", "isGate", "(I)Z"⟩, 79) := ⟨⟨by decide +kernel, by decide +kernel⟩, List.mem_of_getElem? (i := 1043) (by decide +kernel), List.mem_of_getElem? (i := 1497) (by decide +kernel), List.mem_of_getElem? (i := 1498) (by decide +kernel)⟩
theorem lw_p92 : lw_okq (⟨"NineBoardsModel", "boards", "(I)I"⟩, 79) := ⟨⟨by decide +kernel, by decide +kernel⟩, List.mem_of_getElem? (i := 1043) (by decide +kernel), List.mem_of_getElem? (i := 1501) (by decide +kernel), List.mem_of_getElem? (i := 1502) (by decide +kernel)⟩
theorem lw_p93 : lw_okq (⟨"NineBoardsModel", "joinedTo", "(I)I"⟩, 79) := ⟨⟨by decide +kernel, by decide +kernel⟩, List.mem_of_getElem? (i := 1043) (by decide +kernel), List.mem_of_getElem? (i := 1505) (by decide +kernel), List.mem_of_getElem? (i := 1506) (by decide +kernel)⟩
theorem lw_p94 : lw_okq (⟨"NineBoardsModel", "flowsNow", "()I"⟩, 79) := ⟨⟨by decide +kernel, by decide +kernel⟩, List.mem_of_getElem? (i := 1043) (by decide +kernel), List.mem_of_getElem? (i := 1509) (by decide +kernel), List.mem_of_getElem? (i := 1510) (by decide +kernel)⟩
theorem lw_p95 : lw_okq (⟨"NineBoardsModel", "flowOf", "(III)I"⟩, 79) := ⟨⟨by decide +kernel, by decide +kernel⟩, List.mem_of_getElem? (i := 1043) (by decide +kernel), List.mem_of_getElem? (i := 1513) (by decide +kernel), List.mem_of_getElem? (i := 1514) (by decide +kernel)⟩
def lw_privs_6 : List (MethodName × Nat) := [(⟨"NineBoardsModel", "isOn", "(I)Z"⟩, 79), (⟨"NineBoardsModel", "test", "()V"⟩, 79), (⟨"NineBoardsModel", "fact", "()V"⟩, 79), (⟨"NineBoardsModel", "dropsNots", "()V"⟩, 79), (⟨"NineBoardsModel", "goesOnTest", "()Z"⟩, 79), (⟨"NineBoardsModel", "hasSquare", "()Z"⟩, 79), (⟨"NineBoardsModel", "stands", "()V"⟩, 79), (⟨"NineBoardsModel", "nothing", "()V"⟩, 79), (⟨"NineBoardsModel", "gateMany", "()I"⟩, 79), (⟨"NineBoardsModel", "villages", "()I"⟩, 79), (⟨"NineBoardsModel", "level", "()I"⟩, 79), (⟨"NineBoardsModel", "isGate", "(I)Z"⟩, 79), (⟨"NineBoardsModel", "boards", "(I)I"⟩, 79), (⟨"NineBoardsModel", "joinedTo", "(I)I"⟩, 79), (⟨"NineBoardsModel", "flowsNow", "()I"⟩, 79), (⟨"NineBoardsModel", "flowOf", "(III)I"⟩, 79)]
theorem lw_r6 : ∀ q ∈ lw_privs_6, lw_okq q := List.forall_mem_cons.mpr ⟨lw_p80, List.forall_mem_cons.mpr ⟨lw_p81, List.forall_mem_cons.mpr ⟨lw_p82, List.forall_mem_cons.mpr ⟨lw_p83, List.forall_mem_cons.mpr ⟨lw_p84, List.forall_mem_cons.mpr ⟨lw_p85, List.forall_mem_cons.mpr ⟨lw_p86, List.forall_mem_cons.mpr ⟨lw_p87, List.forall_mem_cons.mpr ⟨lw_p88, List.forall_mem_cons.mpr ⟨lw_p89, List.forall_mem_cons.mpr ⟨lw_p90, List.forall_mem_cons.mpr ⟨lw_p91, List.forall_mem_cons.mpr ⟨lw_p92, List.forall_mem_cons.mpr ⟨lw_p93, List.forall_mem_cons.mpr ⟨lw_p94, List.forall_mem_cons.mpr ⟨lw_p95, fun _ h => absurd h List.not_mem_nil⟩⟩⟩⟩⟩⟩⟩⟩⟩⟩⟩⟩⟩⟩⟩⟩
theorem lw_p96 : lw_okq (⟨"NineBoardsModel", "isVillage", "(I)Z"⟩, 79) := ⟨⟨by decide +kernel, by decide +kernel⟩, List.mem_of_getElem? (i := 1043) (by decide +kernel), List.mem_of_getElem? (i := 1531) (by decide +kernel), List.mem_of_getElem? (i := 1532) (by decide +kernel)⟩
theorem lw_p97 : lw_okq (⟨"NineBoardsModel", "todays", "()I"⟩, 79) := ⟨⟨by decide +kernel, by decide +kernel⟩, List.mem_of_getElem? (i := 1043) (by decide +kernel), List.mem_of_getElem? (i := 1536) (by decide +kernel), List.mem_of_getElem? (i := 1537) (by decide +kernel)⟩
theorem lw_p98 : lw_okq (⟨"NineBoardsModel", "isAllowed", "(III)Z"⟩, 79) := ⟨⟨by decide +kernel, by decide +kernel⟩, List.mem_of_getElem? (i := 1043) (by decide +kernel), List.mem_of_getElem? (i := 1540) (by decide +kernel), List.mem_of_getElem? (i := 1541) (by decide +kernel)⟩
theorem lw_p99 : lw_okq (⟨"NineBoardsModel", "areBoards", "(III)Z"⟩, 79) := ⟨⟨by decide +kernel, by decide +kernel⟩, List.mem_of_getElem? (i := 1043) (by decide +kernel), List.mem_of_getElem? (i := 1544) (by decide +kernel), List.mem_of_getElem? (i := 1545) (by decide +kernel)⟩
theorem lw_p100 : lw_okq (⟨"NineBoardsModel", "mayDo", "(II)Z"⟩, 79) := ⟨⟨by decide +kernel, by decide +kernel⟩, List.mem_of_getElem? (i := 1043) (by decide +kernel), List.mem_of_getElem? (i := 1557) (by decide +kernel), List.mem_of_getElem? (i := 1558) (by decide +kernel)⟩
theorem lw_p101 : lw_okq (⟨"NineBoardsModel", "keepsDay", "()V"⟩, 79) := ⟨⟨by decide +kernel, by decide +kernel⟩, List.mem_of_getElem? (i := 1043) (by decide +kernel), List.mem_of_getElem? (i := 1561) (by decide +kernel), List.mem_of_getElem? (i := 1562) (by decide +kernel)⟩
theorem lw_p102 : lw_okq (⟨"NineBoardsModel", "acts", "(I)V"⟩, 79) := ⟨⟨by decide +kernel, by decide +kernel⟩, List.mem_of_getElem? (i := 1043) (by decide +kernel), List.mem_of_getElem? (i := 1565) (by decide +kernel), List.mem_of_getElem? (i := 1566) (by decide +kernel)⟩
theorem lw_p103 : lw_okq (⟨"NineBoardsModel", "alters", "(II)V"⟩, 79) := ⟨⟨by decide +kernel, by decide +kernel⟩, List.mem_of_getElem? (i := 1043) (by decide +kernel), List.mem_of_getElem? (i := 1569) (by decide +kernel), List.mem_of_getElem? (i := 1570) (by decide +kernel)⟩
theorem lw_p104 : lw_okq (⟨"NineBoardsModel", "goesBy", "(I)V"⟩, 79) := ⟨⟨by decide +kernel, by decide +kernel⟩, List.mem_of_getElem? (i := 1043) (by decide +kernel), List.mem_of_getElem? (i := 1573) (by decide +kernel), List.mem_of_getElem? (i := 1574) (by decide +kernel)⟩
theorem lw_p105 : lw_okq (⟨"NineBoardsModel", "weatherOf", "(IIZ)I"⟩, 79) := ⟨⟨by decide +kernel, by decide +kernel⟩, List.mem_of_getElem? (i := 1043) (by decide +kernel), List.mem_of_getElem? (i := 1577) (by decide +kernel), List.mem_of_getElem? (i := 1578) (by decide +kernel)⟩
theorem lw_p106 : lw_okq (⟨"NineBoardsModel", "told", "(IIII)J"⟩, 79) := ⟨⟨by decide +kernel, by decide +kernel⟩, List.mem_of_getElem? (i := 1043) (by decide +kernel), List.mem_of_getElem? (i := 1581) (by decide +kernel), List.mem_of_getElem? (i := 1582) (by decide +kernel)⟩
theorem lw_p107 : lw_okq (⟨"NineBoardsModel", "puts", "(J)V"⟩, 79) := ⟨⟨by decide +kernel, by decide +kernel⟩, List.mem_of_getElem? (i := 1043) (by decide +kernel), List.mem_of_getElem? (i := 1585) (by decide +kernel), List.mem_of_getElem? (i := 1586) (by decide +kernel)⟩
theorem lw_p108 : lw_okq (⟨"NineBoardsModel", "joins", "(I)V"⟩, 79) := ⟨⟨by decide +kernel, by decide +kernel⟩, List.mem_of_getElem? (i := 1043) (by decide +kernel), List.mem_of_getElem? (i := 1591) (by decide +kernel), List.mem_of_getElem? (i := 1592) (by decide +kernel)⟩
theorem lw_p109 : lw_okq (⟨"NineBoardsModel", "worths", "(Z)V"⟩, 79) := ⟨⟨by decide +kernel, by decide +kernel⟩, List.mem_of_getElem? (i := 1043) (by decide +kernel), List.mem_of_getElem? (i := 1604) (by decide +kernel), List.mem_of_getElem? (i := 1605) (by decide +kernel)⟩
theorem lw_p110 : lw_okq (⟨"NineBoardsModel", "canPlan", "(I)Z"⟩, 79) := ⟨⟨by decide +kernel, by decide +kernel⟩, List.mem_of_getElem? (i := 1043) (by decide +kernel), List.mem_of_getElem? (i := 1626) (by decide +kernel), List.mem_of_getElem? (i := 1627) (by decide +kernel)⟩
theorem lw_p111 : lw_okq (⟨"NineBoardsModel", "plans", "(IZ)V"⟩, 79) := ⟨⟨by decide +kernel, by decide +kernel⟩, List.mem_of_getElem? (i := 1043) (by decide +kernel), List.mem_of_getElem? (i := 1631) (by decide +kernel), List.mem_of_getElem? (i := 1632) (by decide +kernel)⟩
def lw_privs_7 : List (MethodName × Nat) := [(⟨"NineBoardsModel", "isVillage", "(I)Z"⟩, 79), (⟨"NineBoardsModel", "todays", "()I"⟩, 79), (⟨"NineBoardsModel", "isAllowed", "(III)Z"⟩, 79), (⟨"NineBoardsModel", "areBoards", "(III)Z"⟩, 79), (⟨"NineBoardsModel", "mayDo", "(II)Z"⟩, 79), (⟨"NineBoardsModel", "keepsDay", "()V"⟩, 79), (⟨"NineBoardsModel", "acts", "(I)V"⟩, 79), (⟨"NineBoardsModel", "alters", "(II)V"⟩, 79), (⟨"NineBoardsModel", "goesBy", "(I)V"⟩, 79), (⟨"NineBoardsModel", "weatherOf", "(IIZ)I"⟩, 79), (⟨"NineBoardsModel", "told", "(IIII)J"⟩, 79), (⟨"NineBoardsModel", "puts", "(J)V"⟩, 79), (⟨"NineBoardsModel", "joins", "(I)V"⟩, 79), (⟨"NineBoardsModel", "worths", "(Z)V"⟩, 79), (⟨"NineBoardsModel", "canPlan", "(I)Z"⟩, 79), (⟨"NineBoardsModel", "plans", "(IZ)V"⟩, 79)]
theorem lw_r7 : ∀ q ∈ lw_privs_7, lw_okq q := List.forall_mem_cons.mpr ⟨lw_p96, List.forall_mem_cons.mpr ⟨lw_p97, List.forall_mem_cons.mpr ⟨lw_p98, List.forall_mem_cons.mpr ⟨lw_p99, List.forall_mem_cons.mpr ⟨lw_p100, List.forall_mem_cons.mpr ⟨lw_p101, List.forall_mem_cons.mpr ⟨lw_p102, List.forall_mem_cons.mpr ⟨lw_p103, List.forall_mem_cons.mpr ⟨lw_p104, List.forall_mem_cons.mpr ⟨lw_p105, List.forall_mem_cons.mpr ⟨lw_p106, List.forall_mem_cons.mpr ⟨lw_p107, List.forall_mem_cons.mpr ⟨lw_p108, List.forall_mem_cons.mpr ⟨lw_p109, List.forall_mem_cons.mpr ⟨lw_p110, List.forall_mem_cons.mpr ⟨lw_p111, fun _ h => absurd h List.not_mem_nil⟩⟩⟩⟩⟩⟩⟩⟩⟩⟩⟩⟩⟩⟩⟩⟩
theorem lw_p112 : lw_okq (⟨"NineBoardsModel", "putsAside", "()V"⟩, 79) := ⟨⟨by decide +kernel, by decide +kernel⟩, List.mem_of_getElem? (i := 1043) (by decide +kernel), List.mem_of_getElem? (i := 1635) (by decide +kernel), List.mem_of_getElem? (i := 1636) (by decide +kernel)⟩
theorem lw_p113 : lw_okq (⟨"NineBoardsModel", "placeOf", "(II)I"⟩, 79) := ⟨⟨by decide +kernel, by decide +kernel⟩, List.mem_of_getElem? (i := 1043) (by decide +kernel), List.mem_of_getElem? (i := 1639) (by decide +kernel), List.mem_of_getElem? (i := 1640) (by decide +kernel)⟩
theorem lw_p114 : lw_okq (⟨"NineBoardsModel", "takesBest", "(IIZ)V"⟩, 79) := ⟨⟨by decide +kernel, by decide +kernel⟩, List.mem_of_getElem? (i := 1043) (by decide +kernel), List.mem_of_getElem? (i := 1643) (by decide +kernel), List.mem_of_getElem? (i := 1644) (by decide +kernel)⟩
theorem lw_p115 : lw_okq (⟨"NineBoardsModel", "isBegun", "(II)Z"⟩, 79) := ⟨⟨by decide +kernel, by decide +kernel⟩, List.mem_of_getElem? (i := 1043) (by decide +kernel), List.mem_of_getElem? (i := 1647) (by decide +kernel), List.mem_of_getElem? (i := 1648) (by decide +kernel)⟩
theorem lw_p116 : lw_okq (⟨"NineBoardsModel", "takesBack", "()V"⟩, 79) := ⟨⟨by decide +kernel, by decide +kernel⟩, List.mem_of_getElem? (i := 1043) (by decide +kernel), List.mem_of_getElem? (i := 1651) (by decide +kernel), List.mem_of_getElem? (i := 1652) (by decide +kernel)⟩
theorem lw_p117 : lw_okq (⟨"NineBoardsModel", "isGot", "(III)Z"⟩, 79) := ⟨⟨by decide +kernel, by decide +kernel⟩, List.mem_of_getElem? (i := 1043) (by decide +kernel), List.mem_of_getElem? (i := 1655) (by decide +kernel), List.mem_of_getElem? (i := 1656) (by decide +kernel)⟩
theorem lw_p118 : lw_okq (⟨"NineBoardsModel", "together", "()I"⟩, 79) := ⟨⟨by decide +kernel, by decide +kernel⟩, List.mem_of_getElem? (i := 1043) (by decide +kernel), List.mem_of_getElem? (i := 1659) (by decide +kernel), List.mem_of_getElem? (i := 1660) (by decide +kernel)⟩
theorem lw_p119 : lw_okq (⟨"NineBoardsModel", "actOf", "(I)I"⟩, 79) := ⟨⟨by decide +kernel, by decide +kernel⟩, List.mem_of_getElem? (i := 1043) (by decide +kernel), List.mem_of_getElem? (i := 1663) (by decide +kernel), List.mem_of_getElem? (i := 1664) (by decide +kernel)⟩
theorem lw_p120 : lw_okq (⟨"NineBoardsModel", "sumOfGets", "()I"⟩, 79) := ⟨⟨by decide +kernel, by decide +kernel⟩, List.mem_of_getElem? (i := 1043) (by decide +kernel), List.mem_of_getElem? (i := 1671) (by decide +kernel), List.mem_of_getElem? (i := 1672) (by decide +kernel)⟩
theorem lw_p121 : lw_okq (⟨"NineBoardsModel", "spiltBy", "(II)I"⟩, 79) := ⟨⟨by decide +kernel, by decide +kernel⟩, List.mem_of_getElem? (i := 1043) (by decide +kernel), List.mem_of_getElem? (i := 1684) (by decide +kernel), List.mem_of_getElem? (i := 1685) (by decide +kernel)⟩
theorem lw_p122 : lw_okq (⟨"NineBoardsModel", "wouldFlow", "(II)I"⟩, 79) := ⟨⟨by decide +kernel, by decide +kernel⟩, List.mem_of_getElem? (i := 1043) (by decide +kernel), List.mem_of_getElem? (i := 1693) (by decide +kernel), List.mem_of_getElem? (i := 1694) (by decide +kernel)⟩
theorem lw_p123 : lw_okq (⟨"NineBoardsModel", "boardsAre", "(II)V"⟩, 79) := ⟨⟨by decide +kernel, by decide +kernel⟩, List.mem_of_getElem? (i := 1043) (by decide +kernel), List.mem_of_getElem? (i := 1697) (by decide +kernel), List.mem_of_getElem? (i := 1698) (by decide +kernel)⟩
theorem lw_p124 : lw_okq (⟨"NineBoardsModel", "isThing", "(I)Z"⟩, 79) := ⟨⟨by decide +kernel, by decide +kernel⟩, List.mem_of_getElem? (i := 1043) (by decide +kernel), List.mem_of_getElem? (i := 1705) (by decide +kernel), List.mem_of_getElem? (i := 1706) (by decide +kernel)⟩
theorem lw_p125 : lw_okq (⟨"NineBoardsModel", "gateFor", "(I)I"⟩, 79) := ⟨⟨by decide +kernel, by decide +kernel⟩, List.mem_of_getElem? (i := 1043) (by decide +kernel), List.mem_of_getElem? (i := 1709) (by decide +kernel), List.mem_of_getElem? (i := 1710) (by decide +kernel)⟩
theorem lw_p126 : lw_okq (⟨"NineBoardsModel", "isServed", "(II)Z"⟩, 79) := ⟨⟨by decide +kernel, by decide +kernel⟩, List.mem_of_getElem? (i := 1043) (by decide +kernel), List.mem_of_getElem? (i := 1713) (by decide +kernel), List.mem_of_getElem? (i := 1714) (by decide +kernel)⟩
theorem lw_p127 : lw_okq (⟨"NineBoardsModel", "unacts", "(I)V"⟩, 79) := ⟨⟨by decide +kernel, by decide +kernel⟩, List.mem_of_getElem? (i := 1043) (by decide +kernel), List.mem_of_getElem? (i := 1730) (by decide +kernel), List.mem_of_getElem? (i := 1731) (by decide +kernel)⟩
def lw_privs_8 : List (MethodName × Nat) := [(⟨"NineBoardsModel", "putsAside", "()V"⟩, 79), (⟨"NineBoardsModel", "placeOf", "(II)I"⟩, 79), (⟨"NineBoardsModel", "takesBest", "(IIZ)V"⟩, 79), (⟨"NineBoardsModel", "isBegun", "(II)Z"⟩, 79), (⟨"NineBoardsModel", "takesBack", "()V"⟩, 79), (⟨"NineBoardsModel", "isGot", "(III)Z"⟩, 79), (⟨"NineBoardsModel", "together", "()I"⟩, 79), (⟨"NineBoardsModel", "actOf", "(I)I"⟩, 79), (⟨"NineBoardsModel", "sumOfGets", "()I"⟩, 79), (⟨"NineBoardsModel", "spiltBy", "(II)I"⟩, 79), (⟨"NineBoardsModel", "wouldFlow", "(II)I"⟩, 79), (⟨"NineBoardsModel", "boardsAre", "(II)V"⟩, 79), (⟨"NineBoardsModel", "isThing", "(I)Z"⟩, 79), (⟨"NineBoardsModel", "gateFor", "(I)I"⟩, 79), (⟨"NineBoardsModel", "isServed", "(II)Z"⟩, 79), (⟨"NineBoardsModel", "unacts", "(I)V"⟩, 79)]
theorem lw_r8 : ∀ q ∈ lw_privs_8, lw_okq q := List.forall_mem_cons.mpr ⟨lw_p112, List.forall_mem_cons.mpr ⟨lw_p113, List.forall_mem_cons.mpr ⟨lw_p114, List.forall_mem_cons.mpr ⟨lw_p115, List.forall_mem_cons.mpr ⟨lw_p116, List.forall_mem_cons.mpr ⟨lw_p117, List.forall_mem_cons.mpr ⟨lw_p118, List.forall_mem_cons.mpr ⟨lw_p119, List.forall_mem_cons.mpr ⟨lw_p120, List.forall_mem_cons.mpr ⟨lw_p121, List.forall_mem_cons.mpr ⟨lw_p122, List.forall_mem_cons.mpr ⟨lw_p123, List.forall_mem_cons.mpr ⟨lw_p124, List.forall_mem_cons.mpr ⟨lw_p125, List.forall_mem_cons.mpr ⟨lw_p126, List.forall_mem_cons.mpr ⟨lw_p127, fun _ h => absurd h List.not_mem_nil⟩⟩⟩⟩⟩⟩⟩⟩⟩⟩⟩⟩⟩⟩⟩⟩
theorem lw_p128 : lw_okq (⟨"NineBoardsModel", "areSeen", "()Z"⟩, 79) := ⟨⟨by decide +kernel, by decide +kernel⟩, List.mem_of_getElem? (i := 1043) (by decide +kernel), List.mem_of_getElem? (i := 1746) (by decide +kernel), List.mem_of_getElem? (i := 1747) (by decide +kernel)⟩
theorem lw_p129 : lw_okq (⟨"NineBoardsModel", "isAsSeen", "()Z"⟩, 79) := ⟨⟨by decide +kernel, by decide +kernel⟩, List.mem_of_getElem? (i := 1043) (by decide +kernel), List.mem_of_getElem? (i := 1750) (by decide +kernel), List.mem_of_getElem? (i := 1751) (by decide +kernel)⟩
theorem lw_p130 : lw_okq (⟨"NineBoardsModel", "seenAt", "(I)I"⟩, 79) := ⟨⟨by decide +kernel, by decide +kernel⟩, List.mem_of_getElem? (i := 1043) (by decide +kernel), List.mem_of_getElem? (i := 1754) (by decide +kernel), List.mem_of_getElem? (i := 1755) (by decide +kernel)⟩
theorem lw_p131 : lw_okq (⟨"NineBoardsModel", "drawOf", "(I)I"⟩, 79) := ⟨⟨by decide +kernel, by decide +kernel⟩, List.mem_of_getElem? (i := 1043) (by decide +kernel), List.mem_of_getElem? (i := 1772) (by decide +kernel), List.mem_of_getElem? (i := 1773) (by decide +kernel)⟩
theorem lw_p132 : lw_okq (⟨"NineBoardsModel", "writes", "(I)V"⟩, 79) := ⟨⟨by decide +kernel, by decide +kernel⟩, List.mem_of_getElem? (i := 1043) (by decide +kernel), List.mem_of_getElem? (i := 1784) (by decide +kernel), List.mem_of_getElem? (i := 1785) (by decide +kernel)⟩
theorem lw_p133 : lw_okq (⟨"NineBoardsModel", "isTold", "(I)Z"⟩, 79) := ⟨⟨by decide +kernel, by decide +kernel⟩, List.mem_of_getElem? (i := 1043) (by decide +kernel), List.mem_of_getElem? (i := 1799) (by decide +kernel), List.mem_of_getElem? (i := 1800) (by decide +kernel)⟩
def lw_privs_9 : List (MethodName × Nat) := [(⟨"NineBoardsModel", "areSeen", "()Z"⟩, 79), (⟨"NineBoardsModel", "isAsSeen", "()Z"⟩, 79), (⟨"NineBoardsModel", "seenAt", "(I)I"⟩, 79), (⟨"NineBoardsModel", "drawOf", "(I)I"⟩, 79), (⟨"NineBoardsModel", "writes", "(I)V"⟩, 79), (⟨"NineBoardsModel", "isTold", "(I)Z"⟩, 79)]
theorem lw_r9 : ∀ q ∈ lw_privs_9, lw_okq q := List.forall_mem_cons.mpr ⟨lw_p128, List.forall_mem_cons.mpr ⟨lw_p129, List.forall_mem_cons.mpr ⟨lw_p130, List.forall_mem_cons.mpr ⟨lw_p131, List.forall_mem_cons.mpr ⟨lw_p132, List.forall_mem_cons.mpr ⟨lw_p133, fun _ h => absurd h List.not_mem_nil⟩⟩⟩⟩⟩⟩
def lw_privs : List (MethodName × Nat) := lw_privs_1 ++ (lw_privs_2 ++ (lw_privs_3 ++ (lw_privs_4 ++ (lw_privs_5 ++ (lw_privs_6 ++ (lw_privs_7 ++ (lw_privs_8 ++ (lw_privs_9))))))))
def lw_tbl : List Cond := k2_sels lw_privs ++ tables_1
theorem lw_privs_ok : ∀ q ∈ lw_privs, lw_okq q := by
  show ∀ q ∈ lw_privs_1 ++ (lw_privs_2 ++ (lw_privs_3 ++ (lw_privs_4 ++ (lw_privs_5 ++ (lw_privs_6 ++ (lw_privs_7 ++ (lw_privs_8 ++ (lw_privs_9)))))))), lw_okq q
  exact List.forall_mem_append.mpr ⟨lw_r1, List.forall_mem_append.mpr ⟨lw_r2, List.forall_mem_append.mpr ⟨lw_r3, List.forall_mem_append.mpr ⟨lw_r4, List.forall_mem_append.mpr ⟨lw_r5, List.forall_mem_append.mpr ⟨lw_r6, List.forall_mem_append.mpr ⟨lw_r7, List.forall_mem_append.mpr ⟨lw_r8, lw_r9⟩⟩⟩⟩⟩⟩⟩⟩
end
section
def TB : List Cond := lw_tbl.filter goodWord
theorem mt_1 {w : Cond} (h : w ∈ tables_1_1) (hg : goodWord w = true) : w ∈ TB := List.mem_filter.mpr ⟨List.mem_append_right _ (show w ∈ tables_1 from List.mem_append_left _ h), hg⟩
theorem mt_2 {w : Cond} (h : w ∈ tables_1_2) (hg : goodWord w = true) : w ∈ TB := List.mem_filter.mpr ⟨List.mem_append_right _ (show w ∈ tables_1 from List.mem_append_right _ (List.mem_append_left _ h)), hg⟩
theorem mt_3 {w : Cond} (h : w ∈ tables_1_3) (hg : goodWord w = true) : w ∈ TB := List.mem_filter.mpr ⟨List.mem_append_right _ (show w ∈ tables_1 from List.mem_append_right _ (List.mem_append_right _ (List.mem_append_left _ h))), hg⟩
theorem mt_4 {w : Cond} (h : w ∈ tables_1_4) (hg : goodWord w = true) : w ∈ TB := List.mem_filter.mpr ⟨List.mem_append_right _ (show w ∈ tables_1 from List.mem_append_right _ (List.mem_append_right _ (List.mem_append_right _ (List.mem_append_left _ h)))), hg⟩
theorem mt_5 {w : Cond} (h : w ∈ tables_1_5) (hg : goodWord w = true) : w ∈ TB := List.mem_filter.mpr ⟨List.mem_append_right _ (show w ∈ tables_1 from List.mem_append_right _ (List.mem_append_right _ (List.mem_append_right _ (List.mem_append_right _ (List.mem_append_left _ h))))), hg⟩
theorem mt_6 {w : Cond} (h : w ∈ tables_1_6) (hg : goodWord w = true) : w ∈ TB := List.mem_filter.mpr ⟨List.mem_append_right _ (show w ∈ tables_1 from List.mem_append_right _ (List.mem_append_right _ (List.mem_append_right _ (List.mem_append_right _ (List.mem_append_right _ (List.mem_append_left _ h)))))), hg⟩
theorem mt_7 {w : Cond} (h : w ∈ tables_1_7) (hg : goodWord w = true) : w ∈ TB := List.mem_filter.mpr ⟨List.mem_append_right _ (show w ∈ tables_1 from List.mem_append_right _ (List.mem_append_right _ (List.mem_append_right _ (List.mem_append_right _ (List.mem_append_right _ (List.mem_append_right _ (List.mem_append_left _ h))))))), hg⟩
theorem mt_8 {w : Cond} (h : w ∈ tables_1_8) (hg : goodWord w = true) : w ∈ TB := List.mem_filter.mpr ⟨List.mem_append_right _ (show w ∈ tables_1 from List.mem_append_right _ (List.mem_append_right _ (List.mem_append_right _ (List.mem_append_right _ (List.mem_append_right _ (List.mem_append_right _ (List.mem_append_right _ (h)))))))), hg⟩
theorem ms_0 {w : Cond} (h : w ∈ k2_sels lw_privs) (hg : goodWord w = true) : w ∈ TB := List.mem_filter.mpr ⟨List.mem_append_left _ h, hg⟩
theorem tb_good : ∀ w ∈ TB, goodWord w = true := fun w h => (List.mem_filter.mp h).2
theorem tb_tbl : ∀ w ∈ TB, w ∈ lw_tbl := fun w h => (List.mem_filter.mp h).1
def cf_Bytes : u_T := fun k => match k with
  | 0 => ("NineBoards$Bytes", "data", "[I", true)
  | _ => ("NineBoards$Bytes", "count", "I", false)
def ct_Bytes : Nat → FieldType := fun k => match k with
  | 0 => .array (.int)
  | _ => .int
theorem cn_Bytes : ∀ a, a < 2 → ∀ b, b < 2 → a ≠ b → (cf_Bytes a).2.1 ≠ (cf_Bytes b).2.1 := by decide +kernel
theorem cp_Bytes : ∀ k, k < 2 → parseFieldDescriptor (cf_Bytes k).2.2.1 = some (ct_Bytes k) := by decide +kernel
theorem ci_Bytes : ∀ w ∈ u_ws "NineBoards$Bytes" cf_Bytes 2, w ∈ TB := fun w h => List.mem_filter.mpr ⟨List.mem_append_right _ ((by decide +kernel : ∀ w ∈ u_ws "NineBoards$Bytes" cf_Bytes 2, w ∈ tables_1) w h), (by decide +kernel : ∀ w ∈ u_ws "NineBoards$Bytes" cf_Bytes 2, goodWord w = true) w h⟩
def cf_Gates : u_T := fun k => match k with
  | 0 => ("NineBoards$Gates", "count", "I", false)
  | 1 => ("NineBoards$Gates", "name", "[I", true)
  | 2 => ("NineBoards$Gates", "kind", "[I", true)
  | 3 => ("NineBoards$Gates", "from", "[I", true)
  | 4 => ("NineBoards$Gates", "to", "[I", true)
  | 5 => ("NineBoards$Gates", "boards", "[I", true)
  | 6 => ("NineBoards$Gates", "width", "[I", true)
  | _ => ("NineBoards$Gates", "joined", "[I", true)
def ct_Gates : Nat → FieldType := fun k => match k with
  | 0 => .int
  | 1 => .array (.int)
  | 2 => .array (.int)
  | 3 => .array (.int)
  | 4 => .array (.int)
  | 5 => .array (.int)
  | 6 => .array (.int)
  | _ => .array (.int)
theorem cn_Gates : ∀ a, a < 8 → ∀ b, b < 8 → a ≠ b → (cf_Gates a).2.1 ≠ (cf_Gates b).2.1 := by decide +kernel
theorem cp_Gates : ∀ k, k < 8 → parseFieldDescriptor (cf_Gates k).2.2.1 = some (ct_Gates k) := by decide +kernel
theorem ci_Gates : ∀ w ∈ u_ws "NineBoards$Gates" cf_Gates 8, w ∈ TB := fun w h => List.mem_filter.mpr ⟨List.mem_append_right _ ((by decide +kernel : ∀ w ∈ u_ws "NineBoards$Gates" cf_Gates 8, w ∈ tables_1) w h), (by decide +kernel : ∀ w ∈ u_ws "NineBoards$Gates" cf_Gates 8, goodWord w = true) w h⟩
def cf_Lake : u_T := fun k => match k with
  | 0 => ("NineBoards$Lake", "statements", "I", false)
  | 1 => ("NineBoards$Lake", "spread", "I", false)
  | 2 => ("NineBoards$Lake", "holds", "I", false)
  | 3 => ("NineBoards$Lake", "has", "I", false)
  | 4 => ("NineBoards$Lake", "gates", "LNineBoards$Gates;", true)
  | 5 => ("NineBoards$Lake", "villages", "I", false)
  | 6 => ("NineBoards$Lake", "villageName", "[I", true)
  | 7 => ("NineBoards$Lake", "villageGate", "[I", true)
  | 8 => ("NineBoards$Lake", "things", "LNineBoards$Things;", true)
  | 9 => ("NineBoards$Lake", "rules", "LNineBoards$Rules;", true)
  | 10 => ("NineBoards$Lake", "chapel", "I", false)
  | 11 => ("NineBoards$Lake", "chapelLoss", "I", false)
  | 12 => ("NineBoards$Lake", "bank", "I", false)
  | _ => ("NineBoards$Lake", "bankLoss", "I", false)
def ct_Lake : Nat → FieldType := fun k => match k with
  | 0 => .int
  | 1 => .int
  | 2 => .int
  | 3 => .int
  | 4 => .object "NineBoards$Gates"
  | 5 => .int
  | 6 => .array (.int)
  | 7 => .array (.int)
  | 8 => .object "NineBoards$Things"
  | 9 => .object "NineBoards$Rules"
  | 10 => .int
  | 11 => .int
  | 12 => .int
  | _ => .int
theorem cn_Lake : ∀ a, a < 14 → ∀ b, b < 14 → a ≠ b → (cf_Lake a).2.1 ≠ (cf_Lake b).2.1 := by decide +kernel
theorem cp_Lake : ∀ k, k < 14 → parseFieldDescriptor (cf_Lake k).2.2.1 = some (ct_Lake k) := by decide +kernel
theorem ci_Lake : ∀ w ∈ u_ws "NineBoards$Lake" cf_Lake 14, w ∈ TB := fun w h => List.mem_filter.mpr ⟨List.mem_append_right _ ((by decide +kernel : ∀ w ∈ u_ws "NineBoards$Lake" cf_Lake 14, w ∈ tables_1) w h), (by decide +kernel : ∀ w ∈ u_ws "NineBoards$Lake" cf_Lake 14, goodWord w = true) w h⟩
def cf_Past : u_T := fun k => match k with
  | 0 => ("NineBoards$Past", "count", "I", false)
  | 1 => ("NineBoards$Past", "next", "I", false)
  | _ => ("NineBoards$Past", "kept", "[LNineBoards$State;", true)
def ct_Past : Nat → FieldType := fun k => match k with
  | 0 => .int
  | 1 => .int
  | _ => .array (.object "NineBoards$State")
theorem cn_Past : ∀ a, a < 3 → ∀ b, b < 3 → a ≠ b → (cf_Past a).2.1 ≠ (cf_Past b).2.1 := by decide +kernel
theorem cp_Past : ∀ k, k < 3 → parseFieldDescriptor (cf_Past k).2.2.1 = some (ct_Past k) := by decide +kernel
theorem ci_Past : ∀ w ∈ u_ws "NineBoards$Past" cf_Past 3, w ∈ TB := fun w h => List.mem_filter.mpr ⟨List.mem_append_right _ ((by decide +kernel : ∀ w ∈ u_ws "NineBoards$Past" cf_Past 3, w ∈ tables_1) w h), (by decide +kernel : ∀ w ∈ u_ws "NineBoards$Past" cf_Past 3, goodWord w = true) w h⟩
def cf_Plans : u_T := fun k => match k with
  | 0 => ("NineBoards$Plans", "states", "[LNineBoards$State;", true)
  | 1 => ("NineBoards$Plans", "gains", "[[I", true)
  | 2 => ("NineBoards$Plans", "acts", "[[I", true)
  | 3 => ("NineBoards$Plans", "lake", "LNineBoards$Lake;", false)
  | 4 => ("NineBoards$Plans", "days", "I", false)
  | _ => ("NineBoards$Plans", "together", "Z", false)
def ct_Plans : Nat → FieldType := fun k => match k with
  | 0 => .array (.object "NineBoards$State")
  | 1 => .array (.array (.int))
  | 2 => .array (.array (.int))
  | 3 => .object "NineBoards$Lake"
  | 4 => .int
  | _ => .boolean
theorem cn_Plans : ∀ a, a < 6 → ∀ b, b < 6 → a ≠ b → (cf_Plans a).2.1 ≠ (cf_Plans b).2.1 := by decide +kernel
theorem cp_Plans : ∀ k, k < 6 → parseFieldDescriptor (cf_Plans k).2.2.1 = some (ct_Plans k) := by decide +kernel
theorem ci_Plans : ∀ w ∈ u_ws "NineBoards$Plans" cf_Plans 6, w ∈ TB := fun w h => List.mem_filter.mpr ⟨List.mem_append_right _ ((by decide +kernel : ∀ w ∈ u_ws "NineBoards$Plans" cf_Plans 6, w ∈ tables_1) w h), (by decide +kernel : ∀ w ∈ u_ws "NineBoards$Plans" cf_Plans 6, goodWord w = true) w h⟩
def cf_Reader : u_T := fun k => match k with
  | 0 => ("NineBoards$Reader", "fault", "I", false)
  | 1 => ("NineBoards$Reader", "place", "I", false)
  | 2 => ("NineBoards$Reader", "ownWords", "[J", true)
  | 3 => ("NineBoards$Reader", "text", "LNineBoards$Bytes;", true)
  | 4 => ("NineBoards$Reader", "lake", "LNineBoards$Lake;", false)
  | 5 => ("NineBoards$Reader", "at", "I", false)
  | 6 => ("NineBoards$Reader", "sort", "I", false)
  | 7 => ("NineBoards$Reader", "start", "I", false)
  | 8 => ("NineBoards$Reader", "letters", "J", false)
  | 9 => ("NineBoards$Reader", "word", "I", false)
  | 10 => ("NineBoards$Reader", "number", "I", false)
  | _ => ("NineBoards$Reader", "sign", "I", false)
def ct_Reader : Nat → FieldType := fun k => match k with
  | 0 => .int
  | 1 => .int
  | 2 => .array (.long)
  | 3 => .object "NineBoards$Bytes"
  | 4 => .object "NineBoards$Lake"
  | 5 => .int
  | 6 => .int
  | 7 => .int
  | 8 => .long
  | 9 => .int
  | 10 => .int
  | _ => .int
theorem cn_Reader : ∀ a, a < 12 → ∀ b, b < 12 → a ≠ b → (cf_Reader a).2.1 ≠ (cf_Reader b).2.1 := by decide +kernel
theorem cp_Reader : ∀ k, k < 12 → parseFieldDescriptor (cf_Reader k).2.2.1 = some (ct_Reader k) := by decide +kernel
theorem ci_Reader : ∀ w ∈ u_ws "NineBoards$Reader" cf_Reader 12, w ∈ TB := fun w h => List.mem_filter.mpr ⟨List.mem_append_right _ ((by decide +kernel : ∀ w ∈ u_ws "NineBoards$Reader" cf_Reader 12, w ∈ tables_1) w h), (by decide +kernel : ∀ w ∈ u_ws "NineBoards$Reader" cf_Reader 12, goodWord w = true) w h⟩
def cf_Rules : u_T := fun k => match k with
  | 0 => ("NineBoards$Rules", "count", "I", false)
  | 1 => ("NineBoards$Rules", "size", "I", false)
  | 2 => ("NineBoards$Rules", "kind", "[I", true)
  | 3 => ("NineBoards$Rules", "sumFrom", "[I", true)
  | 4 => ("NineBoards$Rules", "testFrom", "[I", true)
  | 5 => ("NineBoards$Rules", "end", "[I", true)
  | 6 => ("NineBoards$Rules", "code", "[I", true)
  | _ => ("NineBoards$Rules", "waiting", "[I", true)
def ct_Rules : Nat → FieldType := fun k => match k with
  | 0 => .int
  | 1 => .int
  | 2 => .array (.int)
  | 3 => .array (.int)
  | 4 => .array (.int)
  | 5 => .array (.int)
  | 6 => .array (.int)
  | _ => .array (.int)
theorem cn_Rules : ∀ a, a < 8 → ∀ b, b < 8 → a ≠ b → (cf_Rules a).2.1 ≠ (cf_Rules b).2.1 := by decide +kernel
theorem cp_Rules : ∀ k, k < 8 → parseFieldDescriptor (cf_Rules k).2.2.1 = some (ct_Rules k) := by decide +kernel
theorem ci_Rules : ∀ w ∈ u_ws "NineBoards$Rules" cf_Rules 8, w ∈ TB := fun w h => List.mem_filter.mpr ⟨List.mem_append_right _ ((by decide +kernel : ∀ w ∈ u_ws "NineBoards$Rules" cf_Rules 8, w ∈ tables_1) w h), (by decide +kernel : ∀ w ∈ u_ws "NineBoards$Rules" cf_Rules 8, goodWord w = true) w h⟩
def cf_State : u_T := fun k => match k with
  | 0 => ("NineBoards$State", "day", "I", false)
  | 1 => ("NineBoards$State", "water", "I", false)
  | 2 => ("NineBoards$State", "latest", "I", false)
  | 3 => ("NineBoards$State", "boards", "[I", true)
  | 4 => ("NineBoards$State", "flows", "[I", true)
  | 5 => ("NineBoards$State", "streams", "[J", true)
  | 6 => ("NineBoards$State", "worths", "[I", true)
  | 7 => ("NineBoards$State", "lately", "[I", true)
  | 8 => ("NineBoards$State", "servedDays", "[I", true)
  | _ => ("NineBoards$State", "sums", "[J", true)
def ct_State : Nat → FieldType := fun k => match k with
  | 0 => .int
  | 1 => .int
  | 2 => .int
  | 3 => .array (.int)
  | 4 => .array (.int)
  | 5 => .array (.long)
  | 6 => .array (.int)
  | 7 => .array (.int)
  | 8 => .array (.int)
  | _ => .array (.long)
theorem cn_State : ∀ a, a < 10 → ∀ b, b < 10 → a ≠ b → (cf_State a).2.1 ≠ (cf_State b).2.1 := by decide +kernel
theorem cp_State : ∀ k, k < 10 → parseFieldDescriptor (cf_State k).2.2.1 = some (ct_State k) := by decide +kernel
theorem ci_State : ∀ w ∈ u_ws "NineBoards$State" cf_State 10, w ∈ TB := fun w h => List.mem_filter.mpr ⟨List.mem_append_right _ ((by decide +kernel : ∀ w ∈ u_ws "NineBoards$State" cf_State 10, w ∈ tables_1) w h), (by decide +kernel : ∀ w ∈ u_ws "NineBoards$State" cf_State 10, goodWord w = true) w h⟩
def cf_Things : u_T := fun k => match k with
  | 0 => ("NineBoards$Things", "count", "I", false)
  | 1 => ("NineBoards$Things", "village", "[I", true)
  | 2 => ("NineBoards$Things", "gate", "[I", true)
  | 3 => ("NineBoards$Things", "from", "[I", true)
  | 4 => ("NineBoards$Things", "to", "[I", true)
  | 5 => ("NineBoards$Things", "firstDay", "[I", true)
  | 6 => ("NineBoards$Things", "lastDay", "[I", true)
  | _ => ("NineBoards$Things", "worth", "[I", true)
def ct_Things : Nat → FieldType := fun k => match k with
  | 0 => .int
  | 1 => .array (.int)
  | 2 => .array (.int)
  | 3 => .array (.int)
  | 4 => .array (.int)
  | 5 => .array (.int)
  | 6 => .array (.int)
  | _ => .array (.int)
theorem cn_Things : ∀ a, a < 8 → ∀ b, b < 8 → a ≠ b → (cf_Things a).2.1 ≠ (cf_Things b).2.1 := by decide +kernel
theorem cp_Things : ∀ k, k < 8 → parseFieldDescriptor (cf_Things k).2.2.1 = some (ct_Things k) := by decide +kernel
theorem ci_Things : ∀ w ∈ u_ws "NineBoards$Things" cf_Things 8, w ∈ TB := fun w h => List.mem_filter.mpr ⟨List.mem_append_right _ ((by decide +kernel : ∀ w ∈ u_ws "NineBoards$Things" cf_Things 8, w ∈ tables_1) w h), (by decide +kernel : ∀ w ∈ u_ws "NineBoards$Things" cf_Things 8, goodWord w = true) w h⟩
def cf_Nine : u_T := fun k => match k with
  | 0 => ("NineBoards", "tape", "LNineBoards$Bytes;", true)
  | 1 => ("NineBoards", "picture", "LNineBoards$Bytes;", true)
  | 2 => ("NineBoards", "now", "LNineBoards$State;", true)
  | 3 => ("NineBoards", "trial", "LNineBoards$State;", true)
  | 4 => ("NineBoards", "past", "LNineBoards$Past;", true)
  | 5 => ("NineBoards", "told", "LNineBoards$Lake;", false)
  | 6 => ("NineBoards", "spare", "LNineBoards$Lake;", false)
  | 7 => ("NineBoards", "reader", "LNineBoards$Reader;", true)
  | 8 => ("NineBoards", "plans", "LNineBoards$Plans;", true)
  | _ => ("NineBoards", "drawn", "I", false)
def ct_Nine : Nat → FieldType := fun k => match k with
  | 0 => .object "NineBoards$Bytes"
  | 1 => .object "NineBoards$Bytes"
  | 2 => .object "NineBoards$State"
  | 3 => .object "NineBoards$State"
  | 4 => .object "NineBoards$Past"
  | 5 => .object "NineBoards$Lake"
  | 6 => .object "NineBoards$Lake"
  | 7 => .object "NineBoards$Reader"
  | 8 => .object "NineBoards$Plans"
  | _ => .int
theorem cn_Nine : ∀ a, a < 10 → ∀ b, b < 10 → a ≠ b → (cf_Nine a).2.1 ≠ (cf_Nine b).2.1 := by decide +kernel
theorem cp_Nine : ∀ k, k < 10 → parseFieldDescriptor (cf_Nine k).2.2.1 = some (ct_Nine k) := by decide +kernel
theorem ci_Nine : ∀ w ∈ u_ws "NineBoards" cf_Nine 10, w ∈ TB := fun w h => List.mem_filter.mpr ⟨List.mem_append_right _ ((by decide +kernel : ∀ w ∈ u_ws "NineBoards" cf_Nine 10, w ∈ tables_1) w h), (by decide +kernel : ∀ w ∈ u_ws "NineBoards" cf_Nine 10, goodWord w = true) w h⟩
def cf_Model : u_T := fun k => match k with
  | 0 => ("NineBoardsModel", "tape", "[I", true)
  | 1 => ("NineBoardsModel", "taped", "I", false)
  | 2 => ("NineBoardsModel", "at", "I", false)
  | 3 => ("NineBoardsModel", "end", "I", false)
  | 4 => ("NineBoardsModel", "ended", "I", false)
  | 5 => ("NineBoardsModel", "bad", "I", false)
  | 6 => ("NineBoardsModel", "badPlace", "I", false)
  | 7 => ("NineBoardsModel", "fault", "I", false)
  | 8 => ("NineBoardsModel", "faultPlace", "I", false)
  | 9 => ("NineBoardsModel", "lakeWord", "[C", true)
  | 10 => ("NineBoardsModel", "spreadWord", "[C", true)
  | 11 => ("NineBoardsModel", "holdsWord", "[C", true)
  | 12 => ("NineBoardsModel", "hasWord", "[C", true)
  | 13 => ("NineBoardsModel", "gateWord", "[C", true)
  | 14 => ("NineBoardsModel", "plainWord", "[C", true)
  | 15 => ("NineBoardsModel", "leaksWord", "[C", true)
  | 16 => ("NineBoardsModel", "stepsWord", "[C", true)
  | 17 => ("NineBoardsModel", "frozenWord", "[C", true)
  | 18 => ("NineBoardsModel", "toWord", "[C", true)
  | 19 => ("NineBoardsModel", "boardsWord", "[C", true)
  | 20 => ("NineBoardsModel", "widthWord", "[C", true)
  | 21 => ("NineBoardsModel", "joinWord", "[C", true)
  | 22 => ("NineBoardsModel", "villageWord", "[C", true)
  | 23 => ("NineBoardsModel", "thingWord", "[C", true)
  | 24 => ("NineBoardsModel", "fromWord", "[C", true)
  | 25 => ("NineBoardsModel", "daysWord", "[C", true)
  | 26 => ("NineBoardsModel", "worthWord", "[C", true)
  | 27 => ("NineBoardsModel", "chapelWord", "[C", true)
  | 28 => ("NineBoardsModel", "lossWord", "[C", true)
  | 29 => ("NineBoardsModel", "bankWord", "[C", true)
  | 30 => ("NineBoardsModel", "rainWord", "[C", true)
  | 31 => ("NineBoardsModel", "airWord", "[C", true)
  | 32 => ("NineBoardsModel", "whenWord", "[C", true)
  | 33 => ("NineBoardsModel", "orWord", "[C", true)
  | 34 => ("NineBoardsModel", "andWord", "[C", true)
  | 35 => ("NineBoardsModel", "notWord", "[C", true)
  | 36 => ("NineBoardsModel", "allWord", "[C", true)
  | 37 => ("NineBoardsModel", "dayWord", "[C", true)
  | 38 => ("NineBoardsModel", "levelWord", "[C", true)
  | 39 => ("NineBoardsModel", "waterWord", "[C", true)
  | 40 => ("NineBoardsModel", "minWord", "[C", true)
  | 41 => ("NineBoardsModel", "maxWord", "[C", true)
  | 42 => ("NineBoardsModel", "namePlace", "I", false)
  | 43 => ("NineBoardsModel", "many", "[I", true)
  | 44 => ("NineBoardsModel", "names", "[J", true)
  | 45 => ("NineBoardsModel", "lake", "[I", true)
  | 46 => ("NineBoardsModel", "gates", "[I", true)
  | 47 => ("NineBoardsModel", "gateOf", "[I", true)
  | 48 => ("NineBoardsModel", "things", "[I", true)
  | 49 => ("NineBoardsModel", "statements", "I", false)
  | 50 => ("NineBoardsModel", "codes", "[I", true)
  | 51 => ("NineBoardsModel", "coded", "I", false)
  | 52 => ("NineBoardsModel", "wait", "[I", true)
  | 53 => ("NineBoardsModel", "waits", "I", false)
  | 54 => ("NineBoardsModel", "open", "I", false)
  | 55 => ("NineBoardsModel", "ofAir", "[Z", true)
  | 56 => ("NineBoardsModel", "sumFrom", "[I", true)
  | 57 => ("NineBoardsModel", "sumEnd", "[I", true)
  | 58 => ("NineBoardsModel", "testEnd", "[I", true)
  | 59 => ("NineBoardsModel", "base", "I", false)
  | 60 => ("NineBoardsModel", "pile", "[J", true)
  | 61 => ("NineBoardsModel", "piled", "I", false)
  | 62 => ("NineBoardsModel", "now", "[I", true)
  | 63 => ("NineBoardsModel", "flows", "[I", true)
  | 64 => ("NineBoardsModel", "spiltNow", "I", false)
  | 65 => ("NineBoardsModel", "days", "[I", true)
  | 66 => ("NineBoardsModel", "undoable", "I", false)
  | 67 => ("NineBoardsModel", "newest", "I", false)
  | 68 => ("NineBoardsModel", "aside", "[I", true)
  | 69 => ("NineBoardsModel", "begun", "[I", true)
  | 70 => ("NineBoardsModel", "gets", "[I", true)
  | 71 => ("NineBoardsModel", "takes", "[I", true)
  | 72 => ("NineBoardsModel", "power", "[I", true)
  | 73 => ("NineBoardsModel", "gotNow", "[I", true)
  | 74 => ("NineBoardsModel", "rowAct", "[I", true)
  | 75 => ("NineBoardsModel", "rowLatest", "[I", true)
  | 76 => ("NineBoardsModel", "seeded", "J", false)
  | 77 => ("NineBoardsModel", "octet", "[I", true)
  | _ => ("NineBoardsModel", "octets", "I", false)
def ct_Model : Nat → FieldType := fun k => match k with
  | 0 => .array (.int)
  | 1 => .int
  | 2 => .int
  | 3 => .int
  | 4 => .int
  | 5 => .int
  | 6 => .int
  | 7 => .int
  | 8 => .int
  | 9 => .array (.char)
  | 10 => .array (.char)
  | 11 => .array (.char)
  | 12 => .array (.char)
  | 13 => .array (.char)
  | 14 => .array (.char)
  | 15 => .array (.char)
  | 16 => .array (.char)
  | 17 => .array (.char)
  | 18 => .array (.char)
  | 19 => .array (.char)
  | 20 => .array (.char)
  | 21 => .array (.char)
  | 22 => .array (.char)
  | 23 => .array (.char)
  | 24 => .array (.char)
  | 25 => .array (.char)
  | 26 => .array (.char)
  | 27 => .array (.char)
  | 28 => .array (.char)
  | 29 => .array (.char)
  | 30 => .array (.char)
  | 31 => .array (.char)
  | 32 => .array (.char)
  | 33 => .array (.char)
  | 34 => .array (.char)
  | 35 => .array (.char)
  | 36 => .array (.char)
  | 37 => .array (.char)
  | 38 => .array (.char)
  | 39 => .array (.char)
  | 40 => .array (.char)
  | 41 => .array (.char)
  | 42 => .int
  | 43 => .array (.int)
  | 44 => .array (.long)
  | 45 => .array (.int)
  | 46 => .array (.int)
  | 47 => .array (.int)
  | 48 => .array (.int)
  | 49 => .int
  | 50 => .array (.int)
  | 51 => .int
  | 52 => .array (.int)
  | 53 => .int
  | 54 => .int
  | 55 => .array (.boolean)
  | 56 => .array (.int)
  | 57 => .array (.int)
  | 58 => .array (.int)
  | 59 => .int
  | 60 => .array (.long)
  | 61 => .int
  | 62 => .array (.int)
  | 63 => .array (.int)
  | 64 => .int
  | 65 => .array (.int)
  | 66 => .int
  | 67 => .int
  | 68 => .array (.int)
  | 69 => .array (.int)
  | 70 => .array (.int)
  | 71 => .array (.int)
  | 72 => .array (.int)
  | 73 => .array (.int)
  | 74 => .array (.int)
  | 75 => .array (.int)
  | 76 => .long
  | 77 => .array (.int)
  | _ => .int
theorem cn_Model : ∀ a, a < 79 → ∀ b, b < 79 → a ≠ b → (cf_Model a).2.1 ≠ (cf_Model b).2.1 := by decide +kernel
theorem cp_Model : ∀ k, k < 79 → parseFieldDescriptor (cf_Model k).2.2.1 = some (ct_Model k) := by decide +kernel
theorem ci_Model : ∀ w ∈ u_ws "NineBoardsModel" cf_Model 79, w ∈ TB := fun w h => List.mem_filter.mpr ⟨List.mem_append_right _ ((by decide +kernel : ∀ w ∈ u_ws "NineBoardsModel" cf_Model 79, w ∈ tables_1) w h), (by decide +kernel : ∀ w ∈ u_ws "NineBoardsModel" cf_Model 79, goodWord w = true) w h⟩
abbrev classes : List vw_C := [("NineBoards$Bytes", cf_Bytes, 2), ("NineBoards$Gates", cf_Gates, 8), ("NineBoards$Lake", cf_Lake, 14), ("NineBoards$Past", cf_Past, 3), ("NineBoards$Plans", cf_Plans, 6), ("NineBoards$Reader", cf_Reader, 12), ("NineBoards$Rules", cf_Rules, 8), ("NineBoards$State", cf_State, 10), ("NineBoards$Things", cf_Things, 8), ("NineBoards", cf_Nine, 10), ("NineBoardsModel", cf_Model, 79)]
end
section
/-! A calculus over the kit's rows: the judgement J speaks of a world, locals and a stack as data. -/
abbrev TY (y : Nat → ClassId) : List (ClassId × FieldType) := [(y 0, .int), (y 1, .long), (y 2, .boolean), (y 3, .char), (y 4, .object "NineBoards$State"), (y 5, .array .int)]
/-- the rows of rows of ints: their class's component is that of the rows of ints -/
def NA (U : State) : Prop := ∃ (c5 c0 : ClassId) (kA : Class), U.vm.findClass "[[I" = some c5 ∧ U.vm.findClass "[I" = some c0 ∧ U.vm.classes[c5]? = some kA ∧ kA.kind = .array c0 (.array .int)
theorem NA.moved {u U : State} (hvm : u.vm.Alike U.vm) (h : NA u) : NA U := by
  obtain ⟨c5, c0, kA, h1, h2, h3, h4⟩ := h
  obtain ⟨k', hk', he⟩ := hvm.2.2 _ _ h3
  exact ⟨c5, c0, k', by rw [hvm.findClass]; exact h1, by rw [hvm.findClass]; exact h2, hk', by rw [he]; exact h4⟩
def NB (U : State) : Prop := (va_AO "NineBoards$State" U ∧ NA U) ∧ va_Nw (.methodLinkNest "NineBoards" 23 ⟨"NineBoards$State", "<init>", "()V"⟩ "NineBoards") U ∧ va_Nw (.methodLinkNest "NineBoards$Past" 17 ⟨"NineBoards$State", "<init>", "()V"⟩ "NineBoards") U ∧ va_Nw (.methodLinkNest "NineBoards$Lake" 11 ⟨"NineBoards$Gates", "<init>", "()V"⟩ "NineBoards") U ∧ va_Nw (.methodLinkNest "NineBoards$Lake" 27 ⟨"NineBoards$Things", "<init>", "()V"⟩ "NineBoards") U ∧ va_Nw (.methodLinkNest "NineBoards$Lake" 34 ⟨"NineBoards$Rules", "<init>", "()V"⟩ "NineBoards") U ∧ va_Nw (.methodLinkNest "NineBoards$Plans" 29 ⟨"NineBoards$State", "<init>", "()V"⟩ "NineBoards") U ∧ va_Nw (.methodLinkNest "NineBoards" 243 ⟨"NineBoards$Days", "countRows", "(LNineBoards$Lake;LNineBoards$State;I)I"⟩ "NineBoards") U
theorem NB.warm {s U : State} (h : NB s) (hW : s.WarmedH U.vm) : NB U := ⟨⟨h.1.1.moved hW.alike, h.1.2.moved hW.alike⟩, va_Nw.warmM hW h.2.1, va_Nw.warmM hW h.2.2.1, va_Nw.warmM hW h.2.2.2.1, va_Nw.warmM hW h.2.2.2.2.1, va_Nw.warmM hW h.2.2.2.2.2.1, va_Nw.warmM hW h.2.2.2.2.2.2.1, va_Nw.warmM hW h.2.2.2.2.2.2.2⟩
theorem NB.same {s U : State} (h : NB s) (e : s.vm = U.vm) : NB U := ⟨⟨h.1.1.moved (by rw [e]; exact Vm.Alike.refl U.vm), h.1.2.moved (by rw [e]; exact Vm.Alike.refl U.vm)⟩, va_Nw.same rfl e h.2.1, va_Nw.same rfl e h.2.2.1, va_Nw.same rfl e h.2.2.2.1, va_Nw.same rfl e h.2.2.2.2.1, va_Nw.same rfl e h.2.2.2.2.2.1, va_Nw.same rfl e h.2.2.2.2.2.2.1, va_Nw.same rfl e h.2.2.2.2.2.2.2⟩
def Cx (p : Program) (s : State) (m : MethodId) (args : Array Value) (meth : Method) (c : Code) (D : va_G) (y : Nat → ClassId) (A : Nat → Prop) (cc : ByteArray) (nL : Nat) (own nm : String) : Prop :=
  p.tables.exec = Jvm.exec ∧ c.code = cc ∧ c.maxLocals = nL ∧ s.vm.findClass own = some m.cls ∧ (∀ w ∈ TB, w.before args s = true) ∧ va_K D classes (TY y) s ∧ (∀ q, s.heap.size ≤ q → A q) ∧ meth.locks = false ∧ meth.name = nm ∧ NB s
def J (p : Program) (l : Launch) (e : Env) (R : Room) (s : State) (m : MethodId) (args : Array Value) (below : List Frame) (meth : Method) (c : Code) (Q : State → Prop) (D : va_G) (A : Nat → Prop) (nL : Nat) (ws : va_W) (lv : List (Nat × Value)) (kc ks : Nat) (pc : Nat) (st : List Value) : Prop :=
  ∀ (H : Heap) (L : List Loc) (ls : Array Slot), va_P D classes ws H → va_D A ws → va_S A s.heap H L → lv_has ls nL lv → W p l e R s m args below meth c H L kc ks Q (F0 m pc ls st)
def WP (D : va_G) (y : Nat → ClassId) (sz : Nat) (ws : va_W) (U : State) : Prop := U.heap.size = sz ∧ va_P D classes ws U.heap ∧ va_K D classes (TY y) U ∧ va_D (fun _ => True) ws ∧ NB U
def WQ {S : Type} (D : va_G) (A : Nat → Prop) (ws' : S → va_W) (u : S) (t : State) : Prop := va_P D classes (ws' u) t.heap ∧ va_D A (ws' u)
/-- a method's contract: its arguments, the world ahead of it, what is behind it -/
def CT (l : Launch) (D : va_G) (y : Nat → ClassId) (nm : MethodName) (b : ByteArray) (mL : Nat) (ret : Option FieldType) (rm : Room) (av : List Value) (ws : va_W) (Qf : Nat → Array Value → State → Outcome → State → Prop) : Prop :=
  ∀ sz : Nat, Met l nm (Cond.code nm b mL ret :: TB) rm (va_Pc av (WP D y sz ws)) (Qf sz) rm.cells rm.slots (va_A ws sz)
abbrev QI {S : Type} (D : va_G) (ws : va_W) (post : Int32 → S → Prop) (ws' : S → va_W) : Nat → Array Value → State → Outcome → State → Prop := fun sz => va_Qi post (WQ D (va_A ws sz) ws') (va_A ws sz)
abbrev QV {S : Type} (D : va_G) (ws : va_W) (post : S → Prop) (ws' : S → va_W) : Nat → Array Value → State → Outcome → State → Prop := fun sz => va_Qv post (WQ D (va_A ws sz) ws') (va_A ws sz)
abbrev QL {S : Type} (D : va_G) (ws : va_W) (post : Int64 → S → Prop) (ws' : S → va_W) : Nat → Array Value → State → Outcome → State → Prop := fun sz => va_Ql post (WQ D (va_A ws sz) ws') (va_A ws sz)
theorem WP.blind {D : va_G} {y : Nat → ClassId} {sz : Nat} {ws : va_W} {av : List Value} : FrameBlind (va_Pc av (WP D y sz ws)) := fun a U g mk q => by
  obtain ⟨q0, q1, qP, qK, qD, qN⟩ := q
  exact ⟨q0, q1, qP, va_K.moved (u := U) (U := U.calling g mk a) (Vm.Alike.refl U.vm) qK, qD, qN.same rfl⟩
theorem CT.of {l : Launch} {D : va_G} {y : Nat → ClassId} {nm : MethodName} {b : ByteArray} {mL : Nat} {ret : Option FieldType} {rm : Room} {av : List Value} {ws : va_W} {Qf : Nat → Array Value → State → Outcome → State → Prop} (hy : plainName nm.cls = true) (hav : (lg_sl av).length ≤ mL)
    (body : ∀ (p : Program) (e : Env) (s : State) (m : MethodId) (args : Array Value) (below : List Frame) (meth : Method) (c : Code), Cx p s m args meth c D y (va_A ws s.heap.size) b mL nm.cls nm.name → meth.sig.returnType = ret → J p l e rm s m args below meth c (MQ below (Qf s.heap.size) args s rm.cells rm.slots (va_A ws s.heap.size)) D (va_A ws s.heap.size) mL ws (lv_args 0 av) 0 0 0 []) : CT l D y nm b mL ret rm av ws Qf := by
  intro sz
  refine Met.ofW (cc := b) (maxL := mL) (ret := ret) hy rfl ?_
  intro p e s m args below meth c s₁ B hml hv
  obtain ⟨rfl, hsz, hP, hK, hD0, hN⟩ := hv
  subst hsz
  have hts := atoms_spec (ws := Cond.code nm b mL ret :: TB) B.pre
  have hC : Cx p s m av.toArray meth c D y (va_A ws s.heap.size) b mL nm.cls nm.name := ⟨B.exec, B.bytes, hml, findClass_of_methodNamed B.named, fun w h => hts w (List.mem_cons_of_mem _ h), hK, fun q h => Or.inr h, B.notSynchronized, (name_of_methodNamed B.named B.method).1, hN⟩
  have hl := lv_entry av (n := mL) hav
  rw [lg_entry_eq]
  exact body p e s m av.toArray below meth c hC B.returns s.heap [] _ hP hD0.self va_S.rf hl
section JC
variable {p : Program} {l : Launch} {e : Env} {R : Room} {s : State} {m : MethodId} {args : Array Value} {below : List Frame} {meth : Method} {c : Code} {Q : State → Prop} {D : va_G} {y : Nat → ClassId} {A : Nat → Prop} {cc : ByteArray} {nL : Nat} {own nm : String} {ws : va_W} {lv : List (Nat × Value)} {kc ks pc : Nat} {st : List Value}
theorem Cx.x (C : Cx p s m args meth c D y A cc nL own nm) : p.tables.exec = Jvm.exec := C.1
theorem Cx.b (C : Cx p s m args meth c D y A cc nL own nm) : c.code = cc := C.2.1
theorem Cx.ml (C : Cx p s m args meth c D y A cc nL own nm) : c.maxLocals = nL := C.2.2.1
theorem Cx.ow (C : Cx p s m args meth c D y A cc nL own nm) : s.vm.findClass own = some m.cls := C.2.2.2.1
theorem Cx.t (C : Cx p s m args meth c D y A cc nL own nm) : ∀ w ∈ TB, w.before args s = true := C.2.2.2.2.1
theorem Cx.K (C : Cx p s m args meth c D y A cc nL own nm) : va_K D classes (TY y) s := C.2.2.2.2.2.1
theorem Cx.ha (C : Cx p s m args meth c D y A cc nL own nm) : ∀ q, s.heap.size ≤ q → A q := C.2.2.2.2.2.2.1
theorem Cx.lk (C : Cx p s m args meth c D y A cc nL own nm) : meth.locks = false := C.2.2.2.2.2.2.2.1
theorem Cx.nn (C : Cx p s m args meth c D y A cc nL own nm) : meth.name = nm := C.2.2.2.2.2.2.2.2.1
theorem Cx.N (C : Cx p s m args meth c D y A cc nL own nm) : NB s := C.2.2.2.2.2.2.2.2.2
theorem j_widen {kc' ks' : Nat} (h1 : kc ≤ kc') (h2 : ks ≤ ks') (kk : J p l e R s m args below meth c Q D A nL ws lv kc' ks' pc st) : J p l e R s m args below meth c Q D A nL ws lv kc ks pc st := fun H L ls a b d f => W.widen h1 h2 (kk H L ls a b d f)
theorem j_locs {lv' : List (Nat × Value)} (ks0 : List Nat) (hl : lv_pick lv ks0 = lv') (kk : J p l e R s m args below meth c Q D A nL ws lv' kc ks pc st) : J p l e R s m args below meth c Q D A nL ws lv kc ks pc st := fun H L ls a b d f => kk H L ls a b d (lv_sub f ks0 hl)
theorem fm_of {α β : Type} {f : α → Option β} : ∀ {is : List α} {w : List β}, is.map f = w.map some → is.filterMap f = w := by
  intro is w h
  have e : is.filterMap f = (is.map f).filterMap id := by rw [List.filterMap_map]; rfl
  rw [e, h, List.filterMap_map]
  exact List.filterMap_some
theorem j_sub {ws' : va_W} (is : List Nat) (hs : is.map (fun i => ws[i]?) = ws'.map some) (hn : va_nd is = true) (kk : J p l e R s m args below meth c Q D A nL ws' lv kc ks pc st) : J p l e R s m args below meth c Q D A nL ws lv kc ks pc st := fun H L ls a b d f => kk H L ls (a.sub is (fm_of hs)) (b.sub is hn hs) d f
theorem j_ws {ws' : va_W} (h : ws = ws') (kk : J p l e R s m args below meth c Q D A nL ws' lv kc ks pc st) : J p l e R s m args below meth c Q D A nL ws lv kc ks pc st := h ▸ kk
theorem j_st {st' : List Value} (h : st = st') (kk : J p l e R s m args below meth c Q D A nL ws lv kc ks pc st') : J p l e R s m args below meth c Q D A nL ws lv kc ks pc st := h ▸ kk
theorem j_iconst (C : Cx p s m args meth c D y A cc nL own nm) {n : Int} {v : Int32} (d : decode cc pc = .ok (.iconst n, 1)) (hv : Int32.ofInt n = v) (kk : J p l e R s m args below meth c Q D A nL ws lv kc ks (pc + 1) (.int v :: st)) : J p l e R s m args below meth c Q D A nL ws lv kc ks pc st := fun H L ls a b f g => lv_iconst C.x C.b d hv (kk H L ls a b f g)
theorem j_bipush (C : Cx p s m args meth c D y A cc nL own nm) {n : Int} {v : Int32} (d : decode cc pc = .ok (.bipush n, 2)) (hv : (Int8.ofInt n).toInt32 = v) (kk : J p l e R s m args below meth c Q D A nL ws lv kc ks (pc + 2) (.int v :: st)) : J p l e R s m args below meth c Q D A nL ws lv kc ks pc st := fun H L ls a b f g => lv_bipush C.x C.b d hv (kk H L ls a b f g)
theorem j_sipush (C : Cx p s m args meth c D y A cc nL own nm) {n : Int} {v : Int32} (d : decode cc pc = .ok (.sipush n, 3)) (hv : (Int16.ofInt n).toInt32 = v) (kk : J p l e R s m args below meth c Q D A nL ws lv kc ks (pc + 3) (.int v :: st)) : J p l e R s m args below meth c Q D A nL ws lv kc ks pc st := fun H L ls a b f g => lv_sipush C.x C.b d hv (kk H L ls a b f g)
theorem j_lconst (C : Cx p s m args meth c D y A cc nL own nm) {n : Fin 2} {v : Int64} (d : decode cc pc = .ok (.lconst n, 1)) (hv : Int64.ofNat (n : Nat) = v) (kk : J p l e R s m args below meth c Q D A nL ws lv kc ks (pc + 1) (.long v :: st)) : J p l e R s m args below meth c Q D A nL ws lv kc ks pc st := fun H L ls a b f g => lv_lconst C.x C.b d hv (kk H L ls a b f g)
theorem j_ldc (C : Cx p s m args meth c D y A cc nL own nm) {i : Nat} {v : Int32} (hw : Cond.constant own i v ∈ TB) (d : decode cc pc = .ok (.ldc i, 2)) (kk : J p l e R s m args below meth c Q D A nL ws lv kc ks (pc + 2) (.int v :: st)) : J p l e R s m args below meth c Q D A nL ws lv kc ks pc st := fun H L ls a b f g => W.ldc C.x C.b C.ow (C.t _ hw) rfl d (kk H L ls a b f g)
theorem j_ldcw (C : Cx p s m args meth c D y A cc nL own nm) {i : Nat} {v : Int32} (hw : Cond.constant own i v ∈ TB) (d : decode cc pc = .ok (.ldc_w i, 3)) (kk : J p l e R s m args below meth c Q D A nL ws lv kc ks (pc + 3) (.int v :: st)) : J p l e R s m args below meth c Q D A nL ws lv kc ks pc st := fun H L ls a b f g => lv_ldcw C.x C.b C.ow (C.t _ hw) d (kk H L ls a b f g)
theorem j_ldc2 (C : Cx p s m args meth c D y A cc nL own nm) {i : Nat} {v : Int64} (hw : Cond.constantLong own i v ∈ TB) (d : decode cc pc = .ok (.ldc2_w i, 3)) (kk : J p l e R s m args below meth c Q D A nL ws lv kc ks (pc + 3) (.long v :: st)) : J p l e R s m args below meth c Q D A nL ws lv kc ks pc st := fun H L ls a b f g => W.ldc2 C.x C.b C.ow (C.t _ hw) rfl d (kk H L ls a b f g)
theorem j_iload_n (C : Cx p s m args meth c D y A cc nL own nm) {k : Fin 4} {i : Nat} {v : Int32} (d : decode cc pc = .ok (.iload_n k, 1)) (hi : (k : Nat) = i) (q : Nat) (hl : lv[q]? = some (i, .int v)) (kk : J p l e R s m args below meth c Q D A nL ws lv kc ks (pc + 1) (.int v :: st)) : J p l e R s m args below meth c Q D A nL ws lv kc ks pc st := fun H L ls a b f g => lv_iload_n C.x C.b d hi (lv_at g q hl) (kk H L ls a b f g)
theorem j_iload (C : Cx p s m args meth c D y A cc nL own nm) {i : Nat} {v : Int32} (d : decode cc pc = .ok (.iload i, 2)) (q : Nat) (hl : lv[q]? = some (i, .int v)) (kk : J p l e R s m args below meth c Q D A nL ws lv kc ks (pc + 2) (.int v :: st)) : J p l e R s m args below meth c Q D A nL ws lv kc ks pc st := fun H L ls a b f g => lv_iload C.x C.b d (lv_at g q hl) (kk H L ls a b f g)
theorem j_lload_n (C : Cx p s m args meth c D y A cc nL own nm) {k : Fin 4} {i : Nat} {v : Int64} (d : decode cc pc = .ok (.lload_n k, 1)) (hi : (k : Nat) = i) (q : Nat) (hl : lv[q]? = some (i, .long v)) (kk : J p l e R s m args below meth c Q D A nL ws lv kc ks (pc + 1) (.long v :: st)) : J p l e R s m args below meth c Q D A nL ws lv kc ks pc st := fun H L ls a b f g => lv_lload_n C.x C.b d hi (lv_at g q hl) (kk H L ls a b f g)
theorem j_lload (C : Cx p s m args meth c D y A cc nL own nm) {i : Nat} {v : Int64} (d : decode cc pc = .ok (.lload i, 2)) (q : Nat) (hl : lv[q]? = some (i, .long v)) (kk : J p l e R s m args below meth c Q D A nL ws lv kc ks (pc + 2) (.long v :: st)) : J p l e R s m args below meth c Q D A nL ws lv kc ks pc st := fun H L ls a b f g => lv_lload C.x C.b d (lv_at g q hl) (kk H L ls a b f g)
theorem j_aload_n (C : Cx p s m args meth c D y A cc nL own nm) {k : Fin 4} {i : Nat} {v : Nat} (d : decode cc pc = .ok (.aload_n k, 1)) (hi : (k : Nat) = i) (q : Nat) (hl : lv[q]? = some (i, .ref v)) (kk : J p l e R s m args below meth c Q D A nL ws lv kc ks (pc + 1) (.ref v :: st)) : J p l e R s m args below meth c Q D A nL ws lv kc ks pc st := fun H L ls a b f g => lv_aload_n C.x C.b d hi (lv_at g q hl) (kk H L ls a b f g)
theorem j_aload (C : Cx p s m args meth c D y A cc nL own nm) {i : Nat} {v : Nat} (d : decode cc pc = .ok (.aload i, 2)) (q : Nat) (hl : lv[q]? = some (i, .ref v)) (kk : J p l e R s m args below meth c Q D A nL ws lv kc ks (pc + 2) (.ref v :: st)) : J p l e R s m args below meth c Q D A nL ws lv kc ks pc st := fun H L ls a b f g => lv_aload C.x C.b d (lv_at g q hl) (kk H L ls a b f g)
theorem j_istore_n (C : Cx p s m args meth c D y A cc nL own nm) {k : Fin 4} {i : Nat} {v : Int32} {lv' : List (Nat × Value)} (d : decode cc pc = .ok (.istore_n k, 1)) (hi : (k : Nat) = i) (hn : i < nL) (hl : (i, Value.int v) :: lv.filter (fun q => !(q.1 == i) && !(q.1 + 1 == i && q.2.category == 2)) = lv') (kk : J p l e R s m args below meth c Q D A nL ws lv' kc ks (pc + 1) st) : J p l e R s m args below meth c Q D A nL ws lv kc ks pc (.int v :: st) := fun H L ls a b f g => lv_istore_n C.x C.b d hi g hn hl (fun ls' g' => kk H L ls' a b f g')
theorem j_istore (C : Cx p s m args meth c D y A cc nL own nm) {i : Nat} {v : Int32} {lv' : List (Nat × Value)} (d : decode cc pc = .ok (.istore i, 2)) (hn : i < nL) (hl : (i, Value.int v) :: lv.filter (fun q => !(q.1 == i) && !(q.1 + 1 == i && q.2.category == 2)) = lv') (kk : J p l e R s m args below meth c Q D A nL ws lv' kc ks (pc + 2) st) : J p l e R s m args below meth c Q D A nL ws lv kc ks pc (.int v :: st) := fun H L ls a b f g => lv_istore C.x C.b d g hn hl (fun ls' g' => kk H L ls' a b f g')
theorem j_lstore_n (C : Cx p s m args meth c D y A cc nL own nm) {k : Fin 4} {i : Nat} {v : Int64} {lv' : List (Nat × Value)} (d : decode cc pc = .ok (.lstore_n k, 1)) (hi : (k : Nat) = i) (hn : i + 1 < nL) (hl : (i, Value.long v) :: lv.filter (fun q => !(q.1 == i) && (!(q.1 == i + 1) && !(q.1 + 1 == i && q.2.category == 2))) = lv') (kk : J p l e R s m args below meth c Q D A nL ws lv' kc ks (pc + 1) st) : J p l e R s m args below meth c Q D A nL ws lv kc ks pc (.long v :: st) := fun H L ls a b f g => lv_lstore_n C.x C.b d hi g hn hl (fun ls' g' => kk H L ls' a b f g')
theorem j_lstore (C : Cx p s m args meth c D y A cc nL own nm) {i : Nat} {v : Int64} {lv' : List (Nat × Value)} (d : decode cc pc = .ok (.lstore i, 2)) (hn : i + 1 < nL) (hl : (i, Value.long v) :: lv.filter (fun q => !(q.1 == i) && (!(q.1 == i + 1) && !(q.1 + 1 == i && q.2.category == 2))) = lv') (kk : J p l e R s m args below meth c Q D A nL ws lv' kc ks (pc + 2) st) : J p l e R s m args below meth c Q D A nL ws lv kc ks pc (.long v :: st) := fun H L ls a b f g => lv_lstore C.x C.b d g hn hl (fun ls' g' => kk H L ls' a b f g')
theorem j_astore_n (C : Cx p s m args meth c D y A cc nL own nm) {k : Fin 4} {i : Nat} {v : Nat} {lv' : List (Nat × Value)} (d : decode cc pc = .ok (.astore_n k, 1)) (hi : (k : Nat) = i) (hn : i < nL) (hl : (i, Value.ref v) :: lv.filter (fun q => !(q.1 == i) && !(q.1 + 1 == i && q.2.category == 2)) = lv') (kk : J p l e R s m args below meth c Q D A nL ws lv' kc ks (pc + 1) st) : J p l e R s m args below meth c Q D A nL ws lv kc ks pc (.ref v :: st) := fun H L ls a b f g => lv_astore_n C.x C.b d hi g hn hl (fun ls' g' => kk H L ls' a b f g')
theorem j_astore (C : Cx p s m args meth c D y A cc nL own nm) {i : Nat} {v : Nat} {lv' : List (Nat × Value)} (d : decode cc pc = .ok (.astore i, 2)) (hn : i < nL) (hl : (i, Value.ref v) :: lv.filter (fun q => !(q.1 == i) && !(q.1 + 1 == i && q.2.category == 2)) = lv') (kk : J p l e R s m args below meth c Q D A nL ws lv' kc ks (pc + 2) st) : J p l e R s m args below meth c Q D A nL ws lv kc ks pc (.ref v :: st) := fun H L ls a b f g => lv_astore C.x C.b d g hn hl (fun ls' g' => kk H L ls' a b f g')
theorem j_iinc (C : Cx p s m args meth c D y A cc nL own nm) {i : Nat} {n : Int} {x v : Int32} {lv' : List (Nat × Value)} (d : decode cc pc = .ok (.iinc i n, 3)) (q : Nat) (hk : lv[q]? = some (i, .int x)) (hv : x + Int32.ofInt n = v) (hn : i < nL) (hl : (i, Value.int v) :: lv.filter (fun q => !(q.1 == i) && !(q.1 + 1 == i && q.2.category == 2)) = lv') (kk : J p l e R s m args below meth c Q D A nL ws lv' kc ks (pc + 3) st) : J p l e R s m args below meth c Q D A nL ws lv kc ks pc st := fun H L ls a b f g => lv_iinc C.x C.b d g hk hv hn hl (fun ls' g' => kk H L ls' a b f g')
theorem j_goto (C : Cx p s m args meth c D y A cc nL own nm) {off : Int} {tgt : Nat} (d : decode cc pc = .ok (.goto off, 3)) (ht : (pc : Int) + off = (tgt : Int)) (kk : J p l e R s m args below meth c Q D A nL ws lv kc ks tgt st) : J p l e R s m args below meth c Q D A nL ws lv kc ks pc st := fun H L ls a b f g => lv_goto C.x C.b d ht (kk H L ls a b f g)
theorem j_dup (C : Cx p s m args meth c D y A cc nL own nm) {v : Value} (d : decode cc pc = .ok (.dup, 1)) (hv : v.category = 1) (kk : J p l e R s m args below meth c Q D A nL ws lv kc ks (pc + 1) (v :: v :: st)) : J p l e R s m args below meth c Q D A nL ws lv kc ks pc (v :: st) := fun H L ls a b f g => lv_dup C.x C.b d hv (kk H L ls a b f g)
theorem j_pop (C : Cx p s m args meth c D y A cc nL own nm) {v : Value} (d : decode cc pc = .ok (.pop, 1)) (hv : v.category = 1) (kk : J p l e R s m args below meth c Q D A nL ws lv kc ks (pc + 1) st) : J p l e R s m args below meth c Q D A nL ws lv kc ks pc (v :: st) := fun H L ls a b f g => lv_pop C.x C.b d hv (kk H L ls a b f g)
theorem j_dup2 (C : Cx p s m args meth c D y A cc nL own nm) {v w : Value} (d : decode cc pc = .ok (.dup2, 1)) (hv : v.category = 1) (hw : w.category = 1) (kk : J p l e R s m args below meth c Q D A nL ws lv kc ks (pc + 1) (v :: w :: v :: w :: st)) : J p l e R s m args below meth c Q D A nL ws lv kc ks pc (v :: w :: st) := fun H L ls a b f g => lv_dup2_11 C.x C.b d hv hw (kk H L ls a b f g)
theorem j_iadd (C : Cx p s m args meth c D y A cc nL own nm) {x z v : Int32} (d : decode cc pc = .ok (.iadd, 1)) (hv : x + z = v) (kk : J p l e R s m args below meth c Q D A nL ws lv kc ks (pc + 1) (.int v :: st)) : J p l e R s m args below meth c Q D A nL ws lv kc ks pc (.int z :: .int x :: st) := by
  subst hv
  exact fun H L ls a b f g => lv_iadd C.x C.b d (kk H L ls a b f g)
theorem j_isub (C : Cx p s m args meth c D y A cc nL own nm) {x z v : Int32} (d : decode cc pc = .ok (.isub, 1)) (hv : x - z = v) (kk : J p l e R s m args below meth c Q D A nL ws lv kc ks (pc + 1) (.int v :: st)) : J p l e R s m args below meth c Q D A nL ws lv kc ks pc (.int z :: .int x :: st) := by
  subst hv
  exact fun H L ls a b f g => lv_isub C.x C.b d (kk H L ls a b f g)
theorem j_imul (C : Cx p s m args meth c D y A cc nL own nm) {x z v : Int32} (d : decode cc pc = .ok (.imul, 1)) (hv : x * z = v) (kk : J p l e R s m args below meth c Q D A nL ws lv kc ks (pc + 1) (.int v :: st)) : J p l e R s m args below meth c Q D A nL ws lv kc ks pc (.int z :: .int x :: st) := by
  subst hv
  exact fun H L ls a b f g => lv_imul C.x C.b d (kk H L ls a b f g)
theorem j_iand (C : Cx p s m args meth c D y A cc nL own nm) {x z v : Int32} (d : decode cc pc = .ok (.iand, 1)) (hv : x &&& z = v) (kk : J p l e R s m args below meth c Q D A nL ws lv kc ks (pc + 1) (.int v :: st)) : J p l e R s m args below meth c Q D A nL ws lv kc ks pc (.int z :: .int x :: st) := by
  subst hv
  exact fun H L ls a b f g => lv_iand C.x C.b d (kk H L ls a b f g)
theorem j_ior (C : Cx p s m args meth c D y A cc nL own nm) {x z v : Int32} (d : decode cc pc = .ok (.ior, 1)) (hv : x ||| z = v) (kk : J p l e R s m args below meth c Q D A nL ws lv kc ks (pc + 1) (.int v :: st)) : J p l e R s m args below meth c Q D A nL ws lv kc ks pc (.int z :: .int x :: st) := by
  subst hv
  exact fun H L ls a b f g => lv_ior C.x C.b d (kk H L ls a b f g)
theorem j_ixor (C : Cx p s m args meth c D y A cc nL own nm) {x z v : Int32} (d : decode cc pc = .ok (.ixor, 1)) (hv : x ^^^ z = v) (kk : J p l e R s m args below meth c Q D A nL ws lv kc ks (pc + 1) (.int v :: st)) : J p l e R s m args below meth c Q D A nL ws lv kc ks pc (.int z :: .int x :: st) := by
  subst hv
  exact fun H L ls a b f g => lv_ixor C.x C.b d (kk H L ls a b f g)
theorem j_ishl (C : Cx p s m args meth c D y A cc nL own nm) {x z v : Int32} (d : decode cc pc = .ok (.ishl, 1)) (hv : x <<< (z &&& 31) = v) (kk : J p l e R s m args below meth c Q D A nL ws lv kc ks (pc + 1) (.int v :: st)) : J p l e R s m args below meth c Q D A nL ws lv kc ks pc (.int z :: .int x :: st) := by
  subst hv
  exact fun H L ls a b f g => lv_ishl C.x C.b d (kk H L ls a b f g)
theorem j_ishr (C : Cx p s m args meth c D y A cc nL own nm) {x z v : Int32} (d : decode cc pc = .ok (.ishr, 1)) (hv : x >>> (z &&& 31) = v) (kk : J p l e R s m args below meth c Q D A nL ws lv kc ks (pc + 1) (.int v :: st)) : J p l e R s m args below meth c Q D A nL ws lv kc ks pc (.int z :: .int x :: st) := by
  subst hv
  exact fun H L ls a b f g => lv_ishr C.x C.b d (kk H L ls a b f g)
theorem j_idiv (C : Cx p s m args meth c D y A cc nL own nm) {x z v : Int32} (d : decode cc pc = .ok (.idiv, 1)) (h0 : ¬ z = 0) (hv : x / z = v) (kk : J p l e R s m args below meth c Q D A nL ws lv kc ks (pc + 1) (.int v :: st)) : J p l e R s m args below meth c Q D A nL ws lv kc ks pc (.int z :: .int x :: st) := by
  subst hv
  exact fun H L ls a b f g => lv_idiv C.x C.b d h0 (kk H L ls a b f g)
theorem j_irem (C : Cx p s m args meth c D y A cc nL own nm) {x z v : Int32} (d : decode cc pc = .ok (.irem, 1)) (h0 : ¬ z = 0) (hv : x - x / z * z = v) (kk : J p l e R s m args below meth c Q D A nL ws lv kc ks (pc + 1) (.int v :: st)) : J p l e R s m args below meth c Q D A nL ws lv kc ks pc (.int z :: .int x :: st) := by
  subst hv
  exact fun H L ls a b f g => lv_irem C.x C.b d h0 (kk H L ls a b f g)
theorem j_ladd (C : Cx p s m args meth c D y A cc nL own nm) {x z v : Int64} (d : decode cc pc = .ok (.ladd, 1)) (hv : x + z = v) (kk : J p l e R s m args below meth c Q D A nL ws lv kc ks (pc + 1) (.long v :: st)) : J p l e R s m args below meth c Q D A nL ws lv kc ks pc (.long z :: .long x :: st) := by
  subst hv
  exact fun H L ls a b f g => lv_ladd C.x C.b d (kk H L ls a b f g)
theorem j_lsub (C : Cx p s m args meth c D y A cc nL own nm) {x z v : Int64} (d : decode cc pc = .ok (.lsub, 1)) (hv : x - z = v) (kk : J p l e R s m args below meth c Q D A nL ws lv kc ks (pc + 1) (.long v :: st)) : J p l e R s m args below meth c Q D A nL ws lv kc ks pc (.long z :: .long x :: st) := by
  subst hv
  exact fun H L ls a b f g => lv_lsub C.x C.b d (kk H L ls a b f g)
theorem j_lmul (C : Cx p s m args meth c D y A cc nL own nm) {x z v : Int64} (d : decode cc pc = .ok (.lmul, 1)) (hv : x * z = v) (kk : J p l e R s m args below meth c Q D A nL ws lv kc ks (pc + 1) (.long v :: st)) : J p l e R s m args below meth c Q D A nL ws lv kc ks pc (.long z :: .long x :: st) := by
  subst hv
  exact fun H L ls a b f g => lv_lmul C.x C.b d (kk H L ls a b f g)
theorem j_land (C : Cx p s m args meth c D y A cc nL own nm) {x z v : Int64} (d : decode cc pc = .ok (.land, 1)) (hv : x &&& z = v) (kk : J p l e R s m args below meth c Q D A nL ws lv kc ks (pc + 1) (.long v :: st)) : J p l e R s m args below meth c Q D A nL ws lv kc ks pc (.long z :: .long x :: st) := by
  subst hv
  exact fun H L ls a b f g => lv_land C.x C.b d (kk H L ls a b f g)
theorem j_lor (C : Cx p s m args meth c D y A cc nL own nm) {x z v : Int64} (d : decode cc pc = .ok (.lor, 1)) (hv : x ||| z = v) (kk : J p l e R s m args below meth c Q D A nL ws lv kc ks (pc + 1) (.long v :: st)) : J p l e R s m args below meth c Q D A nL ws lv kc ks pc (.long z :: .long x :: st) := by
  subst hv
  exact fun H L ls a b f g => lv_lor C.x C.b d (kk H L ls a b f g)
theorem j_ldiv (C : Cx p s m args meth c D y A cc nL own nm) {x z v : Int64} (d : decode cc pc = .ok (.ldiv, 1)) (h0 : ¬ z = 0) (hv : x / z = v) (kk : J p l e R s m args below meth c Q D A nL ws lv kc ks (pc + 1) (.long v :: st)) : J p l e R s m args below meth c Q D A nL ws lv kc ks pc (.long z :: .long x :: st) := by
  subst hv
  exact fun H L ls a b f g => lv_ldiv C.x C.b d h0 (kk H L ls a b f g)
theorem j_lrem (C : Cx p s m args meth c D y A cc nL own nm) {x z v : Int64} (d : decode cc pc = .ok (.lrem, 1)) (h0 : ¬ z = 0) (hv : x - x / z * z = v) (kk : J p l e R s m args below meth c Q D A nL ws lv kc ks (pc + 1) (.long v :: st)) : J p l e R s m args below meth c Q D A nL ws lv kc ks pc (.long z :: .long x :: st) := by
  subst hv
  exact fun H L ls a b f g => lv_lrem C.x C.b d h0 (kk H L ls a b f g)
theorem j_ineg (C : Cx p s m args meth c D y A cc nL own nm) {x v : Int32} (d : decode cc pc = .ok (.ineg, 1)) (hv : -x = v) (kk : J p l e R s m args below meth c Q D A nL ws lv kc ks (pc + 1) (.int v :: st)) : J p l e R s m args below meth c Q D A nL ws lv kc ks pc (.int x :: st) := by
  subst hv
  exact fun H L ls a b f g => lv_ineg C.x C.b d (kk H L ls a b f g)
theorem j_i2l (C : Cx p s m args meth c D y A cc nL own nm) {x : Int32} {v : Int64} (d : decode cc pc = .ok (.i2l, 1)) (hv : x.toInt64 = v) (kk : J p l e R s m args below meth c Q D A nL ws lv kc ks (pc + 1) (.long v :: st)) : J p l e R s m args below meth c Q D A nL ws lv kc ks pc (.int x :: st) := fun H L ls a b f g => lv_i2l C.x C.b d hv (kk H L ls a b f g)
theorem j_l2i (C : Cx p s m args meth c D y A cc nL own nm) {x : Int64} {v : Int32} (d : decode cc pc = .ok (.l2i, 1)) (hv : x.toInt32 = v) (kk : J p l e R s m args below meth c Q D A nL ws lv kc ks (pc + 1) (.int v :: st)) : J p l e R s m args below meth c Q D A nL ws lv kc ks pc (.long x :: st) := fun H L ls a b f g => lv_l2i C.x C.b d hv (kk H L ls a b f g)
theorem j_i2c (C : Cx p s m args meth c D y A cc nL own nm) {x v : Int32} (d : decode cc pc = .ok (.i2c, 1)) (hv : (x.toUInt32 % 65536).toInt32 = v) (kk : J p l e R s m args below meth c Q D A nL ws lv kc ks (pc + 1) (.int v :: st)) : J p l e R s m args below meth c Q D A nL ws lv kc ks pc (.int x :: st) := fun H L ls a b f g => lv_i2c C.x C.b d hv (kk H L ls a b f g)
theorem j_lshl (C : Cx p s m args meth c D y A cc nL own nm) {x v : Int64} {z : Int32} (d : decode cc pc = .ok (.lshl, 1)) (hv : x <<< (z.toInt64 &&& 63) = v) (kk : J p l e R s m args below meth c Q D A nL ws lv kc ks (pc + 1) (.long v :: st)) : J p l e R s m args below meth c Q D A nL ws lv kc ks pc (.int z :: .long x :: st) := fun H L ls a b f g => lv_lshl C.x C.b d hv (kk H L ls a b f g)
theorem j_lcmp (C : Cx p s m args meth c D y A cc nL own nm) {x z : Int64} {v : Int32} (d : decode cc pc = .ok (.lcmp, 1)) (hv : lg_cmp x z = v) (kk : J p l e R s m args below meth c Q D A nL ws lv kc ks (pc + 1) (.int v :: st)) : J p l e R s m args below meth c Q D A nL ws lv kc ks pc (.long z :: .long x :: st) := by
  subst hv
  exact fun H L ls a b f g => W.lcmp C.x C.b d (kk H L ls a b f g)
theorem j_icmp_eq (C : Cx p s m args meth c D y A cc nL own nm) {x z : Int32} {off : Int} {tgt : Nat} (d : decode cc pc = .ok (.if_icmp .eq off, 3)) (ht : (pc : Int) + off = (tgt : Int)) (kt : x = z → J p l e R s m args below meth c Q D A nL ws lv kc ks tgt st) (kf : ¬ x = z → J p l e R s m args below meth c Q D A nL ws lv kc ks (pc + 3) st) : J p l e R s m args below meth c Q D A nL ws lv kc ks pc (.int z :: .int x :: st) := fun H L ls a b f g => lv_icmp_eq C.x C.b d ht (fun h => kt h H L ls a b f g) (fun h => kf h H L ls a b f g)
theorem j_icmp_eqT (C : Cx p s m args meth c D y A cc nL own nm) {x z : Int32} {off : Int} {tgt : Nat} (d : decode cc pc = .ok (.if_icmp .eq off, 3)) (ht : (pc : Int) + off = (tgt : Int)) (h0 : x = z) (kt : J p l e R s m args below meth c Q D A nL ws lv kc ks tgt st) : J p l e R s m args below meth c Q D A nL ws lv kc ks pc (.int z :: .int x :: st) := j_icmp_eq C d ht (fun _ => kt) (fun h => absurd h0 h)
theorem j_icmp_eqF (C : Cx p s m args meth c D y A cc nL own nm) {x z : Int32} {off : Int} {tgt : Nat} (d : decode cc pc = .ok (.if_icmp .eq off, 3)) (ht : (pc : Int) + off = (tgt : Int)) (h0 : ¬ x = z) (kf : J p l e R s m args below meth c Q D A nL ws lv kc ks (pc + 3) st) : J p l e R s m args below meth c Q D A nL ws lv kc ks pc (.int z :: .int x :: st) := j_icmp_eq C d ht (fun h => absurd h h0) (fun _ => kf)
theorem j_if_eq (C : Cx p s m args meth c D y A cc nL own nm) {x : Int32} {off : Int} {tgt : Nat} (d : decode cc pc = .ok (.ifCond .eq off, 3)) (ht : (pc : Int) + off = (tgt : Int)) (kt : x = 0 → J p l e R s m args below meth c Q D A nL ws lv kc ks tgt st) (kf : ¬ x = 0 → J p l e R s m args below meth c Q D A nL ws lv kc ks (pc + 3) st) : J p l e R s m args below meth c Q D A nL ws lv kc ks pc (.int x :: st) := fun H L ls a b f g => lv_if_eq C.x C.b d ht (fun h => kt h H L ls a b f g) (fun h => kf h H L ls a b f g)
theorem j_if_eqT (C : Cx p s m args meth c D y A cc nL own nm) {x : Int32} {off : Int} {tgt : Nat} (d : decode cc pc = .ok (.ifCond .eq off, 3)) (ht : (pc : Int) + off = (tgt : Int)) (h0 : x = 0) (kt : J p l e R s m args below meth c Q D A nL ws lv kc ks tgt st) : J p l e R s m args below meth c Q D A nL ws lv kc ks pc (.int x :: st) := j_if_eq C d ht (fun _ => kt) (fun h => absurd h0 h)
theorem j_if_eqF (C : Cx p s m args meth c D y A cc nL own nm) {x : Int32} {off : Int} {tgt : Nat} (d : decode cc pc = .ok (.ifCond .eq off, 3)) (ht : (pc : Int) + off = (tgt : Int)) (h0 : ¬ x = 0) (kf : J p l e R s m args below meth c Q D A nL ws lv kc ks (pc + 3) st) : J p l e R s m args below meth c Q D A nL ws lv kc ks pc (.int x :: st) := j_if_eq C d ht (fun h => absurd h h0) (fun _ => kf)
theorem j_icmp_ne (C : Cx p s m args meth c D y A cc nL own nm) {x z : Int32} {off : Int} {tgt : Nat} (d : decode cc pc = .ok (.if_icmp .ne off, 3)) (ht : (pc : Int) + off = (tgt : Int)) (kt : ¬ x = z → J p l e R s m args below meth c Q D A nL ws lv kc ks tgt st) (kf : x = z → J p l e R s m args below meth c Q D A nL ws lv kc ks (pc + 3) st) : J p l e R s m args below meth c Q D A nL ws lv kc ks pc (.int z :: .int x :: st) := fun H L ls a b f g => lv_icmp_ne C.x C.b d ht (fun h => kt h H L ls a b f g) (fun h => kf h H L ls a b f g)
theorem j_icmp_neT (C : Cx p s m args meth c D y A cc nL own nm) {x z : Int32} {off : Int} {tgt : Nat} (d : decode cc pc = .ok (.if_icmp .ne off, 3)) (ht : (pc : Int) + off = (tgt : Int)) (h0 : ¬ x = z) (kt : J p l e R s m args below meth c Q D A nL ws lv kc ks tgt st) : J p l e R s m args below meth c Q D A nL ws lv kc ks pc (.int z :: .int x :: st) := j_icmp_ne C d ht (fun _ => kt) (fun h => absurd h h0)
theorem j_icmp_neF (C : Cx p s m args meth c D y A cc nL own nm) {x z : Int32} {off : Int} {tgt : Nat} (d : decode cc pc = .ok (.if_icmp .ne off, 3)) (ht : (pc : Int) + off = (tgt : Int)) (h0 : x = z) (kf : J p l e R s m args below meth c Q D A nL ws lv kc ks (pc + 3) st) : J p l e R s m args below meth c Q D A nL ws lv kc ks pc (.int z :: .int x :: st) := j_icmp_ne C d ht (fun h => absurd h0 h) (fun _ => kf)
theorem j_if_ne (C : Cx p s m args meth c D y A cc nL own nm) {x : Int32} {off : Int} {tgt : Nat} (d : decode cc pc = .ok (.ifCond .ne off, 3)) (ht : (pc : Int) + off = (tgt : Int)) (kt : ¬ x = 0 → J p l e R s m args below meth c Q D A nL ws lv kc ks tgt st) (kf : x = 0 → J p l e R s m args below meth c Q D A nL ws lv kc ks (pc + 3) st) : J p l e R s m args below meth c Q D A nL ws lv kc ks pc (.int x :: st) := fun H L ls a b f g => lv_if_ne C.x C.b d ht (fun h => kt h H L ls a b f g) (fun h => kf h H L ls a b f g)
theorem j_if_neT (C : Cx p s m args meth c D y A cc nL own nm) {x : Int32} {off : Int} {tgt : Nat} (d : decode cc pc = .ok (.ifCond .ne off, 3)) (ht : (pc : Int) + off = (tgt : Int)) (h0 : ¬ x = 0) (kt : J p l e R s m args below meth c Q D A nL ws lv kc ks tgt st) : J p l e R s m args below meth c Q D A nL ws lv kc ks pc (.int x :: st) := j_if_ne C d ht (fun _ => kt) (fun h => absurd h h0)
theorem j_if_neF (C : Cx p s m args meth c D y A cc nL own nm) {x : Int32} {off : Int} {tgt : Nat} (d : decode cc pc = .ok (.ifCond .ne off, 3)) (ht : (pc : Int) + off = (tgt : Int)) (h0 : x = 0) (kf : J p l e R s m args below meth c Q D A nL ws lv kc ks (pc + 3) st) : J p l e R s m args below meth c Q D A nL ws lv kc ks pc (.int x :: st) := j_if_ne C d ht (fun h => absurd h0 h) (fun _ => kf)
theorem j_icmp_lt (C : Cx p s m args meth c D y A cc nL own nm) {x z : Int32} {off : Int} {tgt : Nat} (d : decode cc pc = .ok (.if_icmp .lt off, 3)) (ht : (pc : Int) + off = (tgt : Int)) (kt : x < z → J p l e R s m args below meth c Q D A nL ws lv kc ks tgt st) (kf : ¬ x < z → J p l e R s m args below meth c Q D A nL ws lv kc ks (pc + 3) st) : J p l e R s m args below meth c Q D A nL ws lv kc ks pc (.int z :: .int x :: st) := fun H L ls a b f g => lv_icmp_lt C.x C.b d ht (fun h => kt h H L ls a b f g) (fun h => kf h H L ls a b f g)
theorem j_icmp_ltT (C : Cx p s m args meth c D y A cc nL own nm) {x z : Int32} {off : Int} {tgt : Nat} (d : decode cc pc = .ok (.if_icmp .lt off, 3)) (ht : (pc : Int) + off = (tgt : Int)) (h0 : x < z) (kt : J p l e R s m args below meth c Q D A nL ws lv kc ks tgt st) : J p l e R s m args below meth c Q D A nL ws lv kc ks pc (.int z :: .int x :: st) := j_icmp_lt C d ht (fun _ => kt) (fun h => absurd h0 h)
theorem j_icmp_ltF (C : Cx p s m args meth c D y A cc nL own nm) {x z : Int32} {off : Int} {tgt : Nat} (d : decode cc pc = .ok (.if_icmp .lt off, 3)) (ht : (pc : Int) + off = (tgt : Int)) (h0 : ¬ x < z) (kf : J p l e R s m args below meth c Q D A nL ws lv kc ks (pc + 3) st) : J p l e R s m args below meth c Q D A nL ws lv kc ks pc (.int z :: .int x :: st) := j_icmp_lt C d ht (fun h => absurd h h0) (fun _ => kf)
theorem j_if_lt (C : Cx p s m args meth c D y A cc nL own nm) {x : Int32} {off : Int} {tgt : Nat} (d : decode cc pc = .ok (.ifCond .lt off, 3)) (ht : (pc : Int) + off = (tgt : Int)) (kt : x < 0 → J p l e R s m args below meth c Q D A nL ws lv kc ks tgt st) (kf : ¬ x < 0 → J p l e R s m args below meth c Q D A nL ws lv kc ks (pc + 3) st) : J p l e R s m args below meth c Q D A nL ws lv kc ks pc (.int x :: st) := fun H L ls a b f g => lv_if_lt C.x C.b d ht (fun h => kt h H L ls a b f g) (fun h => kf h H L ls a b f g)
theorem j_if_ltT (C : Cx p s m args meth c D y A cc nL own nm) {x : Int32} {off : Int} {tgt : Nat} (d : decode cc pc = .ok (.ifCond .lt off, 3)) (ht : (pc : Int) + off = (tgt : Int)) (h0 : x < 0) (kt : J p l e R s m args below meth c Q D A nL ws lv kc ks tgt st) : J p l e R s m args below meth c Q D A nL ws lv kc ks pc (.int x :: st) := j_if_lt C d ht (fun _ => kt) (fun h => absurd h0 h)
theorem j_if_ltF (C : Cx p s m args meth c D y A cc nL own nm) {x : Int32} {off : Int} {tgt : Nat} (d : decode cc pc = .ok (.ifCond .lt off, 3)) (ht : (pc : Int) + off = (tgt : Int)) (h0 : ¬ x < 0) (kf : J p l e R s m args below meth c Q D A nL ws lv kc ks (pc + 3) st) : J p l e R s m args below meth c Q D A nL ws lv kc ks pc (.int x :: st) := j_if_lt C d ht (fun h => absurd h h0) (fun _ => kf)
theorem j_icmp_ge (C : Cx p s m args meth c D y A cc nL own nm) {x z : Int32} {off : Int} {tgt : Nat} (d : decode cc pc = .ok (.if_icmp .ge off, 3)) (ht : (pc : Int) + off = (tgt : Int)) (kt : z ≤ x → J p l e R s m args below meth c Q D A nL ws lv kc ks tgt st) (kf : ¬ z ≤ x → J p l e R s m args below meth c Q D A nL ws lv kc ks (pc + 3) st) : J p l e R s m args below meth c Q D A nL ws lv kc ks pc (.int z :: .int x :: st) := fun H L ls a b f g => lv_icmp_ge C.x C.b d ht (fun h => kt h H L ls a b f g) (fun h => kf h H L ls a b f g)
theorem j_icmp_geT (C : Cx p s m args meth c D y A cc nL own nm) {x z : Int32} {off : Int} {tgt : Nat} (d : decode cc pc = .ok (.if_icmp .ge off, 3)) (ht : (pc : Int) + off = (tgt : Int)) (h0 : z ≤ x) (kt : J p l e R s m args below meth c Q D A nL ws lv kc ks tgt st) : J p l e R s m args below meth c Q D A nL ws lv kc ks pc (.int z :: .int x :: st) := j_icmp_ge C d ht (fun _ => kt) (fun h => absurd h0 h)
theorem j_icmp_geF (C : Cx p s m args meth c D y A cc nL own nm) {x z : Int32} {off : Int} {tgt : Nat} (d : decode cc pc = .ok (.if_icmp .ge off, 3)) (ht : (pc : Int) + off = (tgt : Int)) (h0 : ¬ z ≤ x) (kf : J p l e R s m args below meth c Q D A nL ws lv kc ks (pc + 3) st) : J p l e R s m args below meth c Q D A nL ws lv kc ks pc (.int z :: .int x :: st) := j_icmp_ge C d ht (fun h => absurd h h0) (fun _ => kf)
theorem j_if_ge (C : Cx p s m args meth c D y A cc nL own nm) {x : Int32} {off : Int} {tgt : Nat} (d : decode cc pc = .ok (.ifCond .ge off, 3)) (ht : (pc : Int) + off = (tgt : Int)) (kt : 0 ≤ x → J p l e R s m args below meth c Q D A nL ws lv kc ks tgt st) (kf : ¬ 0 ≤ x → J p l e R s m args below meth c Q D A nL ws lv kc ks (pc + 3) st) : J p l e R s m args below meth c Q D A nL ws lv kc ks pc (.int x :: st) := fun H L ls a b f g => lv_if_ge C.x C.b d ht (fun h => kt h H L ls a b f g) (fun h => kf h H L ls a b f g)
theorem j_if_geT (C : Cx p s m args meth c D y A cc nL own nm) {x : Int32} {off : Int} {tgt : Nat} (d : decode cc pc = .ok (.ifCond .ge off, 3)) (ht : (pc : Int) + off = (tgt : Int)) (h0 : 0 ≤ x) (kt : J p l e R s m args below meth c Q D A nL ws lv kc ks tgt st) : J p l e R s m args below meth c Q D A nL ws lv kc ks pc (.int x :: st) := j_if_ge C d ht (fun _ => kt) (fun h => absurd h0 h)
theorem j_if_geF (C : Cx p s m args meth c D y A cc nL own nm) {x : Int32} {off : Int} {tgt : Nat} (d : decode cc pc = .ok (.ifCond .ge off, 3)) (ht : (pc : Int) + off = (tgt : Int)) (h0 : ¬ 0 ≤ x) (kf : J p l e R s m args below meth c Q D A nL ws lv kc ks (pc + 3) st) : J p l e R s m args below meth c Q D A nL ws lv kc ks pc (.int x :: st) := j_if_ge C d ht (fun h => absurd h h0) (fun _ => kf)
theorem j_icmp_gt (C : Cx p s m args meth c D y A cc nL own nm) {x z : Int32} {off : Int} {tgt : Nat} (d : decode cc pc = .ok (.if_icmp .gt off, 3)) (ht : (pc : Int) + off = (tgt : Int)) (kt : z < x → J p l e R s m args below meth c Q D A nL ws lv kc ks tgt st) (kf : ¬ z < x → J p l e R s m args below meth c Q D A nL ws lv kc ks (pc + 3) st) : J p l e R s m args below meth c Q D A nL ws lv kc ks pc (.int z :: .int x :: st) := fun H L ls a b f g => lv_icmp_gt C.x C.b d ht (fun h => kt h H L ls a b f g) (fun h => kf h H L ls a b f g)
theorem j_icmp_gtT (C : Cx p s m args meth c D y A cc nL own nm) {x z : Int32} {off : Int} {tgt : Nat} (d : decode cc pc = .ok (.if_icmp .gt off, 3)) (ht : (pc : Int) + off = (tgt : Int)) (h0 : z < x) (kt : J p l e R s m args below meth c Q D A nL ws lv kc ks tgt st) : J p l e R s m args below meth c Q D A nL ws lv kc ks pc (.int z :: .int x :: st) := j_icmp_gt C d ht (fun _ => kt) (fun h => absurd h0 h)
theorem j_icmp_gtF (C : Cx p s m args meth c D y A cc nL own nm) {x z : Int32} {off : Int} {tgt : Nat} (d : decode cc pc = .ok (.if_icmp .gt off, 3)) (ht : (pc : Int) + off = (tgt : Int)) (h0 : ¬ z < x) (kf : J p l e R s m args below meth c Q D A nL ws lv kc ks (pc + 3) st) : J p l e R s m args below meth c Q D A nL ws lv kc ks pc (.int z :: .int x :: st) := j_icmp_gt C d ht (fun h => absurd h h0) (fun _ => kf)
theorem j_if_gt (C : Cx p s m args meth c D y A cc nL own nm) {x : Int32} {off : Int} {tgt : Nat} (d : decode cc pc = .ok (.ifCond .gt off, 3)) (ht : (pc : Int) + off = (tgt : Int)) (kt : 0 < x → J p l e R s m args below meth c Q D A nL ws lv kc ks tgt st) (kf : ¬ 0 < x → J p l e R s m args below meth c Q D A nL ws lv kc ks (pc + 3) st) : J p l e R s m args below meth c Q D A nL ws lv kc ks pc (.int x :: st) := fun H L ls a b f g => lv_if_gt C.x C.b d ht (fun h => kt h H L ls a b f g) (fun h => kf h H L ls a b f g)
theorem j_if_gtT (C : Cx p s m args meth c D y A cc nL own nm) {x : Int32} {off : Int} {tgt : Nat} (d : decode cc pc = .ok (.ifCond .gt off, 3)) (ht : (pc : Int) + off = (tgt : Int)) (h0 : 0 < x) (kt : J p l e R s m args below meth c Q D A nL ws lv kc ks tgt st) : J p l e R s m args below meth c Q D A nL ws lv kc ks pc (.int x :: st) := j_if_gt C d ht (fun _ => kt) (fun h => absurd h0 h)
theorem j_if_gtF (C : Cx p s m args meth c D y A cc nL own nm) {x : Int32} {off : Int} {tgt : Nat} (d : decode cc pc = .ok (.ifCond .gt off, 3)) (ht : (pc : Int) + off = (tgt : Int)) (h0 : ¬ 0 < x) (kf : J p l e R s m args below meth c Q D A nL ws lv kc ks (pc + 3) st) : J p l e R s m args below meth c Q D A nL ws lv kc ks pc (.int x :: st) := j_if_gt C d ht (fun h => absurd h h0) (fun _ => kf)
theorem j_icmp_le (C : Cx p s m args meth c D y A cc nL own nm) {x z : Int32} {off : Int} {tgt : Nat} (d : decode cc pc = .ok (.if_icmp .le off, 3)) (ht : (pc : Int) + off = (tgt : Int)) (kt : x ≤ z → J p l e R s m args below meth c Q D A nL ws lv kc ks tgt st) (kf : ¬ x ≤ z → J p l e R s m args below meth c Q D A nL ws lv kc ks (pc + 3) st) : J p l e R s m args below meth c Q D A nL ws lv kc ks pc (.int z :: .int x :: st) := fun H L ls a b f g => lv_icmp_le C.x C.b d ht (fun h => kt h H L ls a b f g) (fun h => kf h H L ls a b f g)
theorem j_icmp_leT (C : Cx p s m args meth c D y A cc nL own nm) {x z : Int32} {off : Int} {tgt : Nat} (d : decode cc pc = .ok (.if_icmp .le off, 3)) (ht : (pc : Int) + off = (tgt : Int)) (h0 : x ≤ z) (kt : J p l e R s m args below meth c Q D A nL ws lv kc ks tgt st) : J p l e R s m args below meth c Q D A nL ws lv kc ks pc (.int z :: .int x :: st) := j_icmp_le C d ht (fun _ => kt) (fun h => absurd h0 h)
theorem j_icmp_leF (C : Cx p s m args meth c D y A cc nL own nm) {x z : Int32} {off : Int} {tgt : Nat} (d : decode cc pc = .ok (.if_icmp .le off, 3)) (ht : (pc : Int) + off = (tgt : Int)) (h0 : ¬ x ≤ z) (kf : J p l e R s m args below meth c Q D A nL ws lv kc ks (pc + 3) st) : J p l e R s m args below meth c Q D A nL ws lv kc ks pc (.int z :: .int x :: st) := j_icmp_le C d ht (fun h => absurd h h0) (fun _ => kf)
theorem j_if_le (C : Cx p s m args meth c D y A cc nL own nm) {x : Int32} {off : Int} {tgt : Nat} (d : decode cc pc = .ok (.ifCond .le off, 3)) (ht : (pc : Int) + off = (tgt : Int)) (kt : x ≤ 0 → J p l e R s m args below meth c Q D A nL ws lv kc ks tgt st) (kf : ¬ x ≤ 0 → J p l e R s m args below meth c Q D A nL ws lv kc ks (pc + 3) st) : J p l e R s m args below meth c Q D A nL ws lv kc ks pc (.int x :: st) := fun H L ls a b f g => lv_if_le C.x C.b d ht (fun h => kt h H L ls a b f g) (fun h => kf h H L ls a b f g)
theorem j_if_leT (C : Cx p s m args meth c D y A cc nL own nm) {x : Int32} {off : Int} {tgt : Nat} (d : decode cc pc = .ok (.ifCond .le off, 3)) (ht : (pc : Int) + off = (tgt : Int)) (h0 : x ≤ 0) (kt : J p l e R s m args below meth c Q D A nL ws lv kc ks tgt st) : J p l e R s m args below meth c Q D A nL ws lv kc ks pc (.int x :: st) := j_if_le C d ht (fun _ => kt) (fun h => absurd h0 h)
theorem j_if_leF (C : Cx p s m args meth c D y A cc nL own nm) {x : Int32} {off : Int} {tgt : Nat} (d : decode cc pc = .ok (.ifCond .le off, 3)) (ht : (pc : Int) + off = (tgt : Int)) (h0 : ¬ x ≤ 0) (kf : J p l e R s m args below meth c Q D A nL ws lv kc ks (pc + 3) st) : J p l e R s m args below meth c Q D A nL ws lv kc ks pc (.int x :: st) := j_if_le C d ht (fun h => absurd h h0) (fun _ => kf)
def GF (own : String) (idx ci k : Nat) : Prop := ∃ (Cn : String) (T : u_T) (N : Nat), classes[ci]? = some (Cn, T, N) ∧ (∀ w ∈ u_ws Cn T N, w ∈ TB) ∧ k < N ∧ Cond.fieldLink own idx (T k).1 (T k).2.1 (T k).2.2.1 ∈ TB
def PF (own : String) (idx ci k : Nat) (ty : FieldType) (fin : Bool) : Prop := ∃ (Cn : String) (T : u_T) (N : Nat) (ty0 : Nat → FieldType), classes[ci]? = some (Cn, T, N) ∧ (∀ w ∈ u_ws Cn T N, w ∈ TB) ∧ k < N ∧ Cond.fieldLink own idx (T k).1 (T k).2.1 (T k).2.2.1 ∈ TB ∧ (∀ k, k < N → parseFieldDescriptor (T k).2.2.1 = some (ty0 k)) ∧ (∀ a, a < N → ∀ b, b < N → a ≠ b → (T a).2.1 ≠ (T b).2.1) ∧ (T k).2.2.2 = fin ∧ parseFieldDescriptor (T k).2.2.1 = some ty ∧ (fin = true → (T k).1 = own)
theorem j_get (C : Cx p s m args meth c D y A cc nL own nm) {idx ci k a : Nat} (G : GF own idx ci k) (q0 : Nat) {fs : List Value} (he : ws[q0]? = some (a, .inr (ci, fs))) {v : Value} (hv : fs[k]? = some v) (d : decode cc pc = .ok (.getfield idx, 3)) (kk : J p l e R s m args below meth c Q D A nL ws lv kc ks (pc + 3) (v :: st)) : J p l e R s m args below meth c Q D A nL ws lv kc ks pc (.ref a :: st) := by
  obtain ⟨Cn, T, N, h1, h2, h3, h4⟩ := G
  exact fun H L ls hP hD hS hl => va_get C.x C.b C.t h2 C.ow C.K hP q0 he h1 k h3 (C.t _ h4) (fun _ h9 => h9) hv d (kk H L ls hP hD hS hl)
theorem j_put (C : Cx p s m args meth c D y A cc nL own nm) {idx ci k a : Nat} {ty : FieldType} (G : PF own idx ci k ty false) (q0 : Nat) {fs : List Value} {v : Value} {ws' : va_W} (he : ws[q0]? = some (a, .inr (ci, fs))) (hn : narrow ty v = v) (hf : fits ty v = true) (hk : k < fs.length) (hw : ws.set q0 (a, .inr (ci, fs.set k v)) = ws') (d : decode cc pc = .ok (.putfield idx, 3)) (kk : J p l e R s m args below meth c Q D A nL ws' lv kc ks (pc + 3) st) : J p l e R s m args below meth c Q D A nL ws lv kc ks pc (v :: .ref a :: st) := by
  obtain ⟨Cn, T, N, ty0, h1, h2, h3, h4, h5, h6, h7, h8, h9⟩ := G
  subst hw
  exact fun H L ls hP hD hS hl => va_put C.x C.b C.t h2 ty0 h5 h6 C.ow C.K hP hD hS q0 he h1 k h3 (C.t _ h4) (fun _ h9 => h9) h7 h8 hn hf hk d (fun H L hP hD hS => kk H L ls hP hD hS hl)
theorem j_putF {own : String} (C : Cx p s m args meth c D y A cc nL own "<init>") {idx ci k a : Nat} {ty : FieldType} (G : PF own idx ci k ty true) (q0 : Nat) {fs : List Value} {v : Value} {ws' : va_W} (he : ws[q0]? = some (a, .inr (ci, fs))) (hn : narrow ty v = v) (hf : fits ty v = true) (hk : k < fs.length) (hw : ws.set q0 (a, .inr (ci, fs.set k v)) = ws') (d : decode cc pc = .ok (.putfield idx, 3)) (kk : J p l e R s m args below meth c Q D A nL ws' lv kc ks (pc + 3) st) : J p l e R s m args below meth c Q D A nL ws lv kc ks pc (v :: .ref a :: st) := by
  obtain ⟨Cn, T, N, ty0, h1, h2, h3, h4, h5, h6, h7, h8, h9⟩ := G
  subst hw
  exact fun H L ls hP hD hS hl => va_putF C.x C.b C.t h2 ty0 h5 h6 C.ow C.K hP hD hS q0 he h1 k h3 (C.t _ h4) (fun _ h9 => h9) h7 C.nn (h9 rfl) h8 hn hf hk d (fun H L hP hD hS => kk H L ls hP hD hS hl)
theorem j_iald (C : Cx p s m args meth c D y A cc nL own nm) (q0 : Nat) {a n : Nat} {f : Nat → Int32} (ha : ws[q0]? = some (a, .inl (y 0, n, .inl f))) {i : Int32} {v : Int32} (hi : vp_in i n) (hv : f i.toNatClampNeg = v) (d : decode cc pc = .ok (.iaload, 1)) (kk : J p l e R s m args below meth c Q D A nL ws lv kc ks (pc + 1) (.int v :: st)) : J p l e R s m args below meth c Q D A nL ws lv kc ks pc (.int i :: .ref a :: st) := by
  subst hv
  exact fun H L ls hP hD hS hl => va_iald C.x C.b C.K hP q0 0 ha rfl hi d (kk H L ls hP hD hS hl)
theorem j_zald (C : Cx p s m args meth c D y A cc nL own nm) (q0 : Nat) {a n : Nat} {f : Nat → Int32} (ha : ws[q0]? = some (a, .inl (y 2, n, .inl f))) {i : Int32} {v : Int32} (hi : vp_in i n) (hv : f i.toNatClampNeg = v) (d : decode cc pc = .ok (.baload, 1)) (kk : J p l e R s m args below meth c Q D A nL ws lv kc ks (pc + 1) (.int v :: st)) : J p l e R s m args below meth c Q D A nL ws lv kc ks pc (.int i :: .ref a :: st) := by
  subst hv
  exact fun H L ls hP hD hS hl => va_zald C.x C.b C.K hP q0 2 ha rfl hi d (kk H L ls hP hD hS hl)
theorem j_cald (C : Cx p s m args meth c D y A cc nL own nm) (q0 : Nat) {a n : Nat} {f : Nat → Int32} (ha : ws[q0]? = some (a, .inl (y 3, n, .inl f))) {i : Int32} {v : Int32} (hi : vp_in i n) (hv : f i.toNatClampNeg = v) (d : decode cc pc = .ok (.caload, 1)) (kk : J p l e R s m args below meth c Q D A nL ws lv kc ks (pc + 1) (.int v :: st)) : J p l e R s m args below meth c Q D A nL ws lv kc ks pc (.int i :: .ref a :: st) := by
  subst hv
  exact fun H L ls hP hD hS hl => va_cald C.x C.b C.K hP q0 3 ha rfl hi d (kk H L ls hP hD hS hl)
theorem j_lald (C : Cx p s m args meth c D y A cc nL own nm) (q0 : Nat) {a n : Nat} {f : Nat → Int64} (ha : ws[q0]? = some (a, .inl (y 1, n, .inr (.inl f)))) {i : Int32} {v : Int64} (hi : vp_in i n) (hv : f i.toNatClampNeg = v) (d : decode cc pc = .ok (.laload, 1)) (kk : J p l e R s m args below meth c Q D A nL ws lv kc ks (pc + 1) (.long v :: st)) : J p l e R s m args below meth c Q D A nL ws lv kc ks pc (.int i :: .ref a :: st) := by
  subst hv
  exact fun H L ls hP hD hS hl => va_lald C.x C.b C.K hP q0 1 ha rfl hi d (kk H L ls hP hD hS hl)
theorem j_iast (C : Cx p s m args meth c D y A cc nL own nm) (q0 : Nat) {a n : Nat} {f : Nat → Int32} (ha : ws[q0]? = some (a, .inl (y 0, n, .inl f))) {i : Int32} {v : Int32} {ws' : va_W} (hi : vp_in i n) (hw : ws.set q0 (a, .inl (y 0, n, .inl (upd f i.toNatClampNeg v))) = ws') (d : decode cc pc = .ok (.iastore, 1)) (kk : J p l e R s m args below meth c Q D A nL ws' lv kc ks (pc + 1) st) : J p l e R s m args below meth c Q D A nL ws lv kc ks pc (.int v :: .int i :: .ref a :: st) := by
  subst hw
  exact fun H L ls hP hD hS hl => va_iast C.x C.b C.K hP hD hS q0 0 ha rfl hi d (fun H L hP hD hS => kk H L ls hP hD hS hl)
theorem j_last (C : Cx p s m args meth c D y A cc nL own nm) (q0 : Nat) {a n : Nat} {f : Nat → Int64} (ha : ws[q0]? = some (a, .inl (y 1, n, .inr (.inl f)))) {i : Int32} {v : Int64} {ws' : va_W} (hi : vp_in i n) (hw : ws.set q0 (a, .inl (y 1, n, .inr (.inl (vp_updL f i.toNatClampNeg v)))) = ws') (d : decode cc pc = .ok (.lastore, 1)) (kk : J p l e R s m args below meth c Q D A nL ws' lv kc ks (pc + 1) st) : J p l e R s m args below meth c Q D A nL ws lv kc ks pc (.long v :: .int i :: .ref a :: st) := by
  subst hw
  exact fun H L ls hP hD hS hl => va_last C.x C.b C.K hP hD hS q0 1 ha rfl hi d (fun H L hP hD hS => kk H L ls hP hD hS hl)
theorem j_zast (C : Cx p s m args meth c D y A cc nL own nm) (q0 : Nat) {a n : Nat} {f : Nat → Int32} (ha : ws[q0]? = some (a, .inl (y 2, n, .inl f))) {i v w : Int32} {ws' : va_W} (hi : vp_in i n) (hn : vp_nar .boolean v = w) (hw : ws.set q0 (a, .inl (y 2, n, .inl (upd f i.toNatClampNeg w))) = ws') (d : decode cc pc = .ok (.bastore, 1)) (kk : J p l e R s m args below meth c Q D A nL ws' lv kc ks (pc + 1) st) : J p l e R s m args below meth c Q D A nL ws lv kc ks pc (.int v :: .int i :: .ref a :: st) := by
  subst hn
  subst hw
  exact fun H L ls hP hD hS hl => va_zast C.x C.b C.K hP hD hS q0 2 ha rfl hi d (fun H L hP hD hS => kk H L ls hP hD hS hl)
theorem j_cast (C : Cx p s m args meth c D y A cc nL own nm) (q0 : Nat) {a n : Nat} {f : Nat → Int32} (ha : ws[q0]? = some (a, .inl (y 3, n, .inl f))) {i v w : Int32} {ws' : va_W} (hi : vp_in i n) (hn : vp_nar .char v = w) (hw : ws.set q0 (a, .inl (y 3, n, .inl (upd f i.toNatClampNeg w))) = ws') (d : decode cc pc = .ok (.castore, 1)) (kk : J p l e R s m args below meth c Q D A nL ws' lv kc ks (pc + 1) st) : J p l e R s m args below meth c Q D A nL ws lv kc ks pc (.int v :: .int i :: .ref a :: st) := by
  subst hn
  subst hw
  exact fun H L ls hP hD hS hl => va_cast C.x C.b C.K hP hD hS q0 3 ha rfl hi d (fun H L hP hD hS => kk H L ls hP hD hS hl)
theorem j_alen (C : Cx p s m args meth c D y A cc nL own nm) (q0 t0 : Nat) {a : Nat} {cA : ClassId} {x : vp_A} (ha : ws[q0]? = some (a, .inl (cA, x))) {ty : FieldType} (ht : (TY y)[t0]? = some (cA, ty)) {v : Int32} (hv : Int32.ofNat x.1 = v) (d : decode cc pc = .ok (.arraylength, 1)) (kk : J p l e R s m args below meth c Q D A nL ws lv kc ks (pc + 1) (.int v :: st)) : J p l e R s m args below meth c Q D A nL ws lv kc ks pc (.ref a :: st) := fun H L ls hP hD hS hl => va_alen C.x C.b C.K hP q0 t0 ha ht hv d (kk H L ls hP hD hS hl)
theorem j_aald (C : Cx p s m args meth c D y A cc nL own nm) (q0 : Nat) {a n : Nat} {f : Nat → Option Nat} (ha : ws[q0]? = some (a, .inl (y 4, n, .inr (.inr (.inr (.inr f)))))) {i : Int32} {v : Nat} (hi : vp_in i n) (hv : f i.toNatClampNeg = some v) (d : decode cc pc = .ok (.aaload, 1)) (kk : J p l e R s m args below meth c Q D A nL ws lv kc ks (pc + 1) (.ref v :: st)) : J p l e R s m args below meth c Q D A nL ws lv kc ks pc (.int i :: .ref a :: st) := fun H L ls hP hD hS hl => va_aldq C.x C.b C.K hP q0 4 ha rfl hi d (by rw [hv]; exact kk H L ls hP hD hS hl)
theorem j_aast (C : Cx p s m args meth c D y A cc nL own nm) (q0 qk : Nat) {a n v : Nat} {vs : List Value} {f : Nat → Option Nat} (ha : ws[q0]? = some (a, .inl (y 4, n, .inr (.inr (.inr (.inr f)))))) (hv : ws[qk]? = some (v, .inr (7, vs))) {i : Int32} {ws' : va_W} (hi : vp_in i n) (hw : ws.set q0 (a, .inl (y 4, n, .inr (.inr (.inr (.inr (va_up f i.toNatClampNeg (some v))))))) = ws') (d : decode cc pc = .ok (.aastore, 1)) (kk : J p l e R s m args below meth c Q D A nL ws' lv kc ks (pc + 1) st) : J p l e R s m args below meth c Q D A nL ws lv kc ks pc (.ref v :: .int i :: .ref a :: st) := by
  subst hw
  exact fun H L ls hP hD hS hl => va_astq C.x C.b C.K hP hD hS q0 4 qk 7 (r := ("NineBoards$State", cf_State, 10)) ha rfl hv rfl hi d (fun H L hP hD hS => kk H L ls hP hD hS hl)
theorem ra_one {s : State} {a b : ClassId} {ty : FieldType} (hp : va_RA s a ty = (s.vm.findClass ("[" ++ ty.toString) = some a)) (hq : va_RA s b ty = (s.vm.findClass ("[" ++ ty.toString) = some b)) (h1 : va_RA s a ty) (h2 : va_RA s b ty) : b = a := by
  rw [hp] at h1
  rw [hq] at h2
  exact Option.some.inj (h2.symm.trans h1)
theorem j_newI (C : Cx p s m args meth c D y A cc nL own nm) (harr : Cond.arrayClass .int ∈ TB) {n : Int32} {N : Nat} (hn : ¬ n < 0) (hN : n.toNatClampNeg = N) (hb : N * componentBytes .int ≤ 536870912) (h1 : kc + 1 ≤ R.cells) (h2 : ks + N ≤ R.slots) (d : decode cc pc = .ok (.newarray .int, 2)) (kk : ∀ q : Nat, J p l e R s m args below meth c Q D A nL (ws ++ [(q, .inl (y 0, N, .inl (fun _ => 0)))]) lv (kc + 1) (ks + N) (pc + 2) (.ref q :: st)) : J p l e R s m args below meth c Q D A nL ws lv kc ks pc (.int n :: st) := fun H L ls hP hD hS hl => va_newa (a0 := (N, .inl (fun _ => 0))) C.x C.b (atype := .int) (ty := .int) (C.t _ harr) rfl C.K hP hD hS C.ha (fun cA => rfl) hn hN hb h1 h2 d (fun q cA H1 hK1 hP1 hD1 hS1 => by
    have e : cA = y 0 := ra_one rfl rfl (C.K.2 0 _ rfl).2 (hK1.2 6 _ rfl).2
    subst e
    exact kk q H1 L ls hP1 hD1 hS1 hl)
theorem j_newJ (C : Cx p s m args meth c D y A cc nL own nm) (harr : Cond.arrayClass .long ∈ TB) {n : Int32} {N : Nat} (hn : ¬ n < 0) (hN : n.toNatClampNeg = N) (hb : N * componentBytes .long ≤ 536870912) (h1 : kc + 1 ≤ R.cells) (h2 : ks + N ≤ R.slots) (d : decode cc pc = .ok (.newarray .long, 2)) (kk : ∀ q : Nat, J p l e R s m args below meth c Q D A nL (ws ++ [(q, .inl (y 1, N, .inr (.inl (fun _ => 0))))]) lv (kc + 1) (ks + N) (pc + 2) (.ref q :: st)) : J p l e R s m args below meth c Q D A nL ws lv kc ks pc (.int n :: st) := fun H L ls hP hD hS hl => va_newa (a0 := (N, .inr (.inl (fun _ => 0)))) C.x C.b (atype := .long) (ty := .long) (C.t _ harr) rfl C.K hP hD hS C.ha (fun cA => rfl) hn hN hb h1 h2 d (fun q cA H1 hK1 hP1 hD1 hS1 => by
    have e : cA = y 1 := ra_one rfl rfl (C.K.2 1 _ rfl).2 (hK1.2 6 _ rfl).2
    subst e
    exact kk q H1 L ls hP1 hD1 hS1 hl)
theorem j_newZ (C : Cx p s m args meth c D y A cc nL own nm) (harr : Cond.arrayClass .boolean ∈ TB) {n : Int32} {N : Nat} (hn : ¬ n < 0) (hN : n.toNatClampNeg = N) (hb : N * componentBytes .boolean ≤ 536870912) (h1 : kc + 1 ≤ R.cells) (h2 : ks + N ≤ R.slots) (d : decode cc pc = .ok (.newarray .boolean, 2)) (kk : ∀ q : Nat, J p l e R s m args below meth c Q D A nL (ws ++ [(q, .inl (y 2, N, .inl (fun _ => 0)))]) lv (kc + 1) (ks + N) (pc + 2) (.ref q :: st)) : J p l e R s m args below meth c Q D A nL ws lv kc ks pc (.int n :: st) := fun H L ls hP hD hS hl => va_newa (a0 := (N, .inl (fun _ => 0))) C.x C.b (atype := .boolean) (ty := .boolean) (C.t _ harr) rfl C.K hP hD hS C.ha (fun cA => rfl) hn hN hb h1 h2 d (fun q cA H1 hK1 hP1 hD1 hS1 => by
    have e : cA = y 2 := ra_one rfl rfl (C.K.2 2 _ rfl).2 (hK1.2 6 _ rfl).2
    subst e
    exact kk q H1 L ls hP1 hD1 hS1 hl)
theorem j_newC (C : Cx p s m args meth c D y A cc nL own nm) (harr : Cond.arrayClass .char ∈ TB) {n : Int32} {N : Nat} (hn : ¬ n < 0) (hN : n.toNatClampNeg = N) (hb : N * componentBytes .char ≤ 536870912) (h1 : kc + 1 ≤ R.cells) (h2 : ks + N ≤ R.slots) (d : decode cc pc = .ok (.newarray .char, 2)) (kk : ∀ q : Nat, J p l e R s m args below meth c Q D A nL (ws ++ [(q, .inl (y 3, N, .inl (fun _ => 0)))]) lv (kc + 1) (ks + N) (pc + 2) (.ref q :: st)) : J p l e R s m args below meth c Q D A nL ws lv kc ks pc (.int n :: st) := fun H L ls hP hD hS hl => va_newa (a0 := (N, .inl (fun _ => 0))) C.x C.b (atype := .char) (ty := .char) (C.t _ harr) rfl C.K hP hD hS C.ha (fun cA => rfl) hn hN hb h1 h2 d (fun q cA H1 hK1 hP1 hD1 hS1 => by
    have e : cA = y 3 := ra_one rfl rfl (C.K.2 3 _ rfl).2 (hK1.2 6 _ rfl).2
    subst e
    exact kk q H1 L ls hP1 hD1 hS1 hl)
theorem j_newS (C : Cx p s m args meth c D y A cc nL own nm) {idx : Nat} (hl0 : Cond.classLink own idx "NineBoards$State" ∈ TB) {n : Int32} {N : Nat} (hn : ¬ n < 0) (hN : n.toNatClampNeg = N) (hb : N * 4 ≤ 536870912) (h1 : kc + 1 ≤ R.cells) (h2 : ks + N ≤ R.slots) (d : decode cc pc = .ok (.anewarray idx, 3)) (kk : ∀ q : Nat, J p l e R s m args below meth c Q D A nL (ws ++ [(q, .inl (y 4, N, .inr (.inr (.inr (.inr (fun _ => none))))))]) lv (kc + 1) (ks + N) (pc + 3) (.ref q :: st)) : J p l e R s m args below meth c Q D A nL ws lv kc ks pc (.int n :: st) := fun H L ls hP hD hS hl => va_newq C.x C.b C.ow (C.t _ hl0) C.N.1.1 C.K hP hD hS C.ha hn hN hb h1 h2 d (fun q cA H1 hK1 hP1 hD1 hS1 => by
    have e : cA = y 4 := by
      obtain ⟨_, _, _, _, _, g1⟩ := (C.K.2 4 _ rfl).2
      obtain ⟨_, _, _, _, _, g2⟩ := (hK1.2 6 _ rfl).2
      exact Option.some.inj (g2.symm.trans g1)
    subst e
    exact kk q H1 L ls hP1 hD1 hS1 hl)
def NF (own : String) (idx ci N : Nat) (fs : List Value) : Prop := ∃ (Cn : String) (T : u_T) (ty0 : Nat → FieldType), classes[ci]? = some (Cn, T, N) ∧ (∀ w ∈ u_ws Cn T N, w ∈ TB) ∧ (∀ k, k < N → parseFieldDescriptor (T k).2.2.1 = some (ty0 k)) ∧ Cond.classLink own idx Cn ∈ TB ∧ Cond.instantiable Cn N ∈ TB ∧ Cond.initialized Cn ∈ TB ∧ ∀ j, j < N → defaultValue (ty0 j) = vp_V fs j
theorem j_new (C : Cx p s m args meth c D y A cc nL own nm) {idx ci N : Nat} {fs : List Value} (G : NF own idx ci N fs) (h1 : kc + 1 ≤ R.cells) (h2 : ks + N ≤ R.slots) (d : decode cc pc = .ok (.new idx, 3)) (kk : ∀ q : Nat, J p l e R s m args below meth c Q D A nL (ws ++ [(q, .inr (ci, fs))]) lv (kc + 1) (ks + N) (pc + 3) (.ref q :: st)) : J p l e R s m args below meth c Q D A nL ws lv kc ks pc st := by
  obtain ⟨Cn, T, ty0, g1, g2, g3, g4, g5, g6, g7⟩ := G
  exact fun H L ls hP hD hS hl => va_new C.x C.b C.t g2 ty0 g3 C.ow (C.t _ g4) (C.t _ g5) (C.t _ g6) C.K hP hD hS C.ha g1 g7 h1 h2 d (fun q H1 hP1 hD1 hS1 => kk q H1 L ls hP1 hD1 hS1 hl)
theorem j_objInit (C : Cx p s m args meth c D y A cc nL own nm) {idx a : Nat} (hw : Cond.methodLink own idx objectInit ∈ TB) (hi : Cond.instanceMethod objectInit ∈ TB) (hc : Cond.code objectInit ⟨#[0xb1]⟩ 1 none ∈ TB) (hr : 1 ≤ R.frames) (hs : (st.map fun v => v.category).sum + 12 ≤ R.locals) (d : decode cc pc = .ok (.invokespecial idx, 3)) (kk : J p l e R s m args below meth c Q D A nL ws lv kc ks (pc + 3) st) : J p l e R s m args below meth c Q D A nL ws lv kc ks pc (.ref a :: st) := fun H L ls hP hD hS hl => W.objInit C.x C.b C.ow (C.t _ hw) (C.t _ hi) (C.t _ hc) rfl (by rw [C.ml]; exact hl.1) rfl d hr (by show 2 * 0 + _ + 12 ≤ _; omega) (W.eq (g2 := F0 m (pc + 3) ls st) rfl (kk H L ls hP hD hS hl))
theorem j_mmax (C : Cx p s m args meth c D y A cc nL own nm) {idx : Nat} (hw : Cond.methodLink own idx Lib.Math.max.name ∈ TB) (h2 : Cond.static Lib.Math.max.name ∈ TB) (h3 : Cond.initialized "java/lang/Math" ∈ TB) (h4 : Cond.code Lib.Math.max.name Lib.Math.max.code 2 (some .int) ∈ TB) {x z v : Int32} (hv : (if x < z then z else x) = v) (hr : 1 ≤ R.frames) (hs : (st.map fun v => v.category).sum + 13 ≤ R.locals) (hc : kc ≤ R.cells) (hk : ks ≤ R.slots) (d : decode cc pc = .ok (.invokestatic idx, 3)) (kk : J p l e R s m args below meth c Q D A nL ws lv kc ks (pc + 3) (.int v :: st)) : J p l e R s m args below meth c Q D A nL ws lv kc ks pc (.int z :: .int x :: st) := by
  subst hv
  exact fun H L ls hP hD hS hl => va_mmax C.x C.b (C.ml.trans hl.1.symm) C.ow (C.t _ hw) (C.t _ h2) (C.t _ h3) (C.t _ h4) hr hs hc hk d (kk H L ls hP hD hS hl)
theorem j_mmin (C : Cx p s m args meth c D y A cc nL own nm) {idx : Nat} (hw : Cond.methodLink own idx Lib.Math.min.name ∈ TB) (h2 : Cond.static Lib.Math.min.name ∈ TB) (h3 : Cond.initialized "java/lang/Math" ∈ TB) (h4 : Cond.code Lib.Math.min.name Lib.Math.min.code 2 (some .int) ∈ TB) {x z v : Int32} (hv : (if z < x then z else x) = v) (hr : 1 ≤ R.frames) (hs : (st.map fun v => v.category).sum + 13 ≤ R.locals) (hc : kc ≤ R.cells) (hk : ks ≤ R.slots) (d : decode cc pc = .ok (.invokestatic idx, 3)) (kk : J p l e R s m args below meth c Q D A nL ws lv kc ks (pc + 3) (.int v :: st)) : J p l e R s m args below meth c Q D A nL ws lv kc ks pc (.int z :: .int x :: st) := by
  subst hv
  exact fun H L ls hP hD hS hl => va_mmin C.x C.b (C.ml.trans hl.1.symm) C.ow (C.t _ hw) (C.t _ h2) (C.t _ h3) (C.t _ h4) hr hs hc hk d (kk H L ls hP hD hS hl)
theorem j_copyi (C : Cx p s m args meth c D y A cc nL own nm) {idx : Nat} (hw : Cond.methodLink own idx arraycopyName ∈ TB) (g2 : Cond.native arraycopyName ∈ TB) (g3 : Cond.static arraycopyName ∈ TB) (g4 : Cond.initialized "java/lang/System" ∈ TB) (q0 q1 : Nat) {a0 a n0 n1 : Nat} {f g : Nat → Int32} (ha0 : ws[q0]? = some (a0, .inl (y 0, n0, .inl f))) (ha1 : ws[q1]? = some (a, .inl (y 0, n1, .inl g))) {sp dp n : Int32} {ws' : va_W} (h1 : ¬ sp < 0) (h2 : ¬ dp < 0) (h3 : ¬ n < 0) (h4 : sp.toNatClampNeg + n.toNatClampNeg ≤ n0) (h5 : dp.toNatClampNeg + n.toNatClampNeg ≤ n1) (hr : 1 ≤ R.frames) (hs : (st.map fun v => v.category).sum + (nativeFrameWords "java/lang/System" "arraycopy" 5 + 11) ≤ R.locals) (hws : ws.set q1 (a, .inl (y 0, n1, .inl (va_cpy f g sp.toNatClampNeg dp.toNatClampNeg n.toNatClampNeg))) = ws') (d : decode cc pc = .ok (.invokestatic idx, 3)) (kk : J p l e R s m args below meth c Q D A nL ws' lv kc ks (pc + 3) st) : J p l e R s m args below meth c Q D A nL ws lv kc ks pc (.int n :: .int dp :: .ref a :: .int sp :: .ref a0 :: st) := by
  subst hws
  exact fun H L ls hP hD hS hl => va_copyi C.x C.b (C.ml.trans hl.1.symm) C.ow (C.t _ hw) (C.t _ g2) (C.t _ g3) (C.t _ g4) C.K hP hD hS q0 q1 0 0 ha0 ha1 rfl rfl rfl h1 h2 h3 h4 h5 (fun _ _ => rfl) hr hs d (fun H L hP hD hS => kk H L ls hP hD hS hl)
theorem j_copyl (C : Cx p s m args meth c D y A cc nL own nm) {idx : Nat} (hw : Cond.methodLink own idx arraycopyName ∈ TB) (g2 : Cond.native arraycopyName ∈ TB) (g3 : Cond.static arraycopyName ∈ TB) (g4 : Cond.initialized "java/lang/System" ∈ TB) (q0 q1 : Nat) {a0 a n0 n1 : Nat} {f g : Nat → Int64} (ha0 : ws[q0]? = some (a0, .inl (y 1, n0, .inr (.inl f)))) (ha1 : ws[q1]? = some (a, .inl (y 1, n1, .inr (.inl g)))) {sp dp n : Int32} {ws' : va_W} (h1 : ¬ sp < 0) (h2 : ¬ dp < 0) (h3 : ¬ n < 0) (h4 : sp.toNatClampNeg + n.toNatClampNeg ≤ n0) (h5 : dp.toNatClampNeg + n.toNatClampNeg ≤ n1) (hr : 1 ≤ R.frames) (hs : (st.map fun v => v.category).sum + (nativeFrameWords "java/lang/System" "arraycopy" 5 + 11) ≤ R.locals) (hws : ws.set q1 (a, .inl (y 1, n1, .inr (.inl (va_cpy f g sp.toNatClampNeg dp.toNatClampNeg n.toNatClampNeg)))) = ws') (d : decode cc pc = .ok (.invokestatic idx, 3)) (kk : J p l e R s m args below meth c Q D A nL ws' lv kc ks (pc + 3) st) : J p l e R s m args below meth c Q D A nL ws lv kc ks pc (.int n :: .int dp :: .ref a :: .int sp :: .ref a0 :: st) := by
  subst hws
  exact fun H L ls hP hD hS hl => va_copyl C.x C.b (C.ml.trans hl.1.symm) C.ow (C.t _ hw) (C.t _ g2) (C.t _ g3) (C.t _ g4) C.K hP hD hS q0 q1 1 1 ha0 ha1 rfl rfl rfl h1 h2 h3 h4 h5 (fun _ _ => rfl) hr hs d (fun H L hP hD hS => kk H L ls hP hD hS hl)
theorem j_tabIn (C : Cx p s m args meth c D y A cc nL own nm) {df lo hi : Int} {offs : Array Int} {len : Nat} {x : Int32} {off : Int} {tgt : Nat} (d : decode cc pc = .ok (.tableswitch df lo hi offs, len)) (h1 : ¬ x.toInt < lo) (h2 : ¬ hi < x.toInt) (ho : offs[(x.toInt - lo).toNat]? = some off) (ht : (pc : Int) + off = (tgt : Int)) (kk : J p l e R s m args below meth c Q D A nL ws lv kc ks tgt st) : J p l e R s m args below meth c Q D A nL ws lv kc ks pc (.int x :: st) := fun H L ls a b f g => lv_tableIn C.x C.b d h1 h2 ho ht (kk H L ls a b f g)
theorem j_tabOut (C : Cx p s m args meth c D y A cc nL own nm) {df lo hi : Int} {offs : Array Int} {len : Nat} {x : Int32} {tgt : Nat} (d : decode cc pc = .ok (.tableswitch df lo hi offs, len)) (h : x.toInt < lo ∨ hi < x.toInt) (ht : (pc : Int) + df = (tgt : Int)) (kk : J p l e R s m args below meth c Q D A nL ws lv kc ks tgt st) : J p l e R s m args below meth c Q D A nL ws lv kc ks pc (.int x :: st) := fun H L ls a b f g => lv_tableOut C.x C.b d h ht (kk H L ls a b f g)
theorem j_lookup (C : Cx p s m args meth c D y A cc nL own nm) {df : Int} {ps : Array (Int × Int)} {len : Nat} {x : Int32} {off : Int} {tgt : Nat} (d : decode cc pc = .ok (.lookupswitch df ps, len)) (hp : (ps.toList.zip (ps.toList.drop 1)).all (fun (a, next) => a.1 < next.1) = true) (ho : Op.lookupswitch.offset ps.toList df x.toInt = off) (ht : (pc : Int) + off = (tgt : Int)) (kk : J p l e R s m args below meth c Q D A nL ws lv kc ks tgt st) : J p l e R s m args below meth c Q D A nL ws lv kc ks pc (.int x :: st) := fun H L ls a b f g => lv_lookup C.x C.b d hp ho ht (kk H L ls a b f g)
end JC
end
section
/-! calls and returns -/
def KW (own : String) (idx : Nat) (f : MethodName) (b : ByteArray) (mL : Nat) (ret : Option FieldType) (n : Nat) : Prop := Cond.methodLink own idx f ∈ TB ∧ Cond.initialized f.cls ∈ TB ∧ Cond.code f b mL ret ∈ TB ∧ (f.cls ≠ "java/lang/invoke/MethodHandle" ∧ f.cls ≠ "java/lang/invoke/VarHandle" ∧ (parseMethodDescriptor f.desc).map (fun d => d.parameters.length) = some n)
def KN (own : String) (idx : Nat) (f : MethodName) (b : ByteArray) (mL : Nat) (ret : Option FieldType) (n : Nat) : Prop := Cond.initialized f.cls ∈ TB ∧ Cond.code f b mL ret ∈ TB ∧ (f.cls ≠ "java/lang/invoke/MethodHandle" ∧ f.cls ≠ "java/lang/invoke/VarHandle" ∧ (parseMethodDescriptor f.desc).map (fun d => d.parameters.length) = some n)
theorem gi_tb {w : Cond} (h : w ∈ TB) : GoodIn TB (w :: TB) := fun v hv => by
  have hm : v ∈ TB := (List.mem_cons.mp hv).elim (fun e => e ▸ h) id
  exact ⟨hm, good_of_word (tb_good v hm)⟩
section JK
variable {p : Program} {l : Launch} {e : Env} {R : Room} {s : State} {m : MethodId} {args : Array Value} {below : List Frame} {meth : Method} {c : Code} {Q : State → Prop} {D : va_G} {y : Nat → ClassId} {A : Nat → Prop} {cc : ByteArray} {nL : Nat} {own nm : String} {ws : va_W} {lv : List (Nat × Value)} {kc ks pc : Nat} {st : List Value}
variable {f : MethodName} {b : ByteArray} {mL n idx : Nat} {ret : Option FieldType} {rm : Room} {As rest : List Value} {wc wr : va_W} {Qf : Nat → Array Value → State → Outcome → State → Prop}
theorem r_V (C : Cx p s m args meth c D y A cc nL own nm) {a : Nat} (K : KW own idx f b mL ret n) (K2 : Cond.instanceMethod f ∈ TB ∧ Cond.selects f.cls f f ∈ TB) (q0 ci : Nat) {fs : List Value} {T : u_T} {N : Nat} (he : wc[q0]? = some (a, .inr (ci, fs))) (hc : classes[ci]? = some (f.cls, T, N)) (hM : CT l D y f b mL ret rm (.ref a :: As) wc Qf) (hR : rm.frames + 1 ≤ R.frames ∧ 8 + (mL + 11) + rm.locals ≤ R.locals) (hf : kc + rm.cells ≤ R.cells ∧ ks + rm.slots ≤ R.slots) {H : Heap} {L : List Loc} {ls : Array Slot} (hPc : va_P D classes wc H) (hDc : va_D A wc) (hl : lv_has ls nL lv) (hn : As.length = n) (hs : (rest.map fun v => v.category).sum ≤ 8) (hst : st = As.reverse ++ .ref a :: rest) (d : decode cc pc = .ok (.invokevirtual idx, 3)) : va_Run p l e R s m args below meth c H L kc ks rm.cells rm.slots (F0 m pc ls st) rest (Qf H.size (Value.ref a :: As).toArray) (va_A wc H.size) := va_runV ⟨C.x, C.b, C.ml, C.ow, C.t⟩ (hM H.size) ⟨(callB_of n C.t (gi_tb K.2.2.1) rfl rfl rfl (C.t _ K.2.1) (C.t _ K.1) K.2.2.2 hR), C.t _ K2.1, C.t _ K2.2⟩ ⟨WP.blind, va_recv C.K hPc hc he, fun U hU hW => ⟨rfl, by rw [hU], by rw [hU]; exact hPc, C.K.moved hW.alike, hDc.weaken (fun _ _ _ _ => trivial), C.N.warm hW⟩⟩ rfl hn hl.1 hst (lv_room hs) d hf
theorem r_S (C : Cx p s m args meth c D y A cc nL own nm) (K : KW own idx f b mL ret n) (K2 : Cond.static f ∈ TB) (hM : CT l D y f b mL ret rm As wc Qf) (hR : rm.frames + 1 ≤ R.frames ∧ 8 + (mL + 11) + rm.locals ≤ R.locals) (hf : kc + rm.cells ≤ R.cells ∧ ks + rm.slots ≤ R.slots) {H : Heap} {L : List Loc} {ls : Array Slot} (hPc : va_P D classes wc H) (hDc : va_D A wc) (hl : lv_has ls nL lv) (hn : As.length = n) (hs : (rest.map fun v => v.category).sum ≤ 8) (hst : st = As.reverse ++ rest) (d : decode cc pc = .ok (.invokestatic idx, 3)) : va_Run p l e R s m args below meth c H L kc ks rm.cells rm.slots (F0 m pc ls st) rest (Qf H.size As.toArray) (va_A wc H.size) := va_runS ⟨C.x, C.b, C.ml, C.ow, C.t⟩ (hM H.size) ⟨(callB_of n C.t (gi_tb K.2.2.1) rfl rfl rfl (C.t _ K.2.1) (C.t _ K.1) K.2.2.2 hR), C.t _ K2⟩ ⟨WP.blind, fun U hU hW => ⟨rfl, by rw [hU], by rw [hU]; exact hPc, C.K.moved hW.alike, hDc.weaken (fun _ _ _ _ => trivial), C.N.warm hW⟩⟩ rfl hn hl.1 hst (lv_room hs) d hf
theorem r_I (C : Cx p s m args meth c D y A cc nL own nm) {a : Nat} (K : KW own idx f b mL none n) (K2 : f.name = "<init>" ∧ Cond.instanceMethod f ∈ TB) (hM : CT l D y f b mL none rm (.ref a :: As) wc Qf) (hR : rm.frames + 1 ≤ R.frames ∧ 8 + (mL + 11) + rm.locals ≤ R.locals) (hf : kc + rm.cells ≤ R.cells ∧ ks + rm.slots ≤ R.slots) {H : Heap} {L : List Loc} {ls : Array Slot} (hPc : va_P D classes wc H) (hDc : va_D A wc) (hl : lv_has ls nL lv) (hn : As.length = n) (hs : (rest.map fun v => v.category).sum ≤ 8) (hst : st = As.reverse ++ .ref a :: rest) (d : decode cc pc = .ok (.invokespecial idx, 3)) : va_Run p l e R s m args below meth c H L kc ks rm.cells rm.slots (F0 m pc ls st) rest (Qf H.size (Value.ref a :: As).toArray) (va_A wc H.size) := va_runI ⟨C.x, C.b, C.ml, C.ow, C.t⟩ (hM H.size) ⟨(callB_of n C.t (gi_tb K.2.2.1) rfl rfl rfl (C.t _ K.2.1) (C.t _ K.1) K.2.2.2 hR), K2.1, C.t _ K2.2⟩ ⟨WP.blind, fun U hU hW => ⟨rfl, by rw [hU], by rw [hU]; exact hPc, C.K.moved hW.alike, hDc.weaken (fun _ _ _ _ => trivial), C.N.warm hW⟩⟩ rfl hn hl.1 hst (lv_room hs) d hf
theorem r_IN (C : Cx p s m args meth c D y A cc nL own nm) {a : Nat} {host : String} (K : KN own idx f b mL none n) (K2 : f.name = "<init>" ∧ Cond.instanceMethod f ∈ TB) (hnw : va_Nw (.methodLinkNest own idx f host) s) (hM : CT l D y f b mL none rm (.ref a :: As) wc Qf) (hR : rm.frames + 1 ≤ R.frames ∧ 8 + (mL + 11) + rm.locals ≤ R.locals) (hf : kc + rm.cells ≤ R.cells ∧ ks + rm.slots ≤ R.slots) {H : Heap} {L : List Loc} {ls : Array Slot} (hPc : va_P D classes wc H) (hDc : va_D A wc) (hl : lv_has ls nL lv) (hn : As.length = n) (hs : (rest.map fun v => v.category).sum ≤ 8) (hst : st = As.reverse ++ .ref a :: rest) (d : decode cc pc = .ok (.invokespecial idx, 3)) : va_Run p l e R s m args below meth c H L kc ks rm.cells rm.slots (F0 m pc ls st) rest (Qf H.size (Value.ref a :: As).toArray) (va_A wc H.size) := va_runIN ⟨C.x, C.b, C.ml, C.ow, C.t⟩ (hM H.size) ⟨(va_cnB n C.t (gi_tb K.2.1) rfl rfl rfl hnw (C.t _ K.1) K.2.2 hR), K2.1, C.t _ K2.2⟩ ⟨WP.blind, fun U hU hW => ⟨rfl, by rw [hU], by rw [hU]; exact hPc, C.K.moved hW.alike, hDc.weaken (fun _ _ _ _ => trivial), C.N.warm hW⟩⟩ rfl hn hl.1 hst (lv_room hs) d hf
theorem r_SN (C : Cx p s m args meth c D y A cc nL own nm) {host : String} (K : KN own idx f b mL ret n) (K2 : Cond.static f ∈ TB) (hnw : va_Nw (.methodLinkNest own idx f host) s) (hM : CT l D y f b mL ret rm As wc Qf) (hR : rm.frames + 1 ≤ R.frames ∧ 8 + (mL + 11) + rm.locals ≤ R.locals) (hf : kc + rm.cells ≤ R.cells ∧ ks + rm.slots ≤ R.slots) {H : Heap} {L : List Loc} {ls : Array Slot} (hPc : va_P D classes wc H) (hDc : va_D A wc) (hl : lv_has ls nL lv) (hn : As.length = n) (hs : (rest.map fun v => v.category).sum ≤ 8) (hst : st = As.reverse ++ rest) (d : decode cc pc = .ok (.invokestatic idx, 3)) : va_Run p l e R s m args below meth c H L kc ks rm.cells rm.slots (F0 m pc ls st) rest (Qf H.size As.toArray) (va_A wc H.size) := va_runSN ⟨C.x, C.b, C.ml, C.ow, C.t⟩ (hM H.size) ⟨(va_cnB n C.t (gi_tb K.2.1) rfl rfl rfl hnw (C.t _ K.1) K.2.2 hR), C.t _ K2, trivial⟩ ⟨WP.blind, fun U hU hW => ⟨rfl, by rw [hU], by rw [hU]; exact hPc, C.K.moved hW.alike, hDc.weaken (fun _ _ _ _ => trivial), C.N.warm hW⟩⟩ rfl hn hl.1 hst (lv_room hs) d hf
theorem w_i (C : Cx p s m args meth c D y A cc nL own nm) {S : Type} {post : Int32 → S → Prop} {ws' : S → va_W} (isC isR : List Nat) (hC : isC.map (fun i => ws[i]?) = wc.map some) (hW : isR.map (fun i => ws[i]?) = wr.map some) (hnC : va_nd isC = true) (hnR : va_nd isR = true) (hdis : ∀ i ∈ isR, i ∉ isC) {H : Heap} {L : List Loc} {ls : Array Slot} (hP : va_P D classes ws H) (hD : va_D A ws) (hS : va_S A s.heap H L) (hl : lv_has ls nL lv) {a : Array Value} (run : va_Run p l e R s m args below meth c H L kc ks rm.cells rm.slots (F0 m pc ls st) rest (va_Qi post (WQ D (va_A wc H.size) ws') (va_A wc H.size) a) (va_A wc H.size)) (kk : ∀ (r : Int32) (u : S), post r u → J p l e R s m args below meth c Q D A nL (wr ++ ws' u) lv (kc + rm.cells) (ks + rm.slots) (pc + 3) (.int r :: rest)) : W p l e R s m args below meth c H L kc ks Q (F0 m pc ls st) := by
  have hFc := va_free (wc := wc) hD hS C.ha isC hC
  refine va_calli run hS (fun q _ h => hFc q h) hFc (fun r u t H1 L1 ht hvm hw hB hz1 hk1 hS1 => ?_)
  obtain ⟨hP1, hD1⟩ := hB
  rw [ht] at hP1
  obtain ⟨hP2, hD2⟩ := va_join (wr := wr) (w1 := ws' u) hP hD isC isR hC hW hnR hdis hk1 hFc hP1 hD1
  exact kk r u hw H1 L1 ls hP2 hD2 hS1 hl
theorem j_callVi (C : Cx p s m args meth c D y A cc nL own nm) {S : Type} {post : Int32 → S → Prop} {ws' : S → va_W} {rt : FieldType} {a : Nat} (hM : CT l D y f b mL (some rt) rm (.ref a :: As) wc (QI D wc post ws')) (K : KW own idx f b mL (some rt) n) (K2 : Cond.instanceMethod f ∈ TB ∧ Cond.selects f.cls f f ∈ TB) (q0 ci : Nat) {fs : List Value} {T : u_T} {N : Nat} (he : wc[q0]? = some (a, .inr (ci, fs))) (hc : classes[ci]? = some (f.cls, T, N)) (hR : rm.frames + 1 ≤ R.frames ∧ 8 + (mL + 11) + rm.locals ≤ R.locals) (hf : kc + rm.cells ≤ R.cells ∧ ks + rm.slots ≤ R.slots) (isC isR : List Nat) (hC : isC.map (fun i => ws[i]?) = wc.map some) (hW : isR.map (fun i => ws[i]?) = wr.map some) (hnC : va_nd isC = true) (hnR : va_nd isR = true) (hdis : ∀ i ∈ isR, i ∉ isC) (hn : As.length = n) (hs : (rest.map fun v => v.category).sum ≤ 8) (hst : st = As.reverse ++ .ref a :: rest) (d : decode cc pc = .ok (.invokevirtual idx, 3)) (kk : ∀ (r : Int32) (u : S), post r u → J p l e R s m args below meth c Q D A nL (wr ++ ws' u) lv (kc + rm.cells) (ks + rm.slots) (pc + 3) (.int r :: rest)) : J p l e R s m args below meth c Q D A nL ws lv kc ks pc st := fun H L ls hP hD hS hl => w_i C isC isR hC hW hnC hnR hdis hP hD hS hl (r_V C K K2 q0 ci he hc hM hR hf (hP.sub isC (fm_of hC)) (hD.sub isC hnC hC) hl hn hs hst d) kk
theorem j_callSi (C : Cx p s m args meth c D y A cc nL own nm) {S : Type} {post : Int32 → S → Prop} {ws' : S → va_W} {rt : FieldType} (hM : CT l D y f b mL (some rt) rm As wc (QI D wc post ws')) (K : KW own idx f b mL (some rt) n) (K2 : Cond.static f ∈ TB) (hR : rm.frames + 1 ≤ R.frames ∧ 8 + (mL + 11) + rm.locals ≤ R.locals) (hf : kc + rm.cells ≤ R.cells ∧ ks + rm.slots ≤ R.slots) (isC isR : List Nat) (hC : isC.map (fun i => ws[i]?) = wc.map some) (hW : isR.map (fun i => ws[i]?) = wr.map some) (hnC : va_nd isC = true) (hnR : va_nd isR = true) (hdis : ∀ i ∈ isR, i ∉ isC) (hn : As.length = n) (hs : (rest.map fun v => v.category).sum ≤ 8) (hst : st = As.reverse ++ rest) (d : decode cc pc = .ok (.invokestatic idx, 3)) (kk : ∀ (r : Int32) (u : S), post r u → J p l e R s m args below meth c Q D A nL (wr ++ ws' u) lv (kc + rm.cells) (ks + rm.slots) (pc + 3) (.int r :: rest)) : J p l e R s m args below meth c Q D A nL ws lv kc ks pc st := fun H L ls hP hD hS hl => w_i C isC isR hC hW hnC hnR hdis hP hD hS hl (r_S C K K2 hM hR hf (hP.sub isC (fm_of hC)) (hD.sub isC hnC hC) hl hn hs hst d) kk
theorem j_callSNi (C : Cx p s m args meth c D y A cc nL own nm) {S : Type} {post : Int32 → S → Prop} {ws' : S → va_W} {rt : FieldType} (hM : CT l D y f b mL (some rt) rm As wc (QI D wc post ws')) {host : String} (K : KN own idx f b mL (some rt) n) (K2 : Cond.static f ∈ TB) (hnw : va_Nw (.methodLinkNest own idx f host) s) (hR : rm.frames + 1 ≤ R.frames ∧ 8 + (mL + 11) + rm.locals ≤ R.locals) (hf : kc + rm.cells ≤ R.cells ∧ ks + rm.slots ≤ R.slots) (isC isR : List Nat) (hC : isC.map (fun i => ws[i]?) = wc.map some) (hW : isR.map (fun i => ws[i]?) = wr.map some) (hnC : va_nd isC = true) (hnR : va_nd isR = true) (hdis : ∀ i ∈ isR, i ∉ isC) (hn : As.length = n) (hs : (rest.map fun v => v.category).sum ≤ 8) (hst : st = As.reverse ++ rest) (d : decode cc pc = .ok (.invokestatic idx, 3)) (kk : ∀ (r : Int32) (u : S), post r u → J p l e R s m args below meth c Q D A nL (wr ++ ws' u) lv (kc + rm.cells) (ks + rm.slots) (pc + 3) (.int r :: rest)) : J p l e R s m args below meth c Q D A nL ws lv kc ks pc st := fun H L ls hP hD hS hl => w_i C isC isR hC hW hnC hnR hdis hP hD hS hl (r_SN C K K2 hnw hM hR hf (hP.sub isC (fm_of hC)) (hD.sub isC hnC hC) hl hn hs hst d) kk
theorem w_l (C : Cx p s m args meth c D y A cc nL own nm) {S : Type} {post : Int64 → S → Prop} {ws' : S → va_W} (isC isR : List Nat) (hC : isC.map (fun i => ws[i]?) = wc.map some) (hW : isR.map (fun i => ws[i]?) = wr.map some) (hnC : va_nd isC = true) (hnR : va_nd isR = true) (hdis : ∀ i ∈ isR, i ∉ isC) {H : Heap} {L : List Loc} {ls : Array Slot} (hP : va_P D classes ws H) (hD : va_D A ws) (hS : va_S A s.heap H L) (hl : lv_has ls nL lv) {a : Array Value} (run : va_Run p l e R s m args below meth c H L kc ks rm.cells rm.slots (F0 m pc ls st) rest (va_Ql post (WQ D (va_A wc H.size) ws') (va_A wc H.size) a) (va_A wc H.size)) (kk : ∀ (r : Int64) (u : S), post r u → J p l e R s m args below meth c Q D A nL (wr ++ ws' u) lv (kc + rm.cells) (ks + rm.slots) (pc + 3) (.long r :: rest)) : W p l e R s m args below meth c H L kc ks Q (F0 m pc ls st) := by
  have hFc := va_free (wc := wc) hD hS C.ha isC hC
  refine va_calll run hS (fun q _ h => hFc q h) hFc (fun r u t H1 L1 ht hvm hw hB hz1 hk1 hS1 => ?_)
  obtain ⟨hP1, hD1⟩ := hB
  rw [ht] at hP1
  obtain ⟨hP2, hD2⟩ := va_join (wr := wr) (w1 := ws' u) hP hD isC isR hC hW hnR hdis hk1 hFc hP1 hD1
  exact kk r u hw H1 L1 ls hP2 hD2 hS1 hl
theorem j_callVl (C : Cx p s m args meth c D y A cc nL own nm) {S : Type} {post : Int64 → S → Prop} {ws' : S → va_W} {a : Nat} (hM : CT l D y f b mL (some .long) rm (.ref a :: As) wc (QL D wc post ws')) (K : KW own idx f b mL (some .long) n) (K2 : Cond.instanceMethod f ∈ TB ∧ Cond.selects f.cls f f ∈ TB) (q0 ci : Nat) {fs : List Value} {T : u_T} {N : Nat} (he : wc[q0]? = some (a, .inr (ci, fs))) (hc : classes[ci]? = some (f.cls, T, N)) (hR : rm.frames + 1 ≤ R.frames ∧ 8 + (mL + 11) + rm.locals ≤ R.locals) (hf : kc + rm.cells ≤ R.cells ∧ ks + rm.slots ≤ R.slots) (isC isR : List Nat) (hC : isC.map (fun i => ws[i]?) = wc.map some) (hW : isR.map (fun i => ws[i]?) = wr.map some) (hnC : va_nd isC = true) (hnR : va_nd isR = true) (hdis : ∀ i ∈ isR, i ∉ isC) (hn : As.length = n) (hs : (rest.map fun v => v.category).sum ≤ 8) (hst : st = As.reverse ++ .ref a :: rest) (d : decode cc pc = .ok (.invokevirtual idx, 3)) (kk : ∀ (r : Int64) (u : S), post r u → J p l e R s m args below meth c Q D A nL (wr ++ ws' u) lv (kc + rm.cells) (ks + rm.slots) (pc + 3) (.long r :: rest)) : J p l e R s m args below meth c Q D A nL ws lv kc ks pc st := fun H L ls hP hD hS hl => w_l C isC isR hC hW hnC hnR hdis hP hD hS hl (r_V C K K2 q0 ci he hc hM hR hf (hP.sub isC (fm_of hC)) (hD.sub isC hnC hC) hl hn hs hst d) kk
theorem j_callSl (C : Cx p s m args meth c D y A cc nL own nm) {S : Type} {post : Int64 → S → Prop} {ws' : S → va_W} (hM : CT l D y f b mL (some .long) rm As wc (QL D wc post ws')) (K : KW own idx f b mL (some .long) n) (K2 : Cond.static f ∈ TB) (hR : rm.frames + 1 ≤ R.frames ∧ 8 + (mL + 11) + rm.locals ≤ R.locals) (hf : kc + rm.cells ≤ R.cells ∧ ks + rm.slots ≤ R.slots) (isC isR : List Nat) (hC : isC.map (fun i => ws[i]?) = wc.map some) (hW : isR.map (fun i => ws[i]?) = wr.map some) (hnC : va_nd isC = true) (hnR : va_nd isR = true) (hdis : ∀ i ∈ isR, i ∉ isC) (hn : As.length = n) (hs : (rest.map fun v => v.category).sum ≤ 8) (hst : st = As.reverse ++ rest) (d : decode cc pc = .ok (.invokestatic idx, 3)) (kk : ∀ (r : Int64) (u : S), post r u → J p l e R s m args below meth c Q D A nL (wr ++ ws' u) lv (kc + rm.cells) (ks + rm.slots) (pc + 3) (.long r :: rest)) : J p l e R s m args below meth c Q D A nL ws lv kc ks pc st := fun H L ls hP hD hS hl => w_l C isC isR hC hW hnC hnR hdis hP hD hS hl (r_S C K K2 hM hR hf (hP.sub isC (fm_of hC)) (hD.sub isC hnC hC) hl hn hs hst d) kk
theorem w_v (C : Cx p s m args meth c D y A cc nL own nm) {S : Type} {post : S → Prop} {ws' : S → va_W} (isC isR : List Nat) (hC : isC.map (fun i => ws[i]?) = wc.map some) (hW : isR.map (fun i => ws[i]?) = wr.map some) (hnC : va_nd isC = true) (hnR : va_nd isR = true) (hdis : ∀ i ∈ isR, i ∉ isC) {H : Heap} {L : List Loc} {ls : Array Slot} (hP : va_P D classes ws H) (hD : va_D A ws) (hS : va_S A s.heap H L) (hl : lv_has ls nL lv) {a : Array Value} (run : va_Run p l e R s m args below meth c H L kc ks rm.cells rm.slots (F0 m pc ls st) rest (va_Qv post (WQ D (va_A wc H.size) ws') (va_A wc H.size) a) (va_A wc H.size)) (kk : ∀ (u : S), post u → J p l e R s m args below meth c Q D A nL (wr ++ ws' u) lv (kc + rm.cells) (ks + rm.slots) (pc + 3) rest) : W p l e R s m args below meth c H L kc ks Q (F0 m pc ls st) := by
  have hFc := va_free (wc := wc) hD hS C.ha isC hC
  refine va_callv run hS (fun q _ h => hFc q h) hFc (fun u t H1 L1 ht hvm hw hB hz1 hk1 hS1 => ?_)
  obtain ⟨hP1, hD1⟩ := hB
  rw [ht] at hP1
  obtain ⟨hP2, hD2⟩ := va_join (wr := wr) (w1 := ws' u) hP hD isC isR hC hW hnR hdis hk1 hFc hP1 hD1
  exact kk u hw H1 L1 ls hP2 hD2 hS1 hl
theorem j_callVv (C : Cx p s m args meth c D y A cc nL own nm) {S : Type} {post : S → Prop} {ws' : S → va_W} {a : Nat} (hM : CT l D y f b mL none rm (.ref a :: As) wc (QV D wc post ws')) (K : KW own idx f b mL none n) (K2 : Cond.instanceMethod f ∈ TB ∧ Cond.selects f.cls f f ∈ TB) (q0 ci : Nat) {fs : List Value} {T : u_T} {N : Nat} (he : wc[q0]? = some (a, .inr (ci, fs))) (hc : classes[ci]? = some (f.cls, T, N)) (hR : rm.frames + 1 ≤ R.frames ∧ 8 + (mL + 11) + rm.locals ≤ R.locals) (hf : kc + rm.cells ≤ R.cells ∧ ks + rm.slots ≤ R.slots) (isC isR : List Nat) (hC : isC.map (fun i => ws[i]?) = wc.map some) (hW : isR.map (fun i => ws[i]?) = wr.map some) (hnC : va_nd isC = true) (hnR : va_nd isR = true) (hdis : ∀ i ∈ isR, i ∉ isC) (hn : As.length = n) (hs : (rest.map fun v => v.category).sum ≤ 8) (hst : st = As.reverse ++ .ref a :: rest) (d : decode cc pc = .ok (.invokevirtual idx, 3)) (kk : ∀ (u : S), post u → J p l e R s m args below meth c Q D A nL (wr ++ ws' u) lv (kc + rm.cells) (ks + rm.slots) (pc + 3) rest) : J p l e R s m args below meth c Q D A nL ws lv kc ks pc st := fun H L ls hP hD hS hl => w_v C isC isR hC hW hnC hnR hdis hP hD hS hl (r_V C K K2 q0 ci he hc hM hR hf (hP.sub isC (fm_of hC)) (hD.sub isC hnC hC) hl hn hs hst d) kk
theorem j_callSv (C : Cx p s m args meth c D y A cc nL own nm) {S : Type} {post : S → Prop} {ws' : S → va_W} (hM : CT l D y f b mL none rm As wc (QV D wc post ws')) (K : KW own idx f b mL none n) (K2 : Cond.static f ∈ TB) (hR : rm.frames + 1 ≤ R.frames ∧ 8 + (mL + 11) + rm.locals ≤ R.locals) (hf : kc + rm.cells ≤ R.cells ∧ ks + rm.slots ≤ R.slots) (isC isR : List Nat) (hC : isC.map (fun i => ws[i]?) = wc.map some) (hW : isR.map (fun i => ws[i]?) = wr.map some) (hnC : va_nd isC = true) (hnR : va_nd isR = true) (hdis : ∀ i ∈ isR, i ∉ isC) (hn : As.length = n) (hs : (rest.map fun v => v.category).sum ≤ 8) (hst : st = As.reverse ++ rest) (d : decode cc pc = .ok (.invokestatic idx, 3)) (kk : ∀ (u : S), post u → J p l e R s m args below meth c Q D A nL (wr ++ ws' u) lv (kc + rm.cells) (ks + rm.slots) (pc + 3) rest) : J p l e R s m args below meth c Q D A nL ws lv kc ks pc st := fun H L ls hP hD hS hl => w_v C isC isR hC hW hnC hnR hdis hP hD hS hl (r_S C K K2 hM hR hf (hP.sub isC (fm_of hC)) (hD.sub isC hnC hC) hl hn hs hst d) kk
theorem j_callIv (C : Cx p s m args meth c D y A cc nL own nm) {S : Type} {post : S → Prop} {ws' : S → va_W} {a : Nat} (hM : CT l D y f b mL none rm (.ref a :: As) wc (QV D wc post ws')) (K : KW own idx f b mL none n) (K2 : f.name = "<init>" ∧ Cond.instanceMethod f ∈ TB) (hR : rm.frames + 1 ≤ R.frames ∧ 8 + (mL + 11) + rm.locals ≤ R.locals) (hf : kc + rm.cells ≤ R.cells ∧ ks + rm.slots ≤ R.slots) (isC isR : List Nat) (hC : isC.map (fun i => ws[i]?) = wc.map some) (hW : isR.map (fun i => ws[i]?) = wr.map some) (hnC : va_nd isC = true) (hnR : va_nd isR = true) (hdis : ∀ i ∈ isR, i ∉ isC) (hn : As.length = n) (hs : (rest.map fun v => v.category).sum ≤ 8) (hst : st = As.reverse ++ .ref a :: rest) (d : decode cc pc = .ok (.invokespecial idx, 3)) (kk : ∀ (u : S), post u → J p l e R s m args below meth c Q D A nL (wr ++ ws' u) lv (kc + rm.cells) (ks + rm.slots) (pc + 3) rest) : J p l e R s m args below meth c Q D A nL ws lv kc ks pc st := fun H L ls hP hD hS hl => w_v C isC isR hC hW hnC hnR hdis hP hD hS hl (r_I C K K2 hM hR hf (hP.sub isC (fm_of hC)) (hD.sub isC hnC hC) hl hn hs hst d) kk
theorem j_callINv (C : Cx p s m args meth c D y A cc nL own nm) {S : Type} {post : S → Prop} {ws' : S → va_W} {a : Nat} (hM : CT l D y f b mL none rm (.ref a :: As) wc (QV D wc post ws')) {host : String} (K : KN own idx f b mL none n) (K2 : f.name = "<init>" ∧ Cond.instanceMethod f ∈ TB) (hnw : va_Nw (.methodLinkNest own idx f host) s) (hR : rm.frames + 1 ≤ R.frames ∧ 8 + (mL + 11) + rm.locals ≤ R.locals) (hf : kc + rm.cells ≤ R.cells ∧ ks + rm.slots ≤ R.slots) (isC isR : List Nat) (hC : isC.map (fun i => ws[i]?) = wc.map some) (hW : isR.map (fun i => ws[i]?) = wr.map some) (hnC : va_nd isC = true) (hnR : va_nd isR = true) (hdis : ∀ i ∈ isR, i ∉ isC) (hn : As.length = n) (hs : (rest.map fun v => v.category).sum ≤ 8) (hst : st = As.reverse ++ .ref a :: rest) (d : decode cc pc = .ok (.invokespecial idx, 3)) (kk : ∀ (u : S), post u → J p l e R s m args below meth c Q D A nL (wr ++ ws' u) lv (kc + rm.cells) (ks + rm.slots) (pc + 3) rest) : J p l e R s m args below meth c Q D A nL ws lv kc ks pc st := fun H L ls hP hD hS hl => w_v C isC isR hC hW hnC hnR hdis hP hD hS hl (r_IN C K K2 hnw hM hR hf (hP.sub isC (fm_of hC)) (hD.sub isC hnC hC) hl hn hs hst d) kk
theorem j_iret (C : Cx p s m args meth c D y A cc nL own nm) {v : Int32} {rt : FieldType} (hr : meth.sig.returnType = some rt) (hn : narrow rt (.int v) = .int v) {S : Type} {post : Int32 → S → Prop} {ws' : S → va_W} (u : S) (hp : post v u) (is : List Nat) (hs : is.map (fun i => ws[i]?) = (ws' u).map some) (hnd : va_nd is = true) {mc ms : Nat} (h1 : kc ≤ mc) (h2 : ks ≤ ms) (d : decode cc pc = .ok (.ireturn, 1)) : J p l e R s m args below meth c (MQ below (va_Qi post (WQ D A ws') A) args s mc ms A) D A nL ws lv kc ks pc [.int v] := fun H L ls hP hD hS hl => W.widen h1 h2 (W.zret C.x C.b hr hn (fun t ht hW => ⟨⟨v, u, rfl, hp, by rw [ht]; exact hP.sub is (fm_of hs), hD.sub is hnd hs⟩, hS.F ht⟩) hS.2.2 d C.lk)
theorem j_lret (C : Cx p s m args meth c D y A cc nL own nm) {v : Int64} (hr : meth.sig.returnType = some .long) {S : Type} {post : Int64 → S → Prop} {ws' : S → va_W} (u : S) (hp : post v u) (is : List Nat) (hs : is.map (fun i => ws[i]?) = (ws' u).map some) (hnd : va_nd is = true) {mc ms : Nat} (h1 : kc ≤ mc) (h2 : ks ≤ ms) (d : decode cc pc = .ok (.lreturn, 1)) : J p l e R s m args below meth c (MQ below (va_Ql post (WQ D A ws') A) args s mc ms A) D A nL ws lv kc ks pc [.long v] := fun H L ls hP hD hS hl => W.widen h1 h2 (W.lret C.x C.b hr (fun t ht hW => ⟨⟨v, u, rfl, hp, by rw [ht]; exact hP.sub is (fm_of hs), hD.sub is hnd hs⟩, hS.F ht⟩) hS.2.2 d C.lk)
theorem j_vret (C : Cx p s m args meth c D y A cc nL own nm) (hr : meth.sig.returnType = none) {S : Type} {post : S → Prop} {ws' : S → va_W} (u : S) (hp : post u) (is : List Nat) (hs : is.map (fun i => ws[i]?) = (ws' u).map some) (hnd : va_nd is = true) {mc ms : Nat} (h1 : kc ≤ mc) (h2 : ks ≤ ms) (d : decode cc pc = .ok (.return_, 1)) : J p l e R s m args below meth c (MQ below (va_Qv post (WQ D A ws') A) args s mc ms A) D A nL ws lv kc ks pc [] := fun H L ls hP hD hS hl => W.widen h1 h2 (W.vret C.x C.b hr (fun t ht hW => ⟨⟨u, rfl, hp, by rw [ht]; exact hP.sub is (fm_of hs), hD.sub is hnd hs⟩, hS.F ht⟩) hS.2.2 d C.lk)
end JK
end
section
/-! worlds with a tail that stays, or goes along; worlds in another order; a row said otherwise -/
theorem vaP_iff {D : va_G} {cl : List vw_C} {ws : va_W} {H : Heap} : va_P D cl ws H ↔ ∀ q ∈ ws, va_at D cl q H := ⟨fun h q hq => by
  obtain ⟨k, hk⟩ := List.getElem?_of_mem hq
  exact h k q hk, fun h k q hk => h q (List.mem_of_getElem? hk)⟩
theorem vaD_iff {A : Nat → Prop} {ws : va_W} : va_D A ws ↔ (ws.map (·.1)).Nodup ∧ ∀ q ∈ ws, A q.1 := by
  unfold List.Nodup
  rw [List.pairwise_iff_getElem]
  constructor
  · intro h
    refine ⟨?_, fun q hq => ?_⟩
    · intro i j hi hj hij e
      rw [List.length_map] at hi hj
      rw [List.getElem_map, List.getElem_map] at e
      have := h.1 i j ws[i] ws[j] (List.getElem?_eq_getElem hi) (List.getElem?_eq_getElem hj) e
      omega
    · obtain ⟨k, hk⟩ := List.getElem?_of_mem hq
      exact h.2 k q hk
  · intro h
    refine ⟨fun i j p q hp hq e => ?_, fun k q hk => h.2 q (List.mem_of_getElem? hk)⟩
    obtain ⟨hi, ei⟩ := List.getElem?_eq_some_iff.mp hp
    obtain ⟨hj, ej⟩ := List.getElem?_eq_some_iff.mp hq
    rcases Nat.lt_trichotomy i j with g | g | g
    · exact absurd (by rw [List.getElem_map, List.getElem_map, ei, ej]; exact e) (h.1 i j (by rw [List.length_map]; exact hi) (by rw [List.length_map]; exact hj) g)
    · exact g
    · exact absurd (by rw [List.getElem_map, List.getElem_map, ei, ej]; exact e.symm) (h.1 j i (by rw [List.length_map]; exact hj) (by rw [List.length_map]; exact hi) g)
theorem va_P.perm {D : va_G} {cl : List vw_C} {w1 w2 : va_W} {H : Heap} (h : va_P D cl w1 H) (e : w1.Perm w2) : va_P D cl w2 H := vaP_iff.mpr fun q hq => vaP_iff.mp h q (e.mem_iff.mpr hq)
theorem va_D.perm {A : Nat → Prop} {w1 w2 : va_W} (h : va_D A w1) (e : w1.Perm w2) : va_D A w2 := vaD_iff.mpr ⟨((e.map (·.1)).nodup_iff).mp (vaD_iff.mp h).1, fun q hq => (vaD_iff.mp h).2 q (e.mem_iff.mpr hq)⟩
theorem arrV_cong {c : ClassId} {n : Nat} {f g : Nat → Value} (h : ∀ j, j < n → f j = g j) : arrV c n f = arrV c n g := by
  unfold arrV
  congr 1
  apply Array.ext
  · simp
  · intro i h1 h2
    simp at h1
    simp [h i h1]
section JT
variable {p : Program} {l : Launch} {e : Env} {R : Room} {s : State} {m : MethodId} {args : Array Value} {below : List Frame} {meth : Method} {c : Code} {Q : State → Prop} {D : va_G} {y : Nat → ClassId} {A : Nat → Prop} {cc : ByteArray} {nL : Nat} {own nm : String} {ws : va_W} {lv : List (Nat × Value)} {kc ks pc : Nat} {st : List Value}
variable {f : MethodName} {b : ByteArray} {mL n idx : Nat} {ret : Option FieldType} {rm : Room} {As rest : List Value} {wc wr X T : va_W} {Qf : Nat → Array Value → State → Outcome → State → Prop}
theorem j_perm {ws' : va_W} (h : ws.Perm ws') (kk : J p l e R s m args below meth c Q D A nL ws' lv kc ks pc st) : J p l e R s m args below meth c Q D A nL ws lv kc ks pc st := fun H L ls a b d f => kk H L ls (a.perm h) (b.perm h) d f
theorem j_mid {x : Nat × va_E} (kk : J p l e R s m args below meth c Q D A nL ((X ++ [x]) ++ T) lv kc ks pc st) : J p l e R s m args below meth c Q D A nL ((X ++ T) ++ [x]) lv kc ks pc st := fun H L ls a b d f => kk H L ls a.swap b.swap d f
theorem j_row (q0 : Nat) {a n : Nat} {cA : ClassId} {f g : Nat → Int32} {ws' : va_W} (ha : ws[q0]? = some (a, .inl (cA, n, .inl f))) (h : ∀ j, j < n → f j = g j) (hw : ws.set q0 (a, .inl (cA, n, .inl g)) = ws') (kk : J p l e R s m args below meth c Q D A nL ws' lv kc ks pc st) : J p l e R s m args below meth c Q D A nL ws lv kc ks pc st := by
  subst hw
  intro H L ls hP hD hS hl
  refine kk H L ls ?_ (hD.set ha) hS hl
  intro k q hk
  by_cases e : k = q0
  · subst e
    have hlt := (List.getElem?_eq_some_iff.mp ha).1
    rw [List.getElem?_set_self hlt] at hk
    cases hk
    have h0 := hP _ _ ha
    show H[a]? = some (vp_cell cA (n, .inl g))
    have e2 : vp_cell cA (n, .inl g) = vp_cell cA (n, .inl f) := by rw [vp_cell_i, vp_cell_i]; exact arrV_cong (fun j hj => by rw [h j hj])
    rw [e2]
    exact h0
  · rw [List.getElem?_set_ne (Ne.symm e)] at hk
    exact hP k q hk
theorem pf_P {D : va_G} {cl : List vw_C} {X T : va_W} {H : Heap} (h : va_P D cl (X ++ T) H) : va_P D cl X H := vaP_iff.mpr fun q hq => vaP_iff.mp h q (List.mem_append_left _ hq)
theorem pf_D {A : Nat → Prop} {X T : va_W} (h : va_D A (X ++ T)) : va_D A X := by
  have h2 := vaD_iff.mp h
  rw [List.map_append] at h2
  exact vaD_iff.mpr ⟨(List.nodup_append.mp h2.1).1, fun q hq => h2.2 q (List.mem_append_left _ hq)⟩
theorem w_iT (C : Cx p s m args meth c D y A cc nL own nm) {S : Type} {post : Int32 → S → Prop} {ws' : S → va_W} (isC isR : List Nat) (hC : isC.map (fun i => X[i]?) = wc.map some) (hW : isR.map (fun i => X[i]?) = wr.map some) (hnC : va_nd isC = true) (hnR : va_nd isR = true) (hdis : ∀ i ∈ isR, i ∉ isC) {H : Heap} {L : List Loc} {ls : Array Slot} (hP : va_P D classes (X ++ T) H) (hD : va_D A (X ++ T)) (hS : va_S A s.heap H L) (hl : lv_has ls nL lv) {a : Array Value} (run : va_Run p l e R s m args below meth c H L kc ks rm.cells rm.slots (F0 m pc ls st) rest (va_Qi post (WQ D (va_A wc H.size) ws') (va_A wc H.size) a) (va_A wc H.size)) (kk : ∀ (r : Int32) (u : S), post r u → J p l e R s m args below meth c Q D A nL ((wr ++ ws' u) ++ T) lv (kc + rm.cells) (ks + rm.slots) (pc + 3) (.int r :: rest)) : W p l e R s m args below meth c H L kc ks Q (F0 m pc ls st) := by
  have hFc := va_free (wc := wc) (pf_D hD) hS C.ha isC hC
  refine va_calli run hS (fun q _ h => hFc q h) hFc (fun r u t H1 L1 ht hvm hw hB hz1 hk1 hS1 => ?_)
  obtain ⟨hP1, hD1⟩ := hB
  rw [ht] at hP1
  obtain ⟨hP2, hD2⟩ := va_joinQ (wr := wr) (w1 := ws' u) hP hD isC isR hC hW hnR hdis hk1 hFc hP1 hD1
  exact kk r u hw H1 L1 ls hP2 hD2 hS1 hl
theorem j_callViT (C : Cx p s m args meth c D y A cc nL own nm) {S : Type} {post : Int32 → S → Prop} {ws' : S → va_W} {rt : FieldType} {a : Nat} (hM : CT l D y f b mL (some rt) rm (.ref a :: As) wc (QI D wc post ws')) (K : KW own idx f b mL (some rt) n) (K2 : Cond.instanceMethod f ∈ TB ∧ Cond.selects f.cls f f ∈ TB) (q0 ci : Nat) {fs : List Value} {U : u_T} {N : Nat} (he : wc[q0]? = some (a, .inr (ci, fs))) (hc : classes[ci]? = some (f.cls, U, N)) (hR : rm.frames + 1 ≤ R.frames ∧ 8 + (mL + 11) + rm.locals ≤ R.locals) (hf : kc + rm.cells ≤ R.cells ∧ ks + rm.slots ≤ R.slots) (isC isR : List Nat) (hC : isC.map (fun i => X[i]?) = wc.map some) (hW : isR.map (fun i => X[i]?) = wr.map some) (hnC : va_nd isC = true) (hnR : va_nd isR = true) (hdis : ∀ i ∈ isR, i ∉ isC) (hn : As.length = n) (hs : (rest.map fun v => v.category).sum ≤ 8) (hst : st = As.reverse ++ .ref a :: rest) (d : decode cc pc = .ok (.invokevirtual idx, 3)) (kk : ∀ (r : Int32) (u : S), post r u → J p l e R s m args below meth c Q D A nL ((wr ++ ws' u) ++ T) lv (kc + rm.cells) (ks + rm.slots) (pc + 3) (.int r :: rest)) : J p l e R s m args below meth c Q D A nL (X ++ T) lv kc ks pc st := fun H L ls hP hD hS hl => w_iT C isC isR hC hW hnC hnR hdis hP hD hS hl (r_V C K K2 q0 ci he hc hM hR hf ((pf_P hP).sub isC (fm_of hC)) ((pf_D hD).sub isC hnC hC) hl hn hs hst d) kk
theorem j_callSiT (C : Cx p s m args meth c D y A cc nL own nm) {S : Type} {post : Int32 → S → Prop} {ws' : S → va_W} {rt : FieldType} (hM : CT l D y f b mL (some rt) rm As wc (QI D wc post ws')) (K : KW own idx f b mL (some rt) n) (K2 : Cond.static f ∈ TB) (hR : rm.frames + 1 ≤ R.frames ∧ 8 + (mL + 11) + rm.locals ≤ R.locals) (hf : kc + rm.cells ≤ R.cells ∧ ks + rm.slots ≤ R.slots) (isC isR : List Nat) (hC : isC.map (fun i => X[i]?) = wc.map some) (hW : isR.map (fun i => X[i]?) = wr.map some) (hnC : va_nd isC = true) (hnR : va_nd isR = true) (hdis : ∀ i ∈ isR, i ∉ isC) (hn : As.length = n) (hs : (rest.map fun v => v.category).sum ≤ 8) (hst : st = As.reverse ++ rest) (d : decode cc pc = .ok (.invokestatic idx, 3)) (kk : ∀ (r : Int32) (u : S), post r u → J p l e R s m args below meth c Q D A nL ((wr ++ ws' u) ++ T) lv (kc + rm.cells) (ks + rm.slots) (pc + 3) (.int r :: rest)) : J p l e R s m args below meth c Q D A nL (X ++ T) lv kc ks pc st := fun H L ls hP hD hS hl => w_iT C isC isR hC hW hnC hnR hdis hP hD hS hl (r_S C K K2 hM hR hf ((pf_P hP).sub isC (fm_of hC)) ((pf_D hD).sub isC hnC hC) hl hn hs hst d) kk
theorem j_callSNiT (C : Cx p s m args meth c D y A cc nL own nm) {S : Type} {post : Int32 → S → Prop} {ws' : S → va_W} {rt : FieldType} (hM : CT l D y f b mL (some rt) rm As wc (QI D wc post ws')) {host : String} (K : KN own idx f b mL (some rt) n) (K2 : Cond.static f ∈ TB) (hnw : va_Nw (.methodLinkNest own idx f host) s) (hR : rm.frames + 1 ≤ R.frames ∧ 8 + (mL + 11) + rm.locals ≤ R.locals) (hf : kc + rm.cells ≤ R.cells ∧ ks + rm.slots ≤ R.slots) (isC isR : List Nat) (hC : isC.map (fun i => X[i]?) = wc.map some) (hW : isR.map (fun i => X[i]?) = wr.map some) (hnC : va_nd isC = true) (hnR : va_nd isR = true) (hdis : ∀ i ∈ isR, i ∉ isC) (hn : As.length = n) (hs : (rest.map fun v => v.category).sum ≤ 8) (hst : st = As.reverse ++ rest) (d : decode cc pc = .ok (.invokestatic idx, 3)) (kk : ∀ (r : Int32) (u : S), post r u → J p l e R s m args below meth c Q D A nL ((wr ++ ws' u) ++ T) lv (kc + rm.cells) (ks + rm.slots) (pc + 3) (.int r :: rest)) : J p l e R s m args below meth c Q D A nL (X ++ T) lv kc ks pc st := fun H L ls hP hD hS hl => w_iT C isC isR hC hW hnC hnR hdis hP hD hS hl (r_SN C K K2 hnw hM hR hf ((pf_P hP).sub isC (fm_of hC)) ((pf_D hD).sub isC hnC hC) hl hn hs hst d) kk
theorem w_iP (C : Cx p s m args meth c D y A cc nL own nm) {S : Type} {post : Int32 → S → Prop} {ws' : S → va_W} {T' : S → va_W} (isC isR : List Nat) (hC : isC.map (fun i => X[i]?) = wc.map some) (hW : isR.map (fun i => X[i]?) = wr.map some) (hnC : va_nd isC = true) (hnR : va_nd isR = true) (hdis : ∀ i ∈ isR, i ∉ isC) {H : Heap} {L : List Loc} {ls : Array Slot} (hP : va_P D classes (X ++ T) H) (hD : va_D A (X ++ T)) (hS : va_S A s.heap H L) (hl : lv_has ls nL lv) {a : Array Value} (run : va_Run p l e R s m args below meth c H L kc ks rm.cells rm.slots (F0 m pc ls st) rest (va_Qi post (WQ D (va_A (wc ++ T) H.size) (fun u => ws' u ++ T' u)) (va_A (wc ++ T) H.size) a) (va_A (wc ++ T) H.size)) (kk : ∀ (r : Int32) (u : S), post r u → J p l e R s m args below meth c Q D A nL ((wr ++ ws' u) ++ T' u) lv (kc + rm.cells) (ks + rm.slots) (pc + 3) (.int r :: rest)) : W p l e R s m args below meth c H L kc ks Q (F0 m pc ls st) := by
  have hFc := va_freeP (cx := wc) hD hS C.ha isC hC
  refine va_calli run hS (fun q _ h => hFc q h) hFc (fun r u t H1 L1 ht hvm hw hB hz1 hk1 hS1 => ?_)
  obtain ⟨hP1, hD1⟩ := hB
  rw [ht] at hP1
  obtain ⟨hP2, hD2⟩ := va_joinP (wr := wr) (rx := ws' u) (pl1 := T' u) hP hD isC isR hC hW hnR hdis hk1 hFc hP1 hD1
  exact kk r u hw H1 L1 ls hP2 hD2 hS1 hl
theorem j_callViP (C : Cx p s m args meth c D y A cc nL own nm) {S : Type} {post : Int32 → S → Prop} {ws' : S → va_W} {T' : S → va_W} {rt : FieldType} {a : Nat} (hM : CT l D y f b mL (some rt) rm (.ref a :: As) (wc ++ T) (QI D (wc ++ T) post (fun u => ws' u ++ T' u))) (K : KW own idx f b mL (some rt) n) (K2 : Cond.instanceMethod f ∈ TB ∧ Cond.selects f.cls f f ∈ TB) (q0 ci : Nat) {fs : List Value} {U : u_T} {N : Nat} (he : (wc ++ T)[q0]? = some (a, .inr (ci, fs))) (hc : classes[ci]? = some (f.cls, U, N)) (hR : rm.frames + 1 ≤ R.frames ∧ 8 + (mL + 11) + rm.locals ≤ R.locals) (hf : kc + rm.cells ≤ R.cells ∧ ks + rm.slots ≤ R.slots) (isC isR : List Nat) (hC : isC.map (fun i => X[i]?) = wc.map some) (hW : isR.map (fun i => X[i]?) = wr.map some) (hnC : va_nd isC = true) (hnR : va_nd isR = true) (hdis : ∀ i ∈ isR, i ∉ isC) (hn : As.length = n) (hs : (rest.map fun v => v.category).sum ≤ 8) (hst : st = As.reverse ++ .ref a :: rest) (d : decode cc pc = .ok (.invokevirtual idx, 3)) (kk : ∀ (r : Int32) (u : S), post r u → J p l e R s m args below meth c Q D A nL ((wr ++ ws' u) ++ T' u) lv (kc + rm.cells) (ks + rm.slots) (pc + 3) (.int r :: rest)) : J p l e R s m args below meth c Q D A nL (X ++ T) lv kc ks pc st := fun H L ls hP hD hS hl => w_iP C isC isR hC hW hnC hnR hdis hP hD hS hl (r_V C K K2 q0 ci he hc hM hR hf (hP.part isC hC) (hD.part isC hnC hC) hl hn hs hst d) kk
theorem j_callSiP (C : Cx p s m args meth c D y A cc nL own nm) {S : Type} {post : Int32 → S → Prop} {ws' : S → va_W} {T' : S → va_W} {rt : FieldType} (hM : CT l D y f b mL (some rt) rm As (wc ++ T) (QI D (wc ++ T) post (fun u => ws' u ++ T' u))) (K : KW own idx f b mL (some rt) n) (K2 : Cond.static f ∈ TB) (hR : rm.frames + 1 ≤ R.frames ∧ 8 + (mL + 11) + rm.locals ≤ R.locals) (hf : kc + rm.cells ≤ R.cells ∧ ks + rm.slots ≤ R.slots) (isC isR : List Nat) (hC : isC.map (fun i => X[i]?) = wc.map some) (hW : isR.map (fun i => X[i]?) = wr.map some) (hnC : va_nd isC = true) (hnR : va_nd isR = true) (hdis : ∀ i ∈ isR, i ∉ isC) (hn : As.length = n) (hs : (rest.map fun v => v.category).sum ≤ 8) (hst : st = As.reverse ++ rest) (d : decode cc pc = .ok (.invokestatic idx, 3)) (kk : ∀ (r : Int32) (u : S), post r u → J p l e R s m args below meth c Q D A nL ((wr ++ ws' u) ++ T' u) lv (kc + rm.cells) (ks + rm.slots) (pc + 3) (.int r :: rest)) : J p l e R s m args below meth c Q D A nL (X ++ T) lv kc ks pc st := fun H L ls hP hD hS hl => w_iP C isC isR hC hW hnC hnR hdis hP hD hS hl (r_S C K K2 hM hR hf (hP.part isC hC) (hD.part isC hnC hC) hl hn hs hst d) kk
theorem j_callSNiP (C : Cx p s m args meth c D y A cc nL own nm) {S : Type} {post : Int32 → S → Prop} {ws' : S → va_W} {T' : S → va_W} {rt : FieldType} (hM : CT l D y f b mL (some rt) rm As (wc ++ T) (QI D (wc ++ T) post (fun u => ws' u ++ T' u))) {host : String} (K : KN own idx f b mL (some rt) n) (K2 : Cond.static f ∈ TB) (hnw : va_Nw (.methodLinkNest own idx f host) s) (hR : rm.frames + 1 ≤ R.frames ∧ 8 + (mL + 11) + rm.locals ≤ R.locals) (hf : kc + rm.cells ≤ R.cells ∧ ks + rm.slots ≤ R.slots) (isC isR : List Nat) (hC : isC.map (fun i => X[i]?) = wc.map some) (hW : isR.map (fun i => X[i]?) = wr.map some) (hnC : va_nd isC = true) (hnR : va_nd isR = true) (hdis : ∀ i ∈ isR, i ∉ isC) (hn : As.length = n) (hs : (rest.map fun v => v.category).sum ≤ 8) (hst : st = As.reverse ++ rest) (d : decode cc pc = .ok (.invokestatic idx, 3)) (kk : ∀ (r : Int32) (u : S), post r u → J p l e R s m args below meth c Q D A nL ((wr ++ ws' u) ++ T' u) lv (kc + rm.cells) (ks + rm.slots) (pc + 3) (.int r :: rest)) : J p l e R s m args below meth c Q D A nL (X ++ T) lv kc ks pc st := fun H L ls hP hD hS hl => w_iP C isC isR hC hW hnC hnR hdis hP hD hS hl (r_SN C K K2 hnw hM hR hf (hP.part isC hC) (hD.part isC hnC hC) hl hn hs hst d) kk
theorem w_lT (C : Cx p s m args meth c D y A cc nL own nm) {S : Type} {post : Int64 → S → Prop} {ws' : S → va_W} (isC isR : List Nat) (hC : isC.map (fun i => X[i]?) = wc.map some) (hW : isR.map (fun i => X[i]?) = wr.map some) (hnC : va_nd isC = true) (hnR : va_nd isR = true) (hdis : ∀ i ∈ isR, i ∉ isC) {H : Heap} {L : List Loc} {ls : Array Slot} (hP : va_P D classes (X ++ T) H) (hD : va_D A (X ++ T)) (hS : va_S A s.heap H L) (hl : lv_has ls nL lv) {a : Array Value} (run : va_Run p l e R s m args below meth c H L kc ks rm.cells rm.slots (F0 m pc ls st) rest (va_Ql post (WQ D (va_A wc H.size) ws') (va_A wc H.size) a) (va_A wc H.size)) (kk : ∀ (r : Int64) (u : S), post r u → J p l e R s m args below meth c Q D A nL ((wr ++ ws' u) ++ T) lv (kc + rm.cells) (ks + rm.slots) (pc + 3) (.long r :: rest)) : W p l e R s m args below meth c H L kc ks Q (F0 m pc ls st) := by
  have hFc := va_free (wc := wc) (pf_D hD) hS C.ha isC hC
  refine va_calll run hS (fun q _ h => hFc q h) hFc (fun r u t H1 L1 ht hvm hw hB hz1 hk1 hS1 => ?_)
  obtain ⟨hP1, hD1⟩ := hB
  rw [ht] at hP1
  obtain ⟨hP2, hD2⟩ := va_joinQ (wr := wr) (w1 := ws' u) hP hD isC isR hC hW hnR hdis hk1 hFc hP1 hD1
  exact kk r u hw H1 L1 ls hP2 hD2 hS1 hl
theorem j_callVlT (C : Cx p s m args meth c D y A cc nL own nm) {S : Type} {post : Int64 → S → Prop} {ws' : S → va_W} {a : Nat} (hM : CT l D y f b mL (some .long) rm (.ref a :: As) wc (QL D wc post ws')) (K : KW own idx f b mL (some .long) n) (K2 : Cond.instanceMethod f ∈ TB ∧ Cond.selects f.cls f f ∈ TB) (q0 ci : Nat) {fs : List Value} {U : u_T} {N : Nat} (he : wc[q0]? = some (a, .inr (ci, fs))) (hc : classes[ci]? = some (f.cls, U, N)) (hR : rm.frames + 1 ≤ R.frames ∧ 8 + (mL + 11) + rm.locals ≤ R.locals) (hf : kc + rm.cells ≤ R.cells ∧ ks + rm.slots ≤ R.slots) (isC isR : List Nat) (hC : isC.map (fun i => X[i]?) = wc.map some) (hW : isR.map (fun i => X[i]?) = wr.map some) (hnC : va_nd isC = true) (hnR : va_nd isR = true) (hdis : ∀ i ∈ isR, i ∉ isC) (hn : As.length = n) (hs : (rest.map fun v => v.category).sum ≤ 8) (hst : st = As.reverse ++ .ref a :: rest) (d : decode cc pc = .ok (.invokevirtual idx, 3)) (kk : ∀ (r : Int64) (u : S), post r u → J p l e R s m args below meth c Q D A nL ((wr ++ ws' u) ++ T) lv (kc + rm.cells) (ks + rm.slots) (pc + 3) (.long r :: rest)) : J p l e R s m args below meth c Q D A nL (X ++ T) lv kc ks pc st := fun H L ls hP hD hS hl => w_lT C isC isR hC hW hnC hnR hdis hP hD hS hl (r_V C K K2 q0 ci he hc hM hR hf ((pf_P hP).sub isC (fm_of hC)) ((pf_D hD).sub isC hnC hC) hl hn hs hst d) kk
theorem j_callSlT (C : Cx p s m args meth c D y A cc nL own nm) {S : Type} {post : Int64 → S → Prop} {ws' : S → va_W} (hM : CT l D y f b mL (some .long) rm As wc (QL D wc post ws')) (K : KW own idx f b mL (some .long) n) (K2 : Cond.static f ∈ TB) (hR : rm.frames + 1 ≤ R.frames ∧ 8 + (mL + 11) + rm.locals ≤ R.locals) (hf : kc + rm.cells ≤ R.cells ∧ ks + rm.slots ≤ R.slots) (isC isR : List Nat) (hC : isC.map (fun i => X[i]?) = wc.map some) (hW : isR.map (fun i => X[i]?) = wr.map some) (hnC : va_nd isC = true) (hnR : va_nd isR = true) (hdis : ∀ i ∈ isR, i ∉ isC) (hn : As.length = n) (hs : (rest.map fun v => v.category).sum ≤ 8) (hst : st = As.reverse ++ rest) (d : decode cc pc = .ok (.invokestatic idx, 3)) (kk : ∀ (r : Int64) (u : S), post r u → J p l e R s m args below meth c Q D A nL ((wr ++ ws' u) ++ T) lv (kc + rm.cells) (ks + rm.slots) (pc + 3) (.long r :: rest)) : J p l e R s m args below meth c Q D A nL (X ++ T) lv kc ks pc st := fun H L ls hP hD hS hl => w_lT C isC isR hC hW hnC hnR hdis hP hD hS hl (r_S C K K2 hM hR hf ((pf_P hP).sub isC (fm_of hC)) ((pf_D hD).sub isC hnC hC) hl hn hs hst d) kk
theorem w_lP (C : Cx p s m args meth c D y A cc nL own nm) {S : Type} {post : Int64 → S → Prop} {ws' : S → va_W} {T' : S → va_W} (isC isR : List Nat) (hC : isC.map (fun i => X[i]?) = wc.map some) (hW : isR.map (fun i => X[i]?) = wr.map some) (hnC : va_nd isC = true) (hnR : va_nd isR = true) (hdis : ∀ i ∈ isR, i ∉ isC) {H : Heap} {L : List Loc} {ls : Array Slot} (hP : va_P D classes (X ++ T) H) (hD : va_D A (X ++ T)) (hS : va_S A s.heap H L) (hl : lv_has ls nL lv) {a : Array Value} (run : va_Run p l e R s m args below meth c H L kc ks rm.cells rm.slots (F0 m pc ls st) rest (va_Ql post (WQ D (va_A (wc ++ T) H.size) (fun u => ws' u ++ T' u)) (va_A (wc ++ T) H.size) a) (va_A (wc ++ T) H.size)) (kk : ∀ (r : Int64) (u : S), post r u → J p l e R s m args below meth c Q D A nL ((wr ++ ws' u) ++ T' u) lv (kc + rm.cells) (ks + rm.slots) (pc + 3) (.long r :: rest)) : W p l e R s m args below meth c H L kc ks Q (F0 m pc ls st) := by
  have hFc := va_freeP (cx := wc) hD hS C.ha isC hC
  refine va_calll run hS (fun q _ h => hFc q h) hFc (fun r u t H1 L1 ht hvm hw hB hz1 hk1 hS1 => ?_)
  obtain ⟨hP1, hD1⟩ := hB
  rw [ht] at hP1
  obtain ⟨hP2, hD2⟩ := va_joinP (wr := wr) (rx := ws' u) (pl1 := T' u) hP hD isC isR hC hW hnR hdis hk1 hFc hP1 hD1
  exact kk r u hw H1 L1 ls hP2 hD2 hS1 hl
theorem j_callVlP (C : Cx p s m args meth c D y A cc nL own nm) {S : Type} {post : Int64 → S → Prop} {ws' : S → va_W} {T' : S → va_W} {a : Nat} (hM : CT l D y f b mL (some .long) rm (.ref a :: As) (wc ++ T) (QL D (wc ++ T) post (fun u => ws' u ++ T' u))) (K : KW own idx f b mL (some .long) n) (K2 : Cond.instanceMethod f ∈ TB ∧ Cond.selects f.cls f f ∈ TB) (q0 ci : Nat) {fs : List Value} {U : u_T} {N : Nat} (he : (wc ++ T)[q0]? = some (a, .inr (ci, fs))) (hc : classes[ci]? = some (f.cls, U, N)) (hR : rm.frames + 1 ≤ R.frames ∧ 8 + (mL + 11) + rm.locals ≤ R.locals) (hf : kc + rm.cells ≤ R.cells ∧ ks + rm.slots ≤ R.slots) (isC isR : List Nat) (hC : isC.map (fun i => X[i]?) = wc.map some) (hW : isR.map (fun i => X[i]?) = wr.map some) (hnC : va_nd isC = true) (hnR : va_nd isR = true) (hdis : ∀ i ∈ isR, i ∉ isC) (hn : As.length = n) (hs : (rest.map fun v => v.category).sum ≤ 8) (hst : st = As.reverse ++ .ref a :: rest) (d : decode cc pc = .ok (.invokevirtual idx, 3)) (kk : ∀ (r : Int64) (u : S), post r u → J p l e R s m args below meth c Q D A nL ((wr ++ ws' u) ++ T' u) lv (kc + rm.cells) (ks + rm.slots) (pc + 3) (.long r :: rest)) : J p l e R s m args below meth c Q D A nL (X ++ T) lv kc ks pc st := fun H L ls hP hD hS hl => w_lP C isC isR hC hW hnC hnR hdis hP hD hS hl (r_V C K K2 q0 ci he hc hM hR hf (hP.part isC hC) (hD.part isC hnC hC) hl hn hs hst d) kk
theorem j_callSlP (C : Cx p s m args meth c D y A cc nL own nm) {S : Type} {post : Int64 → S → Prop} {ws' : S → va_W} {T' : S → va_W} (hM : CT l D y f b mL (some .long) rm As (wc ++ T) (QL D (wc ++ T) post (fun u => ws' u ++ T' u))) (K : KW own idx f b mL (some .long) n) (K2 : Cond.static f ∈ TB) (hR : rm.frames + 1 ≤ R.frames ∧ 8 + (mL + 11) + rm.locals ≤ R.locals) (hf : kc + rm.cells ≤ R.cells ∧ ks + rm.slots ≤ R.slots) (isC isR : List Nat) (hC : isC.map (fun i => X[i]?) = wc.map some) (hW : isR.map (fun i => X[i]?) = wr.map some) (hnC : va_nd isC = true) (hnR : va_nd isR = true) (hdis : ∀ i ∈ isR, i ∉ isC) (hn : As.length = n) (hs : (rest.map fun v => v.category).sum ≤ 8) (hst : st = As.reverse ++ rest) (d : decode cc pc = .ok (.invokestatic idx, 3)) (kk : ∀ (r : Int64) (u : S), post r u → J p l e R s m args below meth c Q D A nL ((wr ++ ws' u) ++ T' u) lv (kc + rm.cells) (ks + rm.slots) (pc + 3) (.long r :: rest)) : J p l e R s m args below meth c Q D A nL (X ++ T) lv kc ks pc st := fun H L ls hP hD hS hl => w_lP C isC isR hC hW hnC hnR hdis hP hD hS hl (r_S C K K2 hM hR hf (hP.part isC hC) (hD.part isC hnC hC) hl hn hs hst d) kk
theorem w_vT (C : Cx p s m args meth c D y A cc nL own nm) {S : Type} {post : S → Prop} {ws' : S → va_W} (isC isR : List Nat) (hC : isC.map (fun i => X[i]?) = wc.map some) (hW : isR.map (fun i => X[i]?) = wr.map some) (hnC : va_nd isC = true) (hnR : va_nd isR = true) (hdis : ∀ i ∈ isR, i ∉ isC) {H : Heap} {L : List Loc} {ls : Array Slot} (hP : va_P D classes (X ++ T) H) (hD : va_D A (X ++ T)) (hS : va_S A s.heap H L) (hl : lv_has ls nL lv) {a : Array Value} (run : va_Run p l e R s m args below meth c H L kc ks rm.cells rm.slots (F0 m pc ls st) rest (va_Qv post (WQ D (va_A wc H.size) ws') (va_A wc H.size) a) (va_A wc H.size)) (kk : ∀ (u : S), post u → J p l e R s m args below meth c Q D A nL ((wr ++ ws' u) ++ T) lv (kc + rm.cells) (ks + rm.slots) (pc + 3) rest) : W p l e R s m args below meth c H L kc ks Q (F0 m pc ls st) := by
  have hFc := va_free (wc := wc) (pf_D hD) hS C.ha isC hC
  refine va_callv run hS (fun q _ h => hFc q h) hFc (fun u t H1 L1 ht hvm hw hB hz1 hk1 hS1 => ?_)
  obtain ⟨hP1, hD1⟩ := hB
  rw [ht] at hP1
  obtain ⟨hP2, hD2⟩ := va_joinQ (wr := wr) (w1 := ws' u) hP hD isC isR hC hW hnR hdis hk1 hFc hP1 hD1
  exact kk u hw H1 L1 ls hP2 hD2 hS1 hl
theorem j_callVvT (C : Cx p s m args meth c D y A cc nL own nm) {S : Type} {post : S → Prop} {ws' : S → va_W} {a : Nat} (hM : CT l D y f b mL none rm (.ref a :: As) wc (QV D wc post ws')) (K : KW own idx f b mL none n) (K2 : Cond.instanceMethod f ∈ TB ∧ Cond.selects f.cls f f ∈ TB) (q0 ci : Nat) {fs : List Value} {U : u_T} {N : Nat} (he : wc[q0]? = some (a, .inr (ci, fs))) (hc : classes[ci]? = some (f.cls, U, N)) (hR : rm.frames + 1 ≤ R.frames ∧ 8 + (mL + 11) + rm.locals ≤ R.locals) (hf : kc + rm.cells ≤ R.cells ∧ ks + rm.slots ≤ R.slots) (isC isR : List Nat) (hC : isC.map (fun i => X[i]?) = wc.map some) (hW : isR.map (fun i => X[i]?) = wr.map some) (hnC : va_nd isC = true) (hnR : va_nd isR = true) (hdis : ∀ i ∈ isR, i ∉ isC) (hn : As.length = n) (hs : (rest.map fun v => v.category).sum ≤ 8) (hst : st = As.reverse ++ .ref a :: rest) (d : decode cc pc = .ok (.invokevirtual idx, 3)) (kk : ∀ (u : S), post u → J p l e R s m args below meth c Q D A nL ((wr ++ ws' u) ++ T) lv (kc + rm.cells) (ks + rm.slots) (pc + 3) rest) : J p l e R s m args below meth c Q D A nL (X ++ T) lv kc ks pc st := fun H L ls hP hD hS hl => w_vT C isC isR hC hW hnC hnR hdis hP hD hS hl (r_V C K K2 q0 ci he hc hM hR hf ((pf_P hP).sub isC (fm_of hC)) ((pf_D hD).sub isC hnC hC) hl hn hs hst d) kk
theorem j_callSvT (C : Cx p s m args meth c D y A cc nL own nm) {S : Type} {post : S → Prop} {ws' : S → va_W} (hM : CT l D y f b mL none rm As wc (QV D wc post ws')) (K : KW own idx f b mL none n) (K2 : Cond.static f ∈ TB) (hR : rm.frames + 1 ≤ R.frames ∧ 8 + (mL + 11) + rm.locals ≤ R.locals) (hf : kc + rm.cells ≤ R.cells ∧ ks + rm.slots ≤ R.slots) (isC isR : List Nat) (hC : isC.map (fun i => X[i]?) = wc.map some) (hW : isR.map (fun i => X[i]?) = wr.map some) (hnC : va_nd isC = true) (hnR : va_nd isR = true) (hdis : ∀ i ∈ isR, i ∉ isC) (hn : As.length = n) (hs : (rest.map fun v => v.category).sum ≤ 8) (hst : st = As.reverse ++ rest) (d : decode cc pc = .ok (.invokestatic idx, 3)) (kk : ∀ (u : S), post u → J p l e R s m args below meth c Q D A nL ((wr ++ ws' u) ++ T) lv (kc + rm.cells) (ks + rm.slots) (pc + 3) rest) : J p l e R s m args below meth c Q D A nL (X ++ T) lv kc ks pc st := fun H L ls hP hD hS hl => w_vT C isC isR hC hW hnC hnR hdis hP hD hS hl (r_S C K K2 hM hR hf ((pf_P hP).sub isC (fm_of hC)) ((pf_D hD).sub isC hnC hC) hl hn hs hst d) kk
theorem j_callIvT (C : Cx p s m args meth c D y A cc nL own nm) {S : Type} {post : S → Prop} {ws' : S → va_W} {a : Nat} (hM : CT l D y f b mL none rm (.ref a :: As) wc (QV D wc post ws')) (K : KW own idx f b mL none n) (K2 : f.name = "<init>" ∧ Cond.instanceMethod f ∈ TB) (hR : rm.frames + 1 ≤ R.frames ∧ 8 + (mL + 11) + rm.locals ≤ R.locals) (hf : kc + rm.cells ≤ R.cells ∧ ks + rm.slots ≤ R.slots) (isC isR : List Nat) (hC : isC.map (fun i => X[i]?) = wc.map some) (hW : isR.map (fun i => X[i]?) = wr.map some) (hnC : va_nd isC = true) (hnR : va_nd isR = true) (hdis : ∀ i ∈ isR, i ∉ isC) (hn : As.length = n) (hs : (rest.map fun v => v.category).sum ≤ 8) (hst : st = As.reverse ++ .ref a :: rest) (d : decode cc pc = .ok (.invokespecial idx, 3)) (kk : ∀ (u : S), post u → J p l e R s m args below meth c Q D A nL ((wr ++ ws' u) ++ T) lv (kc + rm.cells) (ks + rm.slots) (pc + 3) rest) : J p l e R s m args below meth c Q D A nL (X ++ T) lv kc ks pc st := fun H L ls hP hD hS hl => w_vT C isC isR hC hW hnC hnR hdis hP hD hS hl (r_I C K K2 hM hR hf ((pf_P hP).sub isC (fm_of hC)) ((pf_D hD).sub isC hnC hC) hl hn hs hst d) kk
theorem j_callINvT (C : Cx p s m args meth c D y A cc nL own nm) {S : Type} {post : S → Prop} {ws' : S → va_W} {a : Nat} (hM : CT l D y f b mL none rm (.ref a :: As) wc (QV D wc post ws')) {host : String} (K : KN own idx f b mL none n) (K2 : f.name = "<init>" ∧ Cond.instanceMethod f ∈ TB) (hnw : va_Nw (.methodLinkNest own idx f host) s) (hR : rm.frames + 1 ≤ R.frames ∧ 8 + (mL + 11) + rm.locals ≤ R.locals) (hf : kc + rm.cells ≤ R.cells ∧ ks + rm.slots ≤ R.slots) (isC isR : List Nat) (hC : isC.map (fun i => X[i]?) = wc.map some) (hW : isR.map (fun i => X[i]?) = wr.map some) (hnC : va_nd isC = true) (hnR : va_nd isR = true) (hdis : ∀ i ∈ isR, i ∉ isC) (hn : As.length = n) (hs : (rest.map fun v => v.category).sum ≤ 8) (hst : st = As.reverse ++ .ref a :: rest) (d : decode cc pc = .ok (.invokespecial idx, 3)) (kk : ∀ (u : S), post u → J p l e R s m args below meth c Q D A nL ((wr ++ ws' u) ++ T) lv (kc + rm.cells) (ks + rm.slots) (pc + 3) rest) : J p l e R s m args below meth c Q D A nL (X ++ T) lv kc ks pc st := fun H L ls hP hD hS hl => w_vT C isC isR hC hW hnC hnR hdis hP hD hS hl (r_IN C K K2 hnw hM hR hf ((pf_P hP).sub isC (fm_of hC)) ((pf_D hD).sub isC hnC hC) hl hn hs hst d) kk
theorem w_vP (C : Cx p s m args meth c D y A cc nL own nm) {S : Type} {post : S → Prop} {ws' : S → va_W} {T' : S → va_W} (isC isR : List Nat) (hC : isC.map (fun i => X[i]?) = wc.map some) (hW : isR.map (fun i => X[i]?) = wr.map some) (hnC : va_nd isC = true) (hnR : va_nd isR = true) (hdis : ∀ i ∈ isR, i ∉ isC) {H : Heap} {L : List Loc} {ls : Array Slot} (hP : va_P D classes (X ++ T) H) (hD : va_D A (X ++ T)) (hS : va_S A s.heap H L) (hl : lv_has ls nL lv) {a : Array Value} (run : va_Run p l e R s m args below meth c H L kc ks rm.cells rm.slots (F0 m pc ls st) rest (va_Qv post (WQ D (va_A (wc ++ T) H.size) (fun u => ws' u ++ T' u)) (va_A (wc ++ T) H.size) a) (va_A (wc ++ T) H.size)) (kk : ∀ (u : S), post u → J p l e R s m args below meth c Q D A nL ((wr ++ ws' u) ++ T' u) lv (kc + rm.cells) (ks + rm.slots) (pc + 3) rest) : W p l e R s m args below meth c H L kc ks Q (F0 m pc ls st) := by
  have hFc := va_freeP (cx := wc) hD hS C.ha isC hC
  refine va_callv run hS (fun q _ h => hFc q h) hFc (fun u t H1 L1 ht hvm hw hB hz1 hk1 hS1 => ?_)
  obtain ⟨hP1, hD1⟩ := hB
  rw [ht] at hP1
  obtain ⟨hP2, hD2⟩ := va_joinP (wr := wr) (rx := ws' u) (pl1 := T' u) hP hD isC isR hC hW hnR hdis hk1 hFc hP1 hD1
  exact kk u hw H1 L1 ls hP2 hD2 hS1 hl
theorem j_callVvP (C : Cx p s m args meth c D y A cc nL own nm) {S : Type} {post : S → Prop} {ws' : S → va_W} {T' : S → va_W} {a : Nat} (hM : CT l D y f b mL none rm (.ref a :: As) (wc ++ T) (QV D (wc ++ T) post (fun u => ws' u ++ T' u))) (K : KW own idx f b mL none n) (K2 : Cond.instanceMethod f ∈ TB ∧ Cond.selects f.cls f f ∈ TB) (q0 ci : Nat) {fs : List Value} {U : u_T} {N : Nat} (he : (wc ++ T)[q0]? = some (a, .inr (ci, fs))) (hc : classes[ci]? = some (f.cls, U, N)) (hR : rm.frames + 1 ≤ R.frames ∧ 8 + (mL + 11) + rm.locals ≤ R.locals) (hf : kc + rm.cells ≤ R.cells ∧ ks + rm.slots ≤ R.slots) (isC isR : List Nat) (hC : isC.map (fun i => X[i]?) = wc.map some) (hW : isR.map (fun i => X[i]?) = wr.map some) (hnC : va_nd isC = true) (hnR : va_nd isR = true) (hdis : ∀ i ∈ isR, i ∉ isC) (hn : As.length = n) (hs : (rest.map fun v => v.category).sum ≤ 8) (hst : st = As.reverse ++ .ref a :: rest) (d : decode cc pc = .ok (.invokevirtual idx, 3)) (kk : ∀ (u : S), post u → J p l e R s m args below meth c Q D A nL ((wr ++ ws' u) ++ T' u) lv (kc + rm.cells) (ks + rm.slots) (pc + 3) rest) : J p l e R s m args below meth c Q D A nL (X ++ T) lv kc ks pc st := fun H L ls hP hD hS hl => w_vP C isC isR hC hW hnC hnR hdis hP hD hS hl (r_V C K K2 q0 ci he hc hM hR hf (hP.part isC hC) (hD.part isC hnC hC) hl hn hs hst d) kk
theorem j_callSvP (C : Cx p s m args meth c D y A cc nL own nm) {S : Type} {post : S → Prop} {ws' : S → va_W} {T' : S → va_W} (hM : CT l D y f b mL none rm As (wc ++ T) (QV D (wc ++ T) post (fun u => ws' u ++ T' u))) (K : KW own idx f b mL none n) (K2 : Cond.static f ∈ TB) (hR : rm.frames + 1 ≤ R.frames ∧ 8 + (mL + 11) + rm.locals ≤ R.locals) (hf : kc + rm.cells ≤ R.cells ∧ ks + rm.slots ≤ R.slots) (isC isR : List Nat) (hC : isC.map (fun i => X[i]?) = wc.map some) (hW : isR.map (fun i => X[i]?) = wr.map some) (hnC : va_nd isC = true) (hnR : va_nd isR = true) (hdis : ∀ i ∈ isR, i ∉ isC) (hn : As.length = n) (hs : (rest.map fun v => v.category).sum ≤ 8) (hst : st = As.reverse ++ rest) (d : decode cc pc = .ok (.invokestatic idx, 3)) (kk : ∀ (u : S), post u → J p l e R s m args below meth c Q D A nL ((wr ++ ws' u) ++ T' u) lv (kc + rm.cells) (ks + rm.slots) (pc + 3) rest) : J p l e R s m args below meth c Q D A nL (X ++ T) lv kc ks pc st := fun H L ls hP hD hS hl => w_vP C isC isR hC hW hnC hnR hdis hP hD hS hl (r_S C K K2 hM hR hf (hP.part isC hC) (hD.part isC hnC hC) hl hn hs hst d) kk
theorem j_callIvP (C : Cx p s m args meth c D y A cc nL own nm) {S : Type} {post : S → Prop} {ws' : S → va_W} {T' : S → va_W} {a : Nat} (hM : CT l D y f b mL none rm (.ref a :: As) (wc ++ T) (QV D (wc ++ T) post (fun u => ws' u ++ T' u))) (K : KW own idx f b mL none n) (K2 : f.name = "<init>" ∧ Cond.instanceMethod f ∈ TB) (hR : rm.frames + 1 ≤ R.frames ∧ 8 + (mL + 11) + rm.locals ≤ R.locals) (hf : kc + rm.cells ≤ R.cells ∧ ks + rm.slots ≤ R.slots) (isC isR : List Nat) (hC : isC.map (fun i => X[i]?) = wc.map some) (hW : isR.map (fun i => X[i]?) = wr.map some) (hnC : va_nd isC = true) (hnR : va_nd isR = true) (hdis : ∀ i ∈ isR, i ∉ isC) (hn : As.length = n) (hs : (rest.map fun v => v.category).sum ≤ 8) (hst : st = As.reverse ++ .ref a :: rest) (d : decode cc pc = .ok (.invokespecial idx, 3)) (kk : ∀ (u : S), post u → J p l e R s m args below meth c Q D A nL ((wr ++ ws' u) ++ T' u) lv (kc + rm.cells) (ks + rm.slots) (pc + 3) rest) : J p l e R s m args below meth c Q D A nL (X ++ T) lv kc ks pc st := fun H L ls hP hD hS hl => w_vP C isC isR hC hW hnC hnR hdis hP hD hS hl (r_I C K K2 hM hR hf (hP.part isC hC) (hD.part isC hnC hC) hl hn hs hst d) kk
theorem j_callINvP (C : Cx p s m args meth c D y A cc nL own nm) {S : Type} {post : S → Prop} {ws' : S → va_W} {T' : S → va_W} {a : Nat} (hM : CT l D y f b mL none rm (.ref a :: As) (wc ++ T) (QV D (wc ++ T) post (fun u => ws' u ++ T' u))) {host : String} (K : KN own idx f b mL none n) (K2 : f.name = "<init>" ∧ Cond.instanceMethod f ∈ TB) (hnw : va_Nw (.methodLinkNest own idx f host) s) (hR : rm.frames + 1 ≤ R.frames ∧ 8 + (mL + 11) + rm.locals ≤ R.locals) (hf : kc + rm.cells ≤ R.cells ∧ ks + rm.slots ≤ R.slots) (isC isR : List Nat) (hC : isC.map (fun i => X[i]?) = wc.map some) (hW : isR.map (fun i => X[i]?) = wr.map some) (hnC : va_nd isC = true) (hnR : va_nd isR = true) (hdis : ∀ i ∈ isR, i ∉ isC) (hn : As.length = n) (hs : (rest.map fun v => v.category).sum ≤ 8) (hst : st = As.reverse ++ .ref a :: rest) (d : decode cc pc = .ok (.invokespecial idx, 3)) (kk : ∀ (u : S), post u → J p l e R s m args below meth c Q D A nL ((wr ++ ws' u) ++ T' u) lv (kc + rm.cells) (ks + rm.slots) (pc + 3) rest) : J p l e R s m args below meth c Q D A nL (X ++ T) lv kc ks pc st := fun H L ls hP hD hS hl => w_vP C isC isR hC hW hnC hnR hdis hP hD hS hl (r_IN C K K2 hnw hM hR hf (hP.part isC hC) (hD.part isC hnC hC) hl hn hs hst d) kk
theorem j_iretW (C : Cx p s m args meth c D y A cc nL own nm) {v : Int32} {rt : FieldType} (hr : meth.sig.returnType = some rt) (hn : narrow rt (.int v) = .int v) {S : Type} {post : Int32 → S → Prop} {ws' : S → va_W} (u : S) (hp : post v u) (hw : ws = ws' u) {mc ms : Nat} (h1 : kc ≤ mc) (h2 : ks ≤ ms) (d : decode cc pc = .ok (.ireturn, 1)) : J p l e R s m args below meth c (MQ below (va_Qi post (WQ D A ws') A) args s mc ms A) D A nL ws lv kc ks pc [.int v] := fun H L ls hP hD hS hl => W.widen h1 h2 (W.zret C.x C.b hr hn (fun t ht hW => (by
    have hPw : va_P D classes (ws' u) H := hw ▸ hP
    have hDw : va_D A (ws' u) := hw ▸ hD
    exact ⟨⟨v, u, rfl, hp, by rw [ht]; exact hPw, hDw⟩, hS.F ht⟩)) hS.2.2 d C.lk)
theorem j_lretW (C : Cx p s m args meth c D y A cc nL own nm) {v : Int64} (hr : meth.sig.returnType = some .long) {S : Type} {post : Int64 → S → Prop} {ws' : S → va_W} (u : S) (hp : post v u) (hw : ws = ws' u) {mc ms : Nat} (h1 : kc ≤ mc) (h2 : ks ≤ ms) (d : decode cc pc = .ok (.lreturn, 1)) : J p l e R s m args below meth c (MQ below (va_Ql post (WQ D A ws') A) args s mc ms A) D A nL ws lv kc ks pc [.long v] := fun H L ls hP hD hS hl => W.widen h1 h2 (W.lret C.x C.b hr (fun t ht hW => (by
    have hPw : va_P D classes (ws' u) H := hw ▸ hP
    have hDw : va_D A (ws' u) := hw ▸ hD
    exact ⟨⟨v, u, rfl, hp, by rw [ht]; exact hPw, hDw⟩, hS.F ht⟩)) hS.2.2 d C.lk)
theorem j_vretW (C : Cx p s m args meth c D y A cc nL own nm) (hr : meth.sig.returnType = none) {S : Type} {post : S → Prop} {ws' : S → va_W} (u : S) (hp : post u) (hw : ws = ws' u) {mc ms : Nat} (h1 : kc ≤ mc) (h2 : ks ≤ ms) (d : decode cc pc = .ok (.return_, 1)) : J p l e R s m args below meth c (MQ below (va_Qv post (WQ D A ws') A) args s mc ms A) D A nL ws lv kc ks pc [] := fun H L ls hP hD hS hl => W.widen h1 h2 (W.vret C.x C.b hr (fun t ht hW => (by
    have hPw : va_P D classes (ws' u) H := hw ▸ hP
    have hDw : va_D A (ws' u) := hw ▸ hD
    exact ⟨⟨u, rfl, hp, by rw [ht]; exact hPw, hDw⟩, hS.F ht⟩)) hS.2.2 d C.lk)
end JT
end
section
section JU
variable {p : Program} {l : Launch} {e : Env} {R : Room} {s : State} {m : MethodId} {args : Array Value} {below : List Frame} {meth : Method} {c : Code} {Q : State → Prop} {D : va_G} {A : Nat → Prop} {nL : Nat} {ws : va_W} {lv : List (Nat × Value)} {kc ks pc : Nat} {st : List Value}
theorem j_lv {lv' : List (Nat × Value)} (h : lv = lv') (kk : J p l e R s m args below meth c Q D A nL ws lv' kc ks pc st) : J p l e R s m args below meth c Q D A nL ws lv kc ks pc st := h ▸ kk
end JU
theorem nb {a b : Nat} (h : Nat.ble a b = true) : a ≤ b := Nat.le_of_ble_eq_true h
theorem nl {a b : Nat} (h : Nat.ble (a + 1) b = true) : a < b := Nat.le_of_ble_eq_true h
theorem vin {i : Int32} {n : Nat} (h : (decide (i < 0) || Nat.ble n i.toNatClampNeg) = false) : vp_in i n := by
  simp only [Bool.or_eq_false_iff, decide_eq_false_iff_not] at h
  intro q
  rcases q with q | q
  · exact h.1 q
  · rw [Nat.ble_eq_true_of_le q] at h
    exact absurd h.2 (by decide)
theorem up_z0 (k : Nat) : upd (fun _ => (0 : Int32)) k 0 = fun _ => 0 := by
  funext j
  simp [upd]
theorem up_z1 (k : Nat) : vp_updL (fun _ => (0 : Int64)) k 0 = fun _ => 0 := by
  funext j
  simp [vp_updL]
theorem cpy_z0 (a b n : Nat) : va_cpy (fun _ => (0 : Int32)) (fun _ => 0) a b n = fun _ => 0 := by
  funext j
  simp [va_cpy]
theorem cpy_z1 (a b n : Nat) : va_cpy (fun _ => (0 : Int64)) (fun _ => 0) a b n = fun _ => 0 := by
  funext j
  simp [va_cpy]
theorem up_le0 {v : Int32} (h : ¬ v < 0) : 0 ≤ v := Int32.not_lt.mp h
theorem nI_ofT {x : Int32} {n : Nat} (h0 : 0 ≤ x.toInt) (h : x.toInt ≤ n) (hn : n < 2 ^ 31) : ∃ j : Nat, j ≤ n ∧ x = nI j := ⟨x.toInt.toNat, by omega, Int32.toInt_inj.mp (by rw [nI_toInt (by omega)]; omega)⟩
theorem nI_lt2 {x : Int32} {n : Nat} (h0 : ¬ x < 0) (h : ¬ nI n ≤ x) (hn : n < 2 ^ 31) : ∃ j : Nat, j < n ∧ x = nI j := by
  obtain ⟨j, hj, rfl⟩ := nI_of h0
  refine ⟨j, ?_, rfl⟩
  rcases Nat.lt_or_ge j n with q | q
  · exact q
  · exact absurd (nI_le q (by omega)) h
theorem nI_ltn {x : Int32} {n : Nat} (h0 : ¬ x < 0) (h : x < nI n) (hn : n < 2 ^ 31) : ∃ j : Nat, j < n ∧ x = nI j := nI_lt2 h0 (Int32.not_le.mpr h) hn
theorem fm_sgn {r z : Int32} (hz : 0 < z.toInt) : (r ^^^ z).toInt < 0 ↔ r.toInt < 0 := by
  have hx : ∀ q : Int32, q.toInt < 0 ↔ q.toBitVec.msb = true := fun q => by
    rw [BitVec.msb_eq_toInt, decide_eq_true_iff]
    exact Iff.rfl
  have hm : z.toBitVec.msb = false := by
    rw [← Bool.not_eq_true, ← hx]
    omega
  rw [hx, hx, Int32.toBitVec_xor, BitVec.msb_xor, hm, Bool.xor_false]
theorem fm_pos {z : Int32} (hp : ¬ z ≤ 0) : 0 < z.toInt := by
  have := Int32.lt_iff_toInt_lt.mp (Int32.not_le.mp hp)
  simpa using this
theorem fm_b {x z : Int32} (hp : ¬ z ≤ 0) : -z.toInt < (x - x / z * z).toInt ∧ (x - x / z * z).toInt < z.toInt := by
  rw [rem_toInt]
  exact tmod_bounds (fm_pos hp)
theorem fm_T {x z : Int32} (hp : ¬ z ≤ 0) (c : 0 ≤ (x ^^^ z)) : 0 ≤ (x - x / z * z).toInt ∧ (x - x / z * z).toInt < z.toInt := by
  refine ⟨?_, (fm_b hp).2⟩
  have h2 := Int32.le_iff_toInt_le.mp c
  rw [(by decide : Int32.toInt 0 = 0)] at h2
  have hx : 0 ≤ x.toInt := by
    by_cases q : x.toInt < 0
    · have h1 := (fm_sgn (fm_pos hp)).mpr q
      omega
    · omega
  rw [rem_toInt]
  exact Int.tmod_nonneg _ hx
theorem fm_0 {x z : Int32} (hp : ¬ z ≤ 0) (c : x - x / z * z = 0) : 0 ≤ (x - x / z * z).toInt ∧ (x - x / z * z).toInt < z.toInt := by
  have := fm_pos hp
  rw [c, (by decide : Int32.toInt 0 = 0)]
  omega
theorem fm_F {x z : Int32} (hp : ¬ z ≤ 0) (c : ¬ 0 ≤ (x ^^^ z)) (c2 : ¬ x - x / z * z = 0) : 0 ≤ (x - x / z * z + z).toInt ∧ (x - x / z * z + z).toInt < z.toInt := by
  have h0 := fm_pos hp
  have hb := fm_b (x := x) hp
  have h1 := Int32.lt_iff_toInt_lt.mp (Int32.not_le.mp c)
  rw [(by decide : Int32.toInt 0 = 0), fm_sgn h0] at h1
  have hn : (x - x / z * z).toInt ≤ 0 := by
    rw [rem_toInt]
    have h3 := Int.tmod_nonneg (a := -x.toInt) z.toInt (by omega)
    rw [Int.neg_tmod] at h3
    omega
  have hne : (x - x / z * z).toInt ≠ 0 := fun e => c2 (Int32.toInt_inj.mp (e.trans (by decide)))
  have hz := z.toInt_lt
  rw [Jvm.Kit.i32_add (by omega) (by omega)]
  omega
theorem vo_of {r c : Int32} {n : Nat} (h : 0 ≤ r.toInt ∧ r.toInt < c.toInt) (hc : c = nI n) (hn : n < 2 ^ 31) : ∃ j : Nat, j < n ∧ r = nI j := by
  rw [hc, nI_toInt hn] at h
  exact ⟨r.toInt.toNat, by omega, Int32.toInt_inj.mp (by rw [nI_toInt (by omega)]; omega)⟩
abbrev LD : Type := (Nat → Int32) × (Nat → Nat → Int32)
abbrev SD : Type := (Nat → Int32) × (Nat → Nat → Int32) × (Nat → Nat → Int64)
section JS
variable {p : Program} {l : Launch} {e : Env} {R : Room} {s : State} {m : MethodId} {args : Array Value} {below : List Frame} {meth : Method} {c : Code} {Q : State → Prop} {D : va_G} {A : Nat → Prop} {nL : Nat} {ws : va_W} {lv : List (Nat × Value)} {kc ks pc : Nat} {st : List Value}
theorem j_subT {X X' T : va_W} (is : List Nat) (hs : is.map (fun i => X[i]?) = X'.map some) (hn : va_nd is = true) (kk : J p l e R s m args below meth c Q D A nL (X' ++ T) lv kc ks pc st) : J p l e R s m args below meth c Q D A nL (X ++ T) lv kc ks pc st := fun H L ls a b d f => kk H L ls (a.part is hs) (b.part is hn hs) d f
theorem j_drop {X T : va_W} (kk : J p l e R s m args below meth c Q D A nL X lv kc ks pc st) : J p l e R s m args below meth c Q D A nL (X ++ T) lv kc ks pc st := fun H L ls a b d f => kk H L ls (pf_P a) (pf_D b) d f
end JS
end
section
theorem pk_in2 {k : Int32} {n : Nat} (h0 : ¬ k < 0) (h1 : ¬ Int32.ofNat n ≤ k) (hn : n < 2 ^ 31 := by decide) : vp_in k n := by
  obtain ⟨j, hj, e⟩ := nI_of h0
  subst e
  refine vp_in_nI ?_ hn
  rcases Nat.lt_or_ge j n with q | q
  · exact q
  · exact absurd (nI_le q hj) h1
theorem d_Bytes_put_0 : decode prog_2_method_2_code 0 = .ok (.aload_n 0, 1) := by decide +kernel
theorem d_Bytes_put_1 : decode prog_2_method_2_code 1 = .ok (.getfield 21, 3) := by decide +kernel
theorem gf_Bytes_21 : GF "NineBoards$Bytes" 21 0 1 := ⟨_, _, _, rfl, ci_Bytes, by decide, (mt_1 (List.mem_of_getElem? (i := 38) rfl) rfl)⟩
theorem d_Bytes_put_4 : decode prog_2_method_2_code 4 = .ok (.ifCond .lt 39, 3) := by decide +kernel
theorem d_Bytes_put_7 : decode prog_2_method_2_code 7 = .ok (.aload_n 0, 1) := by decide +kernel
theorem d_Bytes_put_8 : decode prog_2_method_2_code 8 = .ok (.getfield 21, 3) := by decide +kernel
theorem d_Bytes_put_11 : decode prog_2_method_2_code 11 = .ok (.aload_n 0, 1) := by decide +kernel
theorem d_Bytes_put_12 : decode prog_2_method_2_code 12 = .ok (.getfield 15, 3) := by decide +kernel
theorem gf_Bytes_15 : GF "NineBoards$Bytes" 15 0 0 := ⟨_, _, _, rfl, ci_Bytes, by decide, (mt_1 (List.mem_of_getElem? (i := 36) rfl) rfl)⟩
theorem d_Bytes_put_15 : decode prog_2_method_2_code 15 = .ok (.arraylength, 1) := by decide +kernel
theorem d_Bytes_put_16 : decode prog_2_method_2_code 16 = .ok (.if_icmp .ge 27, 3) := by decide +kernel
theorem d_Bytes_put_19 : decode prog_2_method_2_code 19 = .ok (.aload_n 0, 1) := by decide +kernel
theorem d_Bytes_put_20 : decode prog_2_method_2_code 20 = .ok (.getfield 15, 3) := by decide +kernel
theorem d_Bytes_put_23 : decode prog_2_method_2_code 23 = .ok (.aload_n 0, 1) := by decide +kernel
theorem d_Bytes_put_24 : decode prog_2_method_2_code 24 = .ok (.getfield 21, 3) := by decide +kernel
theorem d_Bytes_put_27 : decode prog_2_method_2_code 27 = .ok (.iload_n 1, 1) := by decide +kernel
theorem d_Bytes_put_28 : decode prog_2_method_2_code 28 = .ok (.sipush 255, 3) := by decide +kernel
theorem d_Bytes_put_31 : decode prog_2_method_2_code 31 = .ok (.iand, 1) := by decide +kernel
theorem d_Bytes_put_32 : decode prog_2_method_2_code 32 = .ok (.iastore, 1) := by decide +kernel
theorem d_Bytes_put_33 : decode prog_2_method_2_code 33 = .ok (.aload_n 0, 1) := by decide +kernel
theorem d_Bytes_put_34 : decode prog_2_method_2_code 34 = .ok (.dup, 1) := by decide +kernel
theorem d_Bytes_put_35 : decode prog_2_method_2_code 35 = .ok (.getfield 21, 3) := by decide +kernel
theorem d_Bytes_put_38 : decode prog_2_method_2_code 38 = .ok (.iconst 1, 1) := by decide +kernel
theorem d_Bytes_put_39 : decode prog_2_method_2_code 39 = .ok (.iadd, 1) := by decide +kernel
theorem d_Bytes_put_40 : decode prog_2_method_2_code 40 = .ok (.putfield 21, 3) := by decide +kernel
theorem pf_Bytes_21 : PF "NineBoards$Bytes" 21 0 1 (.int) false := ⟨_, _, _, ct_Bytes, rfl, ci_Bytes, by decide, (mt_1 (List.mem_of_getElem? (i := 38) rfl) rfl), cp_Bytes, cn_Bytes, rfl, by decide +kernel, (fun h => by cases h)⟩
theorem d_Bytes_put_43 : decode prog_2_method_2_code 43 = .ok (.return_, 1) := by decide +kernel
set_option maxHeartbeats 4000000 in
set_option maxRecDepth 100000 in
theorem c_put_A (l : Launch) (D : va_G) (y : Nat → ClassId) (h : Nat) (a : Nat) (f : Nat → Int32) (k : Int32) (k' : Int32) (v : Int32) (hk0 : ¬ k < 0) (hk1 : ¬ 1600 ≤ k) (he : k + 1 = k') : CT l D y ⟨"NineBoards$Bytes", "put", "(I)V"⟩ prog_2_method_2_code 2 none ({ frames := 0, cells := 0, slots := 0, locals := 0 } : Room) [.ref h, .int v] [(h, .inr (0, [.ref a, .int k])), (a, .inl (y 0, 1600, .inl f))] (QV D [(h, .inr (0, [.ref a, .int k])), (a, .inl (y 0, 1600, .inl f))] (fun (_ : Nat → Int32) => True) (fun u => [(h, .inr (0, [.ref a, .int (k')])), (a, .inl (y 0, 1600, .inl u))])) := by
  refine CT.of (by decide) (nb rfl) ?_
  intro p e s m args below meth c C hr
  refine j_lv (lv' := [(0, .ref h), (1, .int v)]) rfl ?_
  refine j_aload_n (pc := 0) C d_Bytes_put_0 rfl 0 rfl ?_
  refine j_get (pc := 1) C gf_Bytes_21 0 rfl rfl d_Bytes_put_1 ?_
  refine j_if_ltF (pc := 4) C (tgt := 43) d_Bytes_put_4 (by decide) hk0 ?_
  refine j_aload_n (pc := 7) C d_Bytes_put_7 rfl 0 rfl ?_
  refine j_get (pc := 8) C gf_Bytes_21 0 rfl rfl d_Bytes_put_8 ?_
  refine j_aload_n (pc := 11) C d_Bytes_put_11 rfl 0 rfl ?_
  refine j_get (pc := 12) C gf_Bytes_15 0 rfl rfl d_Bytes_put_12 ?_
  refine j_alen (pc := 15) C 1 0 rfl rfl (v := 1600) rfl d_Bytes_put_15 ?_
  refine j_icmp_geF (pc := 16) C (tgt := 43) d_Bytes_put_16 (by decide) hk1 ?_
  refine j_aload_n (pc := 19) C d_Bytes_put_19 rfl 0 rfl ?_
  refine j_get (pc := 20) C gf_Bytes_15 0 rfl rfl d_Bytes_put_20 ?_
  refine j_aload_n (pc := 23) C d_Bytes_put_23 rfl 0 rfl ?_
  refine j_get (pc := 24) C gf_Bytes_21 0 rfl rfl d_Bytes_put_24 ?_
  refine j_iload_n (pc := 27) C d_Bytes_put_27 rfl 1 rfl ?_
  refine j_sipush (pc := 28) C (v := 255) d_Bytes_put_28 (by decide) ?_
  refine j_iand (pc := 31) C (v := v &&& 255) d_Bytes_put_31 rfl ?_
  refine j_iast (pc := 32) C 1 rfl (ws' := [(h, .inr (0, [.ref a, .int k])), (a, .inl (y 0, 1600, .inl (upd f k.toNatClampNeg (v &&& 255))))]) (pk_in2 hk0 hk1) rfl d_Bytes_put_32 ?_
  refine j_aload_n (pc := 33) C d_Bytes_put_33 rfl 0 rfl ?_
  refine j_dup (pc := 34) C d_Bytes_put_34 rfl ?_
  refine j_get (pc := 35) C gf_Bytes_21 0 rfl rfl d_Bytes_put_35 ?_
  refine j_iconst (pc := 38) C (v := 1) d_Bytes_put_38 (by decide) ?_
  refine j_iadd (pc := 39) C (v := k') d_Bytes_put_39 he ?_
  refine j_put (pc := 40) C pf_Bytes_21 0 (ws' := [(h, .inr (0, [.ref a, .int (k')])), (a, .inl (y 0, 1600, .inl (upd f k.toNatClampNeg (v &&& 255))))]) rfl rfl rfl (nl rfl) rfl d_Bytes_put_40 ?_
  exact j_vret (pc := 43) C hr (upd f k.toNatClampNeg (v &&& 255)) trivial [0, 1] rfl (by decide) (by decide) (by decide) d_Bytes_put_43
set_option maxHeartbeats 4000000 in
set_option maxRecDepth 100000 in
theorem c_put_Z (l : Launch) (D : va_G) (y : Nat → ClassId) (h : Nat) (a : Nat) (k : Int32) (k' : Int32) (hk0 : ¬ k < 0) (hk1 : ¬ 15 ≤ k) (he : k + 1 = k') : CT l D y ⟨"NineBoards$Bytes", "put", "(I)V"⟩ prog_2_method_2_code 2 none ({ frames := 0, cells := 0, slots := 0, locals := 0 } : Room) [.ref h, .int 0] [(h, .inr (0, [.ref a, .int k])), (a, .inl (y 0, 15, .inl (fun _ => 0)))] (QV D [(h, .inr (0, [.ref a, .int k])), (a, .inl (y 0, 15, .inl (fun _ => 0)))] (fun (_ : Unit) => True) (fun _ => [(h, .inr (0, [.ref a, .int (k')])), (a, .inl (y 0, 15, .inl (fun _ => 0)))])) := by
  refine CT.of (by decide) (nb rfl) ?_
  intro p e s m args below meth c C hr
  refine j_lv (lv' := [(0, .ref h), (1, .int 0)]) rfl ?_
  refine j_aload_n (pc := 0) C d_Bytes_put_0 rfl 0 rfl ?_
  refine j_get (pc := 1) C gf_Bytes_21 0 rfl rfl d_Bytes_put_1 ?_
  refine j_if_ltF (pc := 4) C (tgt := 43) d_Bytes_put_4 (by decide) hk0 ?_
  refine j_aload_n (pc := 7) C d_Bytes_put_7 rfl 0 rfl ?_
  refine j_get (pc := 8) C gf_Bytes_21 0 rfl rfl d_Bytes_put_8 ?_
  refine j_aload_n (pc := 11) C d_Bytes_put_11 rfl 0 rfl ?_
  refine j_get (pc := 12) C gf_Bytes_15 0 rfl rfl d_Bytes_put_12 ?_
  refine j_alen (pc := 15) C 1 0 rfl rfl (v := 15) rfl d_Bytes_put_15 ?_
  refine j_icmp_geF (pc := 16) C (tgt := 43) d_Bytes_put_16 (by decide) hk1 ?_
  refine j_aload_n (pc := 19) C d_Bytes_put_19 rfl 0 rfl ?_
  refine j_get (pc := 20) C gf_Bytes_15 0 rfl rfl d_Bytes_put_20 ?_
  refine j_aload_n (pc := 23) C d_Bytes_put_23 rfl 0 rfl ?_
  refine j_get (pc := 24) C gf_Bytes_21 0 rfl rfl d_Bytes_put_24 ?_
  refine j_iload_n (pc := 27) C d_Bytes_put_27 rfl 1 rfl ?_
  refine j_sipush (pc := 28) C (v := 255) d_Bytes_put_28 (by decide) ?_
  refine j_iand (pc := 31) C (v := 0) d_Bytes_put_31 (by decide) ?_
  refine j_iast (pc := 32) C 1 rfl (ws' := [(h, .inr (0, [.ref a, .int k])), (a, .inl (y 0, 15, .inl (fun _ => 0)))]) (pk_in2 hk0 hk1) (by rw [up_z0]; rfl) d_Bytes_put_32 ?_
  refine j_aload_n (pc := 33) C d_Bytes_put_33 rfl 0 rfl ?_
  refine j_dup (pc := 34) C d_Bytes_put_34 rfl ?_
  refine j_get (pc := 35) C gf_Bytes_21 0 rfl rfl d_Bytes_put_35 ?_
  refine j_iconst (pc := 38) C (v := 1) d_Bytes_put_38 (by decide) ?_
  refine j_iadd (pc := 39) C (v := k') d_Bytes_put_39 he ?_
  refine j_put (pc := 40) C pf_Bytes_21 0 (ws' := [(h, .inr (0, [.ref a, .int (k')])), (a, .inl (y 0, 15, .inl (fun _ => 0)))]) rfl rfl rfl (nl rfl) rfl d_Bytes_put_40 ?_
  exact j_vret (pc := 43) C hr () trivial [0, 1] rfl (by decide) (by decide) (by decide) d_Bytes_put_43
set_option maxHeartbeats 4000000 in
set_option maxRecDepth 100000 in
theorem c_put_B (l : Launch) (D : va_G) (y : Nat → ClassId) (h : Nat) (a : Nat) (f : Nat → Int32) (k : Int32) (k' : Int32) (v : Int32) (hk0 : ¬ k < 0) (hk1 : ¬ 15 ≤ k) (he : k + 1 = k') : CT l D y ⟨"NineBoards$Bytes", "put", "(I)V"⟩ prog_2_method_2_code 2 none ({ frames := 0, cells := 0, slots := 0, locals := 0 } : Room) [.ref h, .int v] [(h, .inr (0, [.ref a, .int k])), (a, .inl (y 0, 15, .inl f))] (QV D [(h, .inr (0, [.ref a, .int k])), (a, .inl (y 0, 15, .inl f))] (fun (_ : Nat → Int32) => True) (fun u => [(h, .inr (0, [.ref a, .int (k')])), (a, .inl (y 0, 15, .inl u))])) := by
  refine CT.of (by decide) (nb rfl) ?_
  intro p e s m args below meth c C hr
  refine j_lv (lv' := [(0, .ref h), (1, .int v)]) rfl ?_
  refine j_aload_n (pc := 0) C d_Bytes_put_0 rfl 0 rfl ?_
  refine j_get (pc := 1) C gf_Bytes_21 0 rfl rfl d_Bytes_put_1 ?_
  refine j_if_ltF (pc := 4) C (tgt := 43) d_Bytes_put_4 (by decide) hk0 ?_
  refine j_aload_n (pc := 7) C d_Bytes_put_7 rfl 0 rfl ?_
  refine j_get (pc := 8) C gf_Bytes_21 0 rfl rfl d_Bytes_put_8 ?_
  refine j_aload_n (pc := 11) C d_Bytes_put_11 rfl 0 rfl ?_
  refine j_get (pc := 12) C gf_Bytes_15 0 rfl rfl d_Bytes_put_12 ?_
  refine j_alen (pc := 15) C 1 0 rfl rfl (v := 15) rfl d_Bytes_put_15 ?_
  refine j_icmp_geF (pc := 16) C (tgt := 43) d_Bytes_put_16 (by decide) hk1 ?_
  refine j_aload_n (pc := 19) C d_Bytes_put_19 rfl 0 rfl ?_
  refine j_get (pc := 20) C gf_Bytes_15 0 rfl rfl d_Bytes_put_20 ?_
  refine j_aload_n (pc := 23) C d_Bytes_put_23 rfl 0 rfl ?_
  refine j_get (pc := 24) C gf_Bytes_21 0 rfl rfl d_Bytes_put_24 ?_
  refine j_iload_n (pc := 27) C d_Bytes_put_27 rfl 1 rfl ?_
  refine j_sipush (pc := 28) C (v := 255) d_Bytes_put_28 (by decide) ?_
  refine j_iand (pc := 31) C (v := v &&& 255) d_Bytes_put_31 rfl ?_
  refine j_iast (pc := 32) C 1 rfl (ws' := [(h, .inr (0, [.ref a, .int k])), (a, .inl (y 0, 15, .inl (upd f k.toNatClampNeg (v &&& 255))))]) (pk_in2 hk0 hk1) rfl d_Bytes_put_32 ?_
  refine j_aload_n (pc := 33) C d_Bytes_put_33 rfl 0 rfl ?_
  refine j_dup (pc := 34) C d_Bytes_put_34 rfl ?_
  refine j_get (pc := 35) C gf_Bytes_21 0 rfl rfl d_Bytes_put_35 ?_
  refine j_iconst (pc := 38) C (v := 1) d_Bytes_put_38 (by decide) ?_
  refine j_iadd (pc := 39) C (v := k') d_Bytes_put_39 he ?_
  refine j_put (pc := 40) C pf_Bytes_21 0 (ws' := [(h, .inr (0, [.ref a, .int (k')])), (a, .inl (y 0, 15, .inl (upd f k.toNatClampNeg (v &&& 255))))]) rfl rfl rfl (nl rfl) rfl d_Bytes_put_40 ?_
  exact j_vret (pc := 43) C hr (upd f k.toNatClampNeg (v &&& 255)) trivial [0, 1] rfl (by decide) (by decide) (by decide) d_Bytes_put_43
theorem d_Bytes_putTwo_0 : decode prog_2_method_3_code 0 = .ok (.aload_n 0, 1) := by decide +kernel
theorem d_Bytes_putTwo_1 : decode prog_2_method_3_code 1 = .ok (.iload_n 1, 1) := by decide +kernel
theorem d_Bytes_putTwo_2 : decode prog_2_method_3_code 2 = .ok (.bipush 8, 2) := by decide +kernel
theorem d_Bytes_putTwo_4 : decode prog_2_method_3_code 4 = .ok (.ishr, 1) := by decide +kernel
theorem d_Bytes_putTwo_5 : decode prog_2_method_3_code 5 = .ok (.invokevirtual 25, 3) := by decide +kernel
theorem kw_Bytes_25 : KW "NineBoards$Bytes" 25 ⟨"NineBoards$Bytes", "put", "(I)V"⟩ prog_2_method_2_code 2 none 1 := ⟨(mt_3 (List.mem_of_getElem? (i := 34) rfl) rfl), (mt_1 (List.mem_of_getElem? (i := 2) rfl) rfl), (mt_3 (List.mem_of_getElem? (i := 37) rfl) rfl), by decide +kernel⟩
theorem kv_Bytes_put : Cond.instanceMethod ⟨"NineBoards$Bytes", "put", "(I)V"⟩ ∈ TB ∧ Cond.selects "NineBoards$Bytes" ⟨"NineBoards$Bytes", "put", "(I)V"⟩ ⟨"NineBoards$Bytes", "put", "(I)V"⟩ ∈ TB := ⟨(mt_3 (List.mem_of_getElem? (i := 35) rfl) rfl), (mt_3 (List.mem_of_getElem? (i := 36) rfl) rfl)⟩
theorem d_Bytes_putTwo_8 : decode prog_2_method_3_code 8 = .ok (.aload_n 0, 1) := by decide +kernel
theorem d_Bytes_putTwo_9 : decode prog_2_method_3_code 9 = .ok (.iload_n 1, 1) := by decide +kernel
theorem d_Bytes_putTwo_10 : decode prog_2_method_3_code 10 = .ok (.invokevirtual 25, 3) := by decide +kernel
theorem d_Bytes_putTwo_13 : decode prog_2_method_3_code 13 = .ok (.return_, 1) := by decide +kernel
set_option maxHeartbeats 4000000 in
set_option maxRecDepth 100000 in
theorem c_putTwo_A (l : Launch) (D : va_G) (y : Nat → ClassId) (h : Nat) (a : Nat) (f : Nat → Int32) (k : Int32) (k1 : Int32) (k2 : Int32) (v : Int32) (p0 : ¬ k < 0) (q0 : ¬ 1600 ≤ k) (e0 : k + 1 = k1) (p1 : ¬ k1 < 0) (q1 : ¬ 1600 ≤ k1) (e1 : k1 + 1 = k2) : CT l D y ⟨"NineBoards$Bytes", "putTwo", "(I)V"⟩ prog_2_method_3_code 2 none ({ frames := 1, cells := 0, slots := 0, locals := 21 } : Room) [.ref h, .int v] [(h, .inr (0, [.ref a, .int k])), (a, .inl (y 0, 1600, .inl f))] (QV D [(h, .inr (0, [.ref a, .int k])), (a, .inl (y 0, 1600, .inl f))] (fun (_ : Nat → Int32) => True) (fun u => [(h, .inr (0, [.ref a, .int k2])), (a, .inl (y 0, 1600, .inl u))])) := by
  refine CT.of (by decide) (nb rfl) ?_
  intro p e s m args below meth c C hr
  refine j_lv (lv' := [(0, .ref h), (1, .int v)]) rfl ?_
  refine j_aload_n (pc := 0) C d_Bytes_putTwo_0 rfl 0 rfl ?_
  refine j_iload_n (pc := 1) C d_Bytes_putTwo_1 rfl 1 rfl ?_
  refine j_bipush (pc := 2) C (v := 8) d_Bytes_putTwo_2 (by decide) ?_
  refine j_ishr (pc := 4) C (v := v >>> (8 &&& 31)) d_Bytes_putTwo_4 rfl ?_
  refine j_callVv (pc := 5) C (c_put_A l D y h a f k k1 (v >>> (8 &&& 31)) p0 q0 e0) kw_Bytes_25 kv_Bytes_put 0 0 rfl rfl ⟨by decide, by decide⟩ ⟨by decide, by decide⟩ (wr := []) [0, 1] [] rfl rfl (by decide) (by decide) (by decide) (As := [.int (v >>> (8 &&& 31))]) (rest := []) rfl (nb rfl) rfl d_Bytes_putTwo_5 (fun u1 _ => ?_)
  refine j_ws (ws' := [(h, .inr (0, [.ref a, .int k1])), (a, .inl (y 0, 1600, .inl u1))]) rfl ?_
  refine j_aload_n (pc := 8) C d_Bytes_putTwo_8 rfl 0 rfl ?_
  refine j_iload_n (pc := 9) C d_Bytes_putTwo_9 rfl 1 rfl ?_
  refine j_callVv (pc := 10) C (c_put_A l D y h a u1 k1 k2 v p1 q1 e1) kw_Bytes_25 kv_Bytes_put 0 0 rfl rfl ⟨by decide, by decide⟩ ⟨by decide, by decide⟩ (wr := []) [0, 1] [] rfl rfl (by decide) (by decide) (by decide) (As := [.int v]) (rest := []) rfl (nb rfl) rfl d_Bytes_putTwo_10 (fun u2 _ => ?_)
  refine j_ws (ws' := [(h, .inr (0, [.ref a, .int k2])), (a, .inl (y 0, 1600, .inl u2))]) rfl ?_
  exact j_vret (pc := 13) C hr u2 trivial [0, 1] rfl (by decide) (by decide) (by decide) d_Bytes_putTwo_13
set_option maxHeartbeats 4000000 in
set_option maxRecDepth 100000 in
theorem c_putTwo_Z (l : Launch) (D : va_G) (y : Nat → ClassId) (h : Nat) (a : Nat) (k : Int32) (k1 : Int32) (k2 : Int32) (p0 : ¬ k < 0) (q0 : ¬ 15 ≤ k) (e0 : k + 1 = k1) (p1 : ¬ k1 < 0) (q1 : ¬ 15 ≤ k1) (e1 : k1 + 1 = k2) : CT l D y ⟨"NineBoards$Bytes", "putTwo", "(I)V"⟩ prog_2_method_3_code 2 none ({ frames := 1, cells := 0, slots := 0, locals := 21 } : Room) [.ref h, .int 0] [(h, .inr (0, [.ref a, .int k])), (a, .inl (y 0, 15, .inl (fun _ => 0)))] (QV D [(h, .inr (0, [.ref a, .int k])), (a, .inl (y 0, 15, .inl (fun _ => 0)))] (fun (_ : Unit) => True) (fun _ => [(h, .inr (0, [.ref a, .int k2])), (a, .inl (y 0, 15, .inl (fun _ => 0)))])) := by
  refine CT.of (by decide) (nb rfl) ?_
  intro p e s m args below meth c C hr
  refine j_lv (lv' := [(0, .ref h), (1, .int 0)]) rfl ?_
  refine j_aload_n (pc := 0) C d_Bytes_putTwo_0 rfl 0 rfl ?_
  refine j_iload_n (pc := 1) C d_Bytes_putTwo_1 rfl 1 rfl ?_
  refine j_bipush (pc := 2) C (v := 8) d_Bytes_putTwo_2 (by decide) ?_
  refine j_ishr (pc := 4) C (v := 0) d_Bytes_putTwo_4 (by decide) ?_
  refine j_callVv (pc := 5) C (c_put_Z l D y h a k k1 p0 q0 e0) kw_Bytes_25 kv_Bytes_put 0 0 rfl rfl ⟨by decide, by decide⟩ ⟨by decide, by decide⟩ (wr := []) [0, 1] [] rfl rfl (by decide) (by decide) (by decide) (As := [.int 0]) (rest := []) rfl (nb rfl) rfl d_Bytes_putTwo_5 (fun _ _ => ?_)
  refine j_ws (ws' := [(h, .inr (0, [.ref a, .int k1])), (a, .inl (y 0, 15, .inl (fun _ => 0)))]) rfl ?_
  refine j_aload_n (pc := 8) C d_Bytes_putTwo_8 rfl 0 rfl ?_
  refine j_iload_n (pc := 9) C d_Bytes_putTwo_9 rfl 1 rfl ?_
  refine j_callVv (pc := 10) C (c_put_Z l D y h a k1 k2 p1 q1 e1) kw_Bytes_25 kv_Bytes_put 0 0 rfl rfl ⟨by decide, by decide⟩ ⟨by decide, by decide⟩ (wr := []) [0, 1] [] rfl rfl (by decide) (by decide) (by decide) (As := [.int 0]) (rest := []) rfl (nb rfl) rfl d_Bytes_putTwo_10 (fun _ _ => ?_)
  refine j_ws (ws' := [(h, .inr (0, [.ref a, .int k2])), (a, .inl (y 0, 15, .inl (fun _ => 0)))]) rfl ?_
  exact j_vret (pc := 13) C hr () trivial [0, 1] rfl (by decide) (by decide) (by decide) d_Bytes_putTwo_13
theorem d_Bytes_putFour_0 : decode prog_2_method_4_code 0 = .ok (.aload_n 0, 1) := by decide +kernel
theorem d_Bytes_putFour_1 : decode prog_2_method_4_code 1 = .ok (.iload_n 1, 1) := by decide +kernel
theorem d_Bytes_putFour_2 : decode prog_2_method_4_code 2 = .ok (.bipush 16, 2) := by decide +kernel
theorem d_Bytes_putFour_4 : decode prog_2_method_4_code 4 = .ok (.ishr, 1) := by decide +kernel
theorem d_Bytes_putFour_5 : decode prog_2_method_4_code 5 = .ok (.invokevirtual 29, 3) := by decide +kernel
theorem kw_Bytes_29 : KW "NineBoards$Bytes" 29 ⟨"NineBoards$Bytes", "putTwo", "(I)V"⟩ prog_2_method_3_code 2 none 1 := ⟨(mt_3 (List.mem_of_getElem? (i := 30) rfl) rfl), (mt_1 (List.mem_of_getElem? (i := 2) rfl) rfl), (mt_3 (List.mem_of_getElem? (i := 33) rfl) rfl), by decide +kernel⟩
theorem kv_Bytes_putTwo : Cond.instanceMethod ⟨"NineBoards$Bytes", "putTwo", "(I)V"⟩ ∈ TB ∧ Cond.selects "NineBoards$Bytes" ⟨"NineBoards$Bytes", "putTwo", "(I)V"⟩ ⟨"NineBoards$Bytes", "putTwo", "(I)V"⟩ ∈ TB := ⟨(mt_3 (List.mem_of_getElem? (i := 31) rfl) rfl), (mt_3 (List.mem_of_getElem? (i := 32) rfl) rfl)⟩
theorem d_Bytes_putFour_8 : decode prog_2_method_4_code 8 = .ok (.aload_n 0, 1) := by decide +kernel
theorem d_Bytes_putFour_9 : decode prog_2_method_4_code 9 = .ok (.iload_n 1, 1) := by decide +kernel
theorem d_Bytes_putFour_10 : decode prog_2_method_4_code 10 = .ok (.invokevirtual 29, 3) := by decide +kernel
theorem d_Bytes_putFour_13 : decode prog_2_method_4_code 13 = .ok (.return_, 1) := by decide +kernel
set_option maxHeartbeats 4000000 in
set_option maxRecDepth 100000 in
theorem c_putFour_A (l : Launch) (D : va_G) (y : Nat → ClassId) (h : Nat) (a : Nat) (f : Nat → Int32) (k : Int32) (k1 : Int32) (k2 : Int32) (k3 : Int32) (k4 : Int32) (v : Int32) (p0 : ¬ k < 0) (q0 : ¬ 1600 ≤ k) (e0 : k + 1 = k1) (p1 : ¬ k1 < 0) (q1 : ¬ 1600 ≤ k1) (e1 : k1 + 1 = k2) (p2 : ¬ k2 < 0) (q2 : ¬ 1600 ≤ k2) (e2 : k2 + 1 = k3) (p3 : ¬ k3 < 0) (q3 : ¬ 1600 ≤ k3) (e3 : k3 + 1 = k4) : CT l D y ⟨"NineBoards$Bytes", "putFour", "(I)V"⟩ prog_2_method_4_code 2 none ({ frames := 2, cells := 0, slots := 0, locals := 42 } : Room) [.ref h, .int v] [(h, .inr (0, [.ref a, .int k])), (a, .inl (y 0, 1600, .inl f))] (QV D [(h, .inr (0, [.ref a, .int k])), (a, .inl (y 0, 1600, .inl f))] (fun (_ : Nat → Int32) => True) (fun u => [(h, .inr (0, [.ref a, .int k4])), (a, .inl (y 0, 1600, .inl u))])) := by
  refine CT.of (by decide) (nb rfl) ?_
  intro p e s m args below meth c C hr
  refine j_lv (lv' := [(0, .ref h), (1, .int v)]) rfl ?_
  refine j_aload_n (pc := 0) C d_Bytes_putFour_0 rfl 0 rfl ?_
  refine j_iload_n (pc := 1) C d_Bytes_putFour_1 rfl 1 rfl ?_
  refine j_bipush (pc := 2) C (v := 16) d_Bytes_putFour_2 (by decide) ?_
  refine j_ishr (pc := 4) C (v := v >>> (16 &&& 31)) d_Bytes_putFour_4 rfl ?_
  refine j_callVv (pc := 5) C (c_putTwo_A l D y h a f k k1 k2 (v >>> (16 &&& 31)) p0 q0 e0 p1 q1 e1) kw_Bytes_29 kv_Bytes_putTwo 0 0 rfl rfl ⟨by decide, by decide⟩ ⟨by decide, by decide⟩ (wr := []) [0, 1] [] rfl rfl (by decide) (by decide) (by decide) (As := [.int (v >>> (16 &&& 31))]) (rest := []) rfl (nb rfl) rfl d_Bytes_putFour_5 (fun u1 _ => ?_)
  refine j_ws (ws' := [(h, .inr (0, [.ref a, .int k2])), (a, .inl (y 0, 1600, .inl u1))]) rfl ?_
  refine j_aload_n (pc := 8) C d_Bytes_putFour_8 rfl 0 rfl ?_
  refine j_iload_n (pc := 9) C d_Bytes_putFour_9 rfl 1 rfl ?_
  refine j_callVv (pc := 10) C (c_putTwo_A l D y h a u1 k2 k3 k4 v p2 q2 e2 p3 q3 e3) kw_Bytes_29 kv_Bytes_putTwo 0 0 rfl rfl ⟨by decide, by decide⟩ ⟨by decide, by decide⟩ (wr := []) [0, 1] [] rfl rfl (by decide) (by decide) (by decide) (As := [.int v]) (rest := []) rfl (nb rfl) rfl d_Bytes_putFour_10 (fun u2 _ => ?_)
  refine j_ws (ws' := [(h, .inr (0, [.ref a, .int k4])), (a, .inl (y 0, 1600, .inl u2))]) rfl ?_
  exact j_vret (pc := 13) C hr u2 trivial [0, 1] rfl (by decide) (by decide) (by decide) d_Bytes_putFour_13
theorem ge_of_nlt {v : Int32} (h : ¬ v < 0) : 0 ≤ v := Int32.not_lt.mp h
theorem d_Bytes_at_0 : decode prog_2_method_5_code 0 = .ok (.iload_n 1, 1) := by decide +kernel
theorem d_Bytes_at_1 : decode prog_2_method_5_code 1 = .ok (.ifCond .lt 29, 3) := by decide +kernel
theorem d_Bytes_at_30 : decode prog_2_method_5_code 30 = .ok (.iconst (-1), 1) := by decide +kernel
theorem d_Bytes_at_31 : decode prog_2_method_5_code 31 = .ok (.ireturn, 1) := by decide +kernel
theorem d_Bytes_at_4 : decode prog_2_method_5_code 4 = .ok (.iload_n 1, 1) := by decide +kernel
theorem d_Bytes_at_5 : decode prog_2_method_5_code 5 = .ok (.aload_n 0, 1) := by decide +kernel
theorem d_Bytes_at_6 : decode prog_2_method_5_code 6 = .ok (.getfield 21, 3) := by decide +kernel
theorem d_Bytes_at_9 : decode prog_2_method_5_code 9 = .ok (.if_icmp .ge 21, 3) := by decide +kernel
set_option maxHeartbeats 4000000 in
set_option maxRecDepth 100000 in
theorem c_at_0 (l : Launch) (D : va_G) (y : Nat → ClassId) (h : Nat) (a : Nat) (v : Int32)  : CT l D y ⟨"NineBoards$Bytes", "at", "(I)I"⟩ prog_2_method_5_code 2 (some .int) ({ frames := 0, cells := 0, slots := 0, locals := 0 } : Room) [.ref h, .int v] [(h, .inr (0, [.ref a, .int 0]))] (QI D [(h, .inr (0, [.ref a, .int 0]))] (fun (r : Int32) (_ : Unit) => r = (-1)) (fun _ => [])) := by
  refine CT.of (by decide) (nb rfl) ?_
  intro p e s m args below meth c C hr
  refine j_lv (lv' := [(0, .ref h), (1, .int v)]) rfl ?_
  refine j_iload_n (pc := 0) C d_Bytes_at_0 rfl 1 rfl ?_
  refine j_if_lt (pc := 1) C (tgt := 30) d_Bytes_at_1 (by decide) (fun c1 => ?_) (fun c1 => ?_)
  · refine j_iconst (pc := 30) C (v := (-1)) d_Bytes_at_30 (by decide) ?_
    exact j_iret (pc := 31) C hr rfl () rfl [] rfl (by decide) (by decide) (by decide) d_Bytes_at_31
  · refine j_iload_n (pc := 4) C d_Bytes_at_4 rfl 1 rfl ?_
    refine j_aload_n (pc := 5) C d_Bytes_at_5 rfl 0 rfl ?_
    refine j_get (pc := 6) C gf_Bytes_21 0 rfl rfl d_Bytes_at_6 ?_
    refine j_icmp_geT (pc := 9) C (tgt := 30) d_Bytes_at_9 (by decide) (ge_of_nlt c1) ?_
    refine j_iconst (pc := 30) C (v := (-1)) d_Bytes_at_30 (by decide) ?_
    exact j_iret (pc := 31) C hr rfl () rfl [] rfl (by decide) (by decide) (by decide) d_Bytes_at_31
theorem d_Bytes_check_0 : decode prog_2_method_7_code 0 = .ok (.bipush 67, 2) := by decide +kernel
theorem d_Bytes_check_2 : decode prog_2_method_7_code 2 = .ok (.istore_n 2, 1) := by decide +kernel
theorem d_Bytes_check_3 : decode prog_2_method_7_code 3 = .ok (.iconst 0, 1) := by decide +kernel
theorem d_Bytes_check_4 : decode prog_2_method_7_code 4 = .ok (.istore_n 3, 1) := by decide +kernel
theorem d_Bytes_check_5 : decode prog_2_method_7_code 5 = .ok (.iload_n 3, 1) := by decide +kernel
theorem d_Bytes_check_6 : decode prog_2_method_7_code 6 = .ok (.iload_n 1, 1) := by decide +kernel
theorem d_Bytes_check_7 : decode prog_2_method_7_code 7 = .ok (.if_icmp .ge 33, 3) := by decide +kernel
theorem d_Bytes_check_10 : decode prog_2_method_7_code 10 = .ok (.iload_n 3, 1) := by decide +kernel
theorem d_Bytes_check_11 : decode prog_2_method_7_code 11 = .ok (.aload_n 0, 1) := by decide +kernel
theorem d_Bytes_check_12 : decode prog_2_method_7_code 12 = .ok (.getfield 15, 3) := by decide +kernel
theorem d_Bytes_check_15 : decode prog_2_method_7_code 15 = .ok (.arraylength, 1) := by decide +kernel
theorem d_Bytes_check_16 : decode prog_2_method_7_code 16 = .ok (.if_icmp .ge 24, 3) := by decide +kernel
theorem d_Bytes_check_19 : decode prog_2_method_7_code 19 = .ok (.iconst 3, 1) := by decide +kernel
theorem d_Bytes_check_20 : decode prog_2_method_7_code 20 = .ok (.iload_n 2, 1) := by decide +kernel
theorem d_Bytes_check_21 : decode prog_2_method_7_code 21 = .ok (.imul, 1) := by decide +kernel
theorem d_Bytes_check_22 : decode prog_2_method_7_code 22 = .ok (.aload_n 0, 1) := by decide +kernel
theorem d_Bytes_check_23 : decode prog_2_method_7_code 23 = .ok (.getfield 15, 3) := by decide +kernel
theorem d_Bytes_check_26 : decode prog_2_method_7_code 26 = .ok (.iload_n 3, 1) := by decide +kernel
theorem d_Bytes_check_27 : decode prog_2_method_7_code 27 = .ok (.iaload, 1) := by decide +kernel
theorem d_Bytes_check_28 : decode prog_2_method_7_code 28 = .ok (.iadd, 1) := by decide +kernel
theorem d_Bytes_check_29 : decode prog_2_method_7_code 29 = .ok (.sipush 251, 3) := by decide +kernel
theorem d_Bytes_check_32 : decode prog_2_method_7_code 32 = .ok (.irem, 1) := by decide +kernel
theorem d_Bytes_check_33 : decode prog_2_method_7_code 33 = .ok (.istore_n 2, 1) := by decide +kernel
theorem d_Bytes_check_34 : decode prog_2_method_7_code 34 = .ok (.iinc 3 1, 3) := by decide +kernel
theorem d_Bytes_check_37 : decode prog_2_method_7_code 37 = .ok (.goto (-32), 3) := by decide +kernel
theorem d_Bytes_check_40 : decode prog_2_method_7_code 40 = .ok (.iload_n 2, 1) := by decide +kernel
theorem d_Bytes_check_41 : decode prog_2_method_7_code 41 = .ok (.ireturn, 1) := by decide +kernel
set_option maxHeartbeats 4000000 in
set_option maxRecDepth 100000 in
theorem c_check_5 (l : Launch) (D : va_G) (y : Nat → ClassId) (h : Nat) (a : Nat)  : CT l D y ⟨"NineBoards$Bytes", "check", "(I)I"⟩ prog_2_method_7_code 4 (some .int) ({ frames := 0, cells := 0, slots := 0, locals := 0 } : Room) [.ref h, .int 5] [(h, .inr (0, [.ref a, .int 5])), (a, .inl (y 0, 15, .inl (fun _ => 0)))] (QI D [(h, .inr (0, [.ref a, .int 5])), (a, .inl (y 0, 15, .inl (fun _ => 0)))] (fun (r : Int32) (_ : Unit) => r = 217) (fun _ => [(h, .inr (0, [.ref a, .int 5])), (a, .inl (y 0, 15, .inl (fun _ => 0)))])) := by
  refine CT.of (by decide) (nb rfl) ?_
  intro p e s m args below meth c C hr
  refine j_lv (lv' := [(0, .ref h), (1, .int 5)]) rfl ?_
  refine j_bipush (pc := 0) C (v := 67) d_Bytes_check_0 (by decide) ?_
  refine j_istore_n (pc := 2) C (lv' := [(2, .int 67), (0, .ref h), (1, .int 5)]) d_Bytes_check_2 rfl (by decide) rfl ?_
  refine j_iconst (pc := 3) C (v := 0) d_Bytes_check_3 (by decide) ?_
  refine j_istore_n (pc := 4) C (lv' := [(3, .int 0), (2, .int 67), (0, .ref h), (1, .int 5)]) d_Bytes_check_4 rfl (by decide) rfl ?_
  refine j_iload_n (pc := 5) C d_Bytes_check_5 rfl 0 rfl ?_
  refine j_iload_n (pc := 6) C d_Bytes_check_6 rfl 3 rfl ?_
  refine j_icmp_geF (pc := 7) C (tgt := 40) d_Bytes_check_7 (by decide) (by decide) ?_
  refine j_iload_n (pc := 10) C d_Bytes_check_10 rfl 0 rfl ?_
  refine j_aload_n (pc := 11) C d_Bytes_check_11 rfl 2 rfl ?_
  refine j_get (pc := 12) C gf_Bytes_15 0 rfl rfl d_Bytes_check_12 ?_
  refine j_alen (pc := 15) C 1 0 rfl rfl (v := 15) rfl d_Bytes_check_15 ?_
  refine j_icmp_geF (pc := 16) C (tgt := 40) d_Bytes_check_16 (by decide) (by decide) ?_
  refine j_iconst (pc := 19) C (v := 3) d_Bytes_check_19 (by decide) ?_
  refine j_iload_n (pc := 20) C d_Bytes_check_20 rfl 1 rfl ?_
  refine j_imul (pc := 21) C (v := 201) d_Bytes_check_21 (by decide) ?_
  refine j_aload_n (pc := 22) C d_Bytes_check_22 rfl 2 rfl ?_
  refine j_get (pc := 23) C gf_Bytes_15 0 rfl rfl d_Bytes_check_23 ?_
  refine j_iload_n (pc := 26) C d_Bytes_check_26 rfl 0 rfl ?_
  refine j_iald (pc := 27) C 1 rfl (v := 0) (vin (by decide)) rfl d_Bytes_check_27 ?_
  refine j_iadd (pc := 28) C (v := 201) d_Bytes_check_28 (by decide) ?_
  refine j_sipush (pc := 29) C (v := 251) d_Bytes_check_29 (by decide) ?_
  refine j_irem (pc := 32) C (v := 201) d_Bytes_check_32 (by decide) (by decide) ?_
  refine j_istore_n (pc := 33) C (lv' := [(2, .int 201), (3, .int 0), (0, .ref h), (1, .int 5)]) d_Bytes_check_33 rfl (by decide) rfl ?_
  refine j_iinc (pc := 34) C (v := 1) (lv' := [(3, .int 1), (2, .int 201), (0, .ref h), (1, .int 5)]) d_Bytes_check_34 1 rfl (by decide) (by decide) rfl ?_
  refine j_goto (pc := 37) C (tgt := 5) d_Bytes_check_37 (by decide) ?_
  refine j_iload_n (pc := 5) C d_Bytes_check_5 rfl 0 rfl ?_
  refine j_iload_n (pc := 6) C d_Bytes_check_6 rfl 3 rfl ?_
  refine j_icmp_geF (pc := 7) C (tgt := 40) d_Bytes_check_7 (by decide) (by decide) ?_
  refine j_iload_n (pc := 10) C d_Bytes_check_10 rfl 0 rfl ?_
  refine j_aload_n (pc := 11) C d_Bytes_check_11 rfl 2 rfl ?_
  refine j_get (pc := 12) C gf_Bytes_15 0 rfl rfl d_Bytes_check_12 ?_
  refine j_alen (pc := 15) C 1 0 rfl rfl (v := 15) rfl d_Bytes_check_15 ?_
  refine j_icmp_geF (pc := 16) C (tgt := 40) d_Bytes_check_16 (by decide) (by decide) ?_
  refine j_iconst (pc := 19) C (v := 3) d_Bytes_check_19 (by decide) ?_
  refine j_iload_n (pc := 20) C d_Bytes_check_20 rfl 1 rfl ?_
  refine j_imul (pc := 21) C (v := 603) d_Bytes_check_21 (by decide) ?_
  refine j_aload_n (pc := 22) C d_Bytes_check_22 rfl 2 rfl ?_
  refine j_get (pc := 23) C gf_Bytes_15 0 rfl rfl d_Bytes_check_23 ?_
  refine j_iload_n (pc := 26) C d_Bytes_check_26 rfl 0 rfl ?_
  refine j_iald (pc := 27) C 1 rfl (v := 0) (vin (by decide)) rfl d_Bytes_check_27 ?_
  refine j_iadd (pc := 28) C (v := 603) d_Bytes_check_28 (by decide) ?_
  refine j_sipush (pc := 29) C (v := 251) d_Bytes_check_29 (by decide) ?_
  refine j_irem (pc := 32) C (v := 101) d_Bytes_check_32 (by decide) (by decide) ?_
  refine j_istore_n (pc := 33) C (lv' := [(2, .int 101), (3, .int 1), (0, .ref h), (1, .int 5)]) d_Bytes_check_33 rfl (by decide) rfl ?_
  refine j_iinc (pc := 34) C (v := 2) (lv' := [(3, .int 2), (2, .int 101), (0, .ref h), (1, .int 5)]) d_Bytes_check_34 1 rfl (by decide) (by decide) rfl ?_
  refine j_goto (pc := 37) C (tgt := 5) d_Bytes_check_37 (by decide) ?_
  refine j_iload_n (pc := 5) C d_Bytes_check_5 rfl 0 rfl ?_
  refine j_iload_n (pc := 6) C d_Bytes_check_6 rfl 3 rfl ?_
  refine j_icmp_geF (pc := 7) C (tgt := 40) d_Bytes_check_7 (by decide) (by decide) ?_
  refine j_iload_n (pc := 10) C d_Bytes_check_10 rfl 0 rfl ?_
  refine j_aload_n (pc := 11) C d_Bytes_check_11 rfl 2 rfl ?_
  refine j_get (pc := 12) C gf_Bytes_15 0 rfl rfl d_Bytes_check_12 ?_
  refine j_alen (pc := 15) C 1 0 rfl rfl (v := 15) rfl d_Bytes_check_15 ?_
  refine j_icmp_geF (pc := 16) C (tgt := 40) d_Bytes_check_16 (by decide) (by decide) ?_
  refine j_iconst (pc := 19) C (v := 3) d_Bytes_check_19 (by decide) ?_
  refine j_iload_n (pc := 20) C d_Bytes_check_20 rfl 1 rfl ?_
  refine j_imul (pc := 21) C (v := 303) d_Bytes_check_21 (by decide) ?_
  refine j_aload_n (pc := 22) C d_Bytes_check_22 rfl 2 rfl ?_
  refine j_get (pc := 23) C gf_Bytes_15 0 rfl rfl d_Bytes_check_23 ?_
  refine j_iload_n (pc := 26) C d_Bytes_check_26 rfl 0 rfl ?_
  refine j_iald (pc := 27) C 1 rfl (v := 0) (vin (by decide)) rfl d_Bytes_check_27 ?_
  refine j_iadd (pc := 28) C (v := 303) d_Bytes_check_28 (by decide) ?_
  refine j_sipush (pc := 29) C (v := 251) d_Bytes_check_29 (by decide) ?_
  refine j_irem (pc := 32) C (v := 52) d_Bytes_check_32 (by decide) (by decide) ?_
  refine j_istore_n (pc := 33) C (lv' := [(2, .int 52), (3, .int 2), (0, .ref h), (1, .int 5)]) d_Bytes_check_33 rfl (by decide) rfl ?_
  refine j_iinc (pc := 34) C (v := 3) (lv' := [(3, .int 3), (2, .int 52), (0, .ref h), (1, .int 5)]) d_Bytes_check_34 1 rfl (by decide) (by decide) rfl ?_
  refine j_goto (pc := 37) C (tgt := 5) d_Bytes_check_37 (by decide) ?_
  refine j_iload_n (pc := 5) C d_Bytes_check_5 rfl 0 rfl ?_
  refine j_iload_n (pc := 6) C d_Bytes_check_6 rfl 3 rfl ?_
  refine j_icmp_geF (pc := 7) C (tgt := 40) d_Bytes_check_7 (by decide) (by decide) ?_
  refine j_iload_n (pc := 10) C d_Bytes_check_10 rfl 0 rfl ?_
  refine j_aload_n (pc := 11) C d_Bytes_check_11 rfl 2 rfl ?_
  refine j_get (pc := 12) C gf_Bytes_15 0 rfl rfl d_Bytes_check_12 ?_
  refine j_alen (pc := 15) C 1 0 rfl rfl (v := 15) rfl d_Bytes_check_15 ?_
  refine j_icmp_geF (pc := 16) C (tgt := 40) d_Bytes_check_16 (by decide) (by decide) ?_
  refine j_iconst (pc := 19) C (v := 3) d_Bytes_check_19 (by decide) ?_
  refine j_iload_n (pc := 20) C d_Bytes_check_20 rfl 1 rfl ?_
  refine j_imul (pc := 21) C (v := 156) d_Bytes_check_21 (by decide) ?_
  refine j_aload_n (pc := 22) C d_Bytes_check_22 rfl 2 rfl ?_
  refine j_get (pc := 23) C gf_Bytes_15 0 rfl rfl d_Bytes_check_23 ?_
  refine j_iload_n (pc := 26) C d_Bytes_check_26 rfl 0 rfl ?_
  refine j_iald (pc := 27) C 1 rfl (v := 0) (vin (by decide)) rfl d_Bytes_check_27 ?_
  refine j_iadd (pc := 28) C (v := 156) d_Bytes_check_28 (by decide) ?_
  refine j_sipush (pc := 29) C (v := 251) d_Bytes_check_29 (by decide) ?_
  refine j_irem (pc := 32) C (v := 156) d_Bytes_check_32 (by decide) (by decide) ?_
  refine j_istore_n (pc := 33) C (lv' := [(2, .int 156), (3, .int 3), (0, .ref h), (1, .int 5)]) d_Bytes_check_33 rfl (by decide) rfl ?_
  refine j_iinc (pc := 34) C (v := 4) (lv' := [(3, .int 4), (2, .int 156), (0, .ref h), (1, .int 5)]) d_Bytes_check_34 1 rfl (by decide) (by decide) rfl ?_
  refine j_goto (pc := 37) C (tgt := 5) d_Bytes_check_37 (by decide) ?_
  refine j_iload_n (pc := 5) C d_Bytes_check_5 rfl 0 rfl ?_
  refine j_iload_n (pc := 6) C d_Bytes_check_6 rfl 3 rfl ?_
  refine j_icmp_geF (pc := 7) C (tgt := 40) d_Bytes_check_7 (by decide) (by decide) ?_
  refine j_iload_n (pc := 10) C d_Bytes_check_10 rfl 0 rfl ?_
  refine j_aload_n (pc := 11) C d_Bytes_check_11 rfl 2 rfl ?_
  refine j_get (pc := 12) C gf_Bytes_15 0 rfl rfl d_Bytes_check_12 ?_
  refine j_alen (pc := 15) C 1 0 rfl rfl (v := 15) rfl d_Bytes_check_15 ?_
  refine j_icmp_geF (pc := 16) C (tgt := 40) d_Bytes_check_16 (by decide) (by decide) ?_
  refine j_iconst (pc := 19) C (v := 3) d_Bytes_check_19 (by decide) ?_
  refine j_iload_n (pc := 20) C d_Bytes_check_20 rfl 1 rfl ?_
  refine j_imul (pc := 21) C (v := 468) d_Bytes_check_21 (by decide) ?_
  refine j_aload_n (pc := 22) C d_Bytes_check_22 rfl 2 rfl ?_
  refine j_get (pc := 23) C gf_Bytes_15 0 rfl rfl d_Bytes_check_23 ?_
  refine j_iload_n (pc := 26) C d_Bytes_check_26 rfl 0 rfl ?_
  refine j_iald (pc := 27) C 1 rfl (v := 0) (vin (by decide)) rfl d_Bytes_check_27 ?_
  refine j_iadd (pc := 28) C (v := 468) d_Bytes_check_28 (by decide) ?_
  refine j_sipush (pc := 29) C (v := 251) d_Bytes_check_29 (by decide) ?_
  refine j_irem (pc := 32) C (v := 217) d_Bytes_check_32 (by decide) (by decide) ?_
  refine j_istore_n (pc := 33) C (lv' := [(2, .int 217), (3, .int 4), (0, .ref h), (1, .int 5)]) d_Bytes_check_33 rfl (by decide) rfl ?_
  refine j_iinc (pc := 34) C (v := 5) (lv' := [(3, .int 5), (2, .int 217), (0, .ref h), (1, .int 5)]) d_Bytes_check_34 1 rfl (by decide) (by decide) rfl ?_
  refine j_goto (pc := 37) C (tgt := 5) d_Bytes_check_37 (by decide) ?_
  refine j_iload_n (pc := 5) C d_Bytes_check_5 rfl 0 rfl ?_
  refine j_iload_n (pc := 6) C d_Bytes_check_6 rfl 3 rfl ?_
  refine j_icmp_geT (pc := 7) C (tgt := 40) d_Bytes_check_7 (by decide) (by decide) ?_
  refine j_iload_n (pc := 40) C d_Bytes_check_40 rfl 1 rfl ?_
  exact j_iret (pc := 41) C hr rfl () rfl [0, 1] rfl (by decide) (by decide) (by decide) d_Bytes_check_41
end
section
theorem d_Bytes_at_12 : decode prog_2_method_5_code 12 = .ok (.iload_n 1, 1) := by decide +kernel
theorem d_Bytes_at_13 : decode prog_2_method_5_code 13 = .ok (.aload_n 0, 1) := by decide +kernel
theorem d_Bytes_at_14 : decode prog_2_method_5_code 14 = .ok (.getfield 15, 3) := by decide +kernel
theorem d_Bytes_at_17 : decode prog_2_method_5_code 17 = .ok (.arraylength, 1) := by decide +kernel
theorem d_Bytes_at_18 : decode prog_2_method_5_code 18 = .ok (.if_icmp .ge 12, 3) := by decide +kernel
theorem d_Bytes_at_21 : decode prog_2_method_5_code 21 = .ok (.aload_n 0, 1) := by decide +kernel
theorem d_Bytes_at_22 : decode prog_2_method_5_code 22 = .ok (.getfield 15, 3) := by decide +kernel
theorem d_Bytes_at_25 : decode prog_2_method_5_code 25 = .ok (.iload_n 1, 1) := by decide +kernel
theorem d_Bytes_at_26 : decode prog_2_method_5_code 26 = .ok (.iaload, 1) := by decide +kernel
theorem d_Bytes_at_27 : decode prog_2_method_5_code 27 = .ok (.goto 4, 3) := by decide +kernel
set_option maxHeartbeats 4000000 in
set_option maxRecDepth 100000 in
theorem c_at_1600 (l : Launch) (D : va_G) (y : Nat → ClassId) (h : Nat) (a : Nat) (k : Int32) (f : Nat → Int32) (v : Int32)  : CT l D y ⟨"NineBoards$Bytes", "at", "(I)I"⟩ prog_2_method_5_code 2 (some .int) ({ frames := 0, cells := 0, slots := 0, locals := 0 } : Room) [.ref h, .int v] [(h, .inr (0, [.ref a, .int k])), (a, .inl (y 0, 1600, .inl f))] (QI D [(h, .inr (0, [.ref a, .int k])), (a, .inl (y 0, 1600, .inl f))] (fun (r : Int32) (u : Unit) => True) (fun _ => [(h, .inr (0, [.ref a, .int k])), (a, .inl (y 0, 1600, .inl f))])) := by
  refine CT.of (by decide) (nb rfl) ?_
  intro p e s m args below meth c C hr
  refine j_lv (lv' := [(0, .ref h), (1, .int v)]) rfl ?_
  refine j_iload_n (pc := 0) C d_Bytes_at_0 rfl 1 rfl ?_
  refine j_if_lt (pc := 1) C (tgt := 30) d_Bytes_at_1 (by decide) (fun c1 => ?_) (fun c1 => ?_)
  · refine j_iconst (pc := 30) C (v := (-1)) d_Bytes_at_30 (by decide) ?_
    exact j_iret (pc := 31) C hr rfl () trivial [0, 1] rfl (by decide) (by decide) (by decide) d_Bytes_at_31
  · refine j_iload_n (pc := 4) C d_Bytes_at_4 rfl 1 rfl ?_
    refine j_aload_n (pc := 5) C d_Bytes_at_5 rfl 0 rfl ?_
    refine j_get (pc := 6) C gf_Bytes_21 0 rfl rfl d_Bytes_at_6 ?_
    refine j_icmp_ge (pc := 9) C (tgt := 30) d_Bytes_at_9 (by decide) (fun c2 => ?_) (fun c2 => ?_)
    · refine j_iconst (pc := 30) C (v := (-1)) d_Bytes_at_30 (by decide) ?_
      exact j_iret (pc := 31) C hr rfl () trivial [0, 1] rfl (by decide) (by decide) (by decide) d_Bytes_at_31
    · refine j_iload_n (pc := 12) C d_Bytes_at_12 rfl 1 rfl ?_
      refine j_aload_n (pc := 13) C d_Bytes_at_13 rfl 0 rfl ?_
      refine j_get (pc := 14) C gf_Bytes_15 0 rfl rfl d_Bytes_at_14 ?_
      refine j_alen (pc := 17) C 1 0 rfl rfl (v := 1600) rfl d_Bytes_at_17 ?_
      refine j_icmp_ge (pc := 18) C (tgt := 30) d_Bytes_at_18 (by decide) (fun c3 => ?_) (fun c3 => ?_)
      · refine j_iconst (pc := 30) C (v := (-1)) d_Bytes_at_30 (by decide) ?_
        exact j_iret (pc := 31) C hr rfl () trivial [0, 1] rfl (by decide) (by decide) (by decide) d_Bytes_at_31
      · refine j_aload_n (pc := 21) C d_Bytes_at_21 rfl 0 rfl ?_
        refine j_get (pc := 22) C gf_Bytes_15 0 rfl rfl d_Bytes_at_22 ?_
        refine j_iload_n (pc := 25) C d_Bytes_at_25 rfl 1 rfl ?_
        refine j_iald (pc := 26) C 1 rfl (v := f v.toNatClampNeg) (pk_in2 c1 c3) rfl d_Bytes_at_26 ?_
        refine j_goto (pc := 27) C (tgt := 31) d_Bytes_at_27 (by decide) ?_
        exact j_iret (pc := 31) C hr rfl () trivial [0, 1] rfl (by decide) (by decide) (by decide) d_Bytes_at_31
set_option maxHeartbeats 4000000 in
set_option maxRecDepth 100000 in
theorem c_at_15 (l : Launch) (D : va_G) (y : Nat → ClassId) (h : Nat) (a : Nat) (k : Int32) (f : Nat → Int32) (v : Int32)  : CT l D y ⟨"NineBoards$Bytes", "at", "(I)I"⟩ prog_2_method_5_code 2 (some .int) ({ frames := 0, cells := 0, slots := 0, locals := 0 } : Room) [.ref h, .int v] [(h, .inr (0, [.ref a, .int k])), (a, .inl (y 0, 15, .inl f))] (QI D [(h, .inr (0, [.ref a, .int k])), (a, .inl (y 0, 15, .inl f))] (fun (r : Int32) (u : Unit) => True) (fun _ => [(h, .inr (0, [.ref a, .int k])), (a, .inl (y 0, 15, .inl f))])) := by
  refine CT.of (by decide) (nb rfl) ?_
  intro p e s m args below meth c C hr
  refine j_lv (lv' := [(0, .ref h), (1, .int v)]) rfl ?_
  refine j_iload_n (pc := 0) C d_Bytes_at_0 rfl 1 rfl ?_
  refine j_if_lt (pc := 1) C (tgt := 30) d_Bytes_at_1 (by decide) (fun c1 => ?_) (fun c1 => ?_)
  · refine j_iconst (pc := 30) C (v := (-1)) d_Bytes_at_30 (by decide) ?_
    exact j_iret (pc := 31) C hr rfl () trivial [0, 1] rfl (by decide) (by decide) (by decide) d_Bytes_at_31
  · refine j_iload_n (pc := 4) C d_Bytes_at_4 rfl 1 rfl ?_
    refine j_aload_n (pc := 5) C d_Bytes_at_5 rfl 0 rfl ?_
    refine j_get (pc := 6) C gf_Bytes_21 0 rfl rfl d_Bytes_at_6 ?_
    refine j_icmp_ge (pc := 9) C (tgt := 30) d_Bytes_at_9 (by decide) (fun c2 => ?_) (fun c2 => ?_)
    · refine j_iconst (pc := 30) C (v := (-1)) d_Bytes_at_30 (by decide) ?_
      exact j_iret (pc := 31) C hr rfl () trivial [0, 1] rfl (by decide) (by decide) (by decide) d_Bytes_at_31
    · refine j_iload_n (pc := 12) C d_Bytes_at_12 rfl 1 rfl ?_
      refine j_aload_n (pc := 13) C d_Bytes_at_13 rfl 0 rfl ?_
      refine j_get (pc := 14) C gf_Bytes_15 0 rfl rfl d_Bytes_at_14 ?_
      refine j_alen (pc := 17) C 1 0 rfl rfl (v := 15) rfl d_Bytes_at_17 ?_
      refine j_icmp_ge (pc := 18) C (tgt := 30) d_Bytes_at_18 (by decide) (fun c3 => ?_) (fun c3 => ?_)
      · refine j_iconst (pc := 30) C (v := (-1)) d_Bytes_at_30 (by decide) ?_
        exact j_iret (pc := 31) C hr rfl () trivial [0, 1] rfl (by decide) (by decide) (by decide) d_Bytes_at_31
      · refine j_aload_n (pc := 21) C d_Bytes_at_21 rfl 0 rfl ?_
        refine j_get (pc := 22) C gf_Bytes_15 0 rfl rfl d_Bytes_at_22 ?_
        refine j_iload_n (pc := 25) C d_Bytes_at_25 rfl 1 rfl ?_
        refine j_iald (pc := 26) C 1 rfl (v := f v.toNatClampNeg) (pk_in2 c1 c3) rfl d_Bytes_at_26 ?_
        refine j_goto (pc := 27) C (tgt := 31) d_Bytes_at_27 (by decide) ?_
        exact j_iret (pc := 31) C hr rfl () trivial [0, 1] rfl (by decide) (by decide) (by decide) d_Bytes_at_31
set_option maxHeartbeats 4000000 in
set_option maxRecDepth 100000 in
theorem c_put_S (l : Launch) (D : va_G) (y : Nat → ClassId) (h : Nat) (a : Nat) (k : Int32) (f : Nat → Int32) (v : Int32)  : CT l D y ⟨"NineBoards$Bytes", "put", "(I)V"⟩ prog_2_method_2_code 2 none ({ frames := 0, cells := 0, slots := 0, locals := 0 } : Room) [.ref h, .int v] [(h, .inr (0, [.ref a, .int k])), (a, .inl (y 0, 15, .inl f))] (QV D [(h, .inr (0, [.ref a, .int k])), (a, .inl (y 0, 15, .inl f))] (fun (_ : Int32 × (Nat → Int32)) => True) (fun u => [(h, .inr (0, [.ref a, .int u.1])), (a, .inl (y 0, 15, .inl u.2))])) := by
  refine CT.of (by decide) (nb rfl) ?_
  intro p e s m args below meth c C hr
  refine j_lv (lv' := [(0, .ref h), (1, .int v)]) rfl ?_
  refine j_aload_n (pc := 0) C d_Bytes_put_0 rfl 0 rfl ?_
  refine j_get (pc := 1) C gf_Bytes_21 0 rfl rfl d_Bytes_put_1 ?_
  refine j_if_lt (pc := 4) C (tgt := 43) d_Bytes_put_4 (by decide) (fun c1 => ?_) (fun c1 => ?_)
  · exact j_vret (pc := 43) C hr (k, f) trivial [0, 1] rfl (by decide) (by decide) (by decide) d_Bytes_put_43
  · refine j_aload_n (pc := 7) C d_Bytes_put_7 rfl 0 rfl ?_
    refine j_get (pc := 8) C gf_Bytes_21 0 rfl rfl d_Bytes_put_8 ?_
    refine j_aload_n (pc := 11) C d_Bytes_put_11 rfl 0 rfl ?_
    refine j_get (pc := 12) C gf_Bytes_15 0 rfl rfl d_Bytes_put_12 ?_
    refine j_alen (pc := 15) C 1 0 rfl rfl (v := 15) rfl d_Bytes_put_15 ?_
    refine j_icmp_ge (pc := 16) C (tgt := 43) d_Bytes_put_16 (by decide) (fun c2 => ?_) (fun c2 => ?_)
    · exact j_vret (pc := 43) C hr (k, f) trivial [0, 1] rfl (by decide) (by decide) (by decide) d_Bytes_put_43
    · refine j_aload_n (pc := 19) C d_Bytes_put_19 rfl 0 rfl ?_
      refine j_get (pc := 20) C gf_Bytes_15 0 rfl rfl d_Bytes_put_20 ?_
      refine j_aload_n (pc := 23) C d_Bytes_put_23 rfl 0 rfl ?_
      refine j_get (pc := 24) C gf_Bytes_21 0 rfl rfl d_Bytes_put_24 ?_
      refine j_iload_n (pc := 27) C d_Bytes_put_27 rfl 1 rfl ?_
      refine j_sipush (pc := 28) C (v := 255) d_Bytes_put_28 (by decide) ?_
      refine j_iand (pc := 31) C (v := v &&& 255) d_Bytes_put_31 rfl ?_
      refine j_iast (pc := 32) C 1 rfl (ws' := [(h, .inr (0, [.ref a, .int k])), (a, .inl (y 0, 15, .inl (upd f k.toNatClampNeg (v &&& 255))))]) (pk_in2 c1 c2) rfl d_Bytes_put_32 ?_
      refine j_aload_n (pc := 33) C d_Bytes_put_33 rfl 0 rfl ?_
      refine j_dup (pc := 34) C d_Bytes_put_34 rfl ?_
      refine j_get (pc := 35) C gf_Bytes_21 0 rfl rfl d_Bytes_put_35 ?_
      refine j_iconst (pc := 38) C (v := 1) d_Bytes_put_38 (by decide) ?_
      refine j_iadd (pc := 39) C (v := k + 1) d_Bytes_put_39 rfl ?_
      refine j_put (pc := 40) C pf_Bytes_21 0 (ws' := [(h, .inr (0, [.ref a, .int (k + 1)])), (a, .inl (y 0, 15, .inl (upd f k.toNatClampNeg (v &&& 255))))]) rfl rfl rfl (nl rfl) rfl d_Bytes_put_40 ?_
      exact j_vret (pc := 43) C hr (k + 1, (upd f k.toNatClampNeg (v &&& 255))) trivial [0, 1] rfl (by decide) (by decide) (by decide) d_Bytes_put_43
set_option maxHeartbeats 4000000 in
set_option maxRecDepth 100000 in
theorem c_putTwo_S (l : Launch) (D : va_G) (y : Nat → ClassId) (h : Nat) (a : Nat) (k : Int32) (f : Nat → Int32) (v : Int32)  : CT l D y ⟨"NineBoards$Bytes", "putTwo", "(I)V"⟩ prog_2_method_3_code 2 none ({ frames := 1, cells := 0, slots := 0, locals := 21 } : Room) [.ref h, .int v] [(h, .inr (0, [.ref a, .int k])), (a, .inl (y 0, 15, .inl f))] (QV D [(h, .inr (0, [.ref a, .int k])), (a, .inl (y 0, 15, .inl f))] (fun (_ : Int32 × (Nat → Int32)) => True) (fun u => [(h, .inr (0, [.ref a, .int u.1])), (a, .inl (y 0, 15, .inl u.2))])) := by
  refine CT.of (by decide) (nb rfl) ?_
  intro p e s m args below meth c C hr
  refine j_lv (lv' := [(0, .ref h), (1, .int v)]) rfl ?_
  refine j_aload_n (pc := 0) C d_Bytes_putTwo_0 rfl 0 rfl ?_
  refine j_iload_n (pc := 1) C d_Bytes_putTwo_1 rfl 1 rfl ?_
  refine j_bipush (pc := 2) C (v := 8) d_Bytes_putTwo_2 (by decide) ?_
  refine j_ishr (pc := 4) C (v := v >>> (8 &&& 31)) d_Bytes_putTwo_4 rfl ?_
  refine j_callVv (pc := 5) C (c_put_S l D y h a k f (v >>> (8 &&& 31))) kw_Bytes_25 kv_Bytes_put 0 0 rfl rfl ⟨by decide, by decide⟩ ⟨by decide, by decide⟩ (wr := []) [0, 1] [] rfl rfl (by decide) (by decide) (by decide) (As := [.int (v >>> (8 &&& 31))]) (rest := []) rfl (nb rfl) rfl d_Bytes_putTwo_5 (fun u1 _ => ?_)
  refine j_ws (ws' := [(h, .inr (0, [.ref a, .int u1.1])), (a, .inl (y 0, 15, .inl u1.2))]) rfl ?_
  refine j_aload_n (pc := 8) C d_Bytes_putTwo_8 rfl 0 rfl ?_
  refine j_iload_n (pc := 9) C d_Bytes_putTwo_9 rfl 1 rfl ?_
  refine j_callVv (pc := 10) C (c_put_S l D y h a u1.1 u1.2 v) kw_Bytes_25 kv_Bytes_put 0 0 rfl rfl ⟨by decide, by decide⟩ ⟨by decide, by decide⟩ (wr := []) [0, 1] [] rfl rfl (by decide) (by decide) (by decide) (As := [.int v]) (rest := []) rfl (nb rfl) rfl d_Bytes_putTwo_10 (fun u2 _ => ?_)
  refine j_ws (ws' := [(h, .inr (0, [.ref a, .int u2.1])), (a, .inl (y 0, 15, .inl u2.2))]) rfl ?_
  exact j_vret (pc := 13) C hr (u2.1, u2.2) trivial [0, 1] rfl (by decide) (by decide) (by decide) d_Bytes_putTwo_13
theorem d_Bytes_twoAt_0 : decode prog_2_method_6_code 0 = .ok (.aload_n 0, 1) := by decide +kernel
theorem d_Bytes_twoAt_1 : decode prog_2_method_6_code 1 = .ok (.iload_n 1, 1) := by decide +kernel
theorem d_Bytes_twoAt_2 : decode prog_2_method_6_code 2 = .ok (.invokevirtual 32, 3) := by decide +kernel
theorem kw_Bytes_32 : KW "NineBoards$Bytes" 32 ⟨"NineBoards$Bytes", "at", "(I)I"⟩ prog_2_method_5_code 2 (some .int) 1 := ⟨(mt_5 (List.mem_of_getElem? (i := 27) rfl) rfl), (mt_1 (List.mem_of_getElem? (i := 2) rfl) rfl), (mt_5 (List.mem_of_getElem? (i := 30) rfl) rfl), by decide +kernel⟩
theorem kv_Bytes_at : Cond.instanceMethod ⟨"NineBoards$Bytes", "at", "(I)I"⟩ ∈ TB ∧ Cond.selects "NineBoards$Bytes" ⟨"NineBoards$Bytes", "at", "(I)I"⟩ ⟨"NineBoards$Bytes", "at", "(I)I"⟩ ∈ TB := ⟨(mt_5 (List.mem_of_getElem? (i := 28) rfl) rfl), (mt_5 (List.mem_of_getElem? (i := 29) rfl) rfl)⟩
theorem d_Bytes_twoAt_5 : decode prog_2_method_6_code 5 = .ok (.sipush 256, 3) := by decide +kernel
theorem d_Bytes_twoAt_8 : decode prog_2_method_6_code 8 = .ok (.imul, 1) := by decide +kernel
theorem d_Bytes_twoAt_9 : decode prog_2_method_6_code 9 = .ok (.aload_n 0, 1) := by decide +kernel
theorem d_Bytes_twoAt_10 : decode prog_2_method_6_code 10 = .ok (.iload_n 1, 1) := by decide +kernel
theorem d_Bytes_twoAt_11 : decode prog_2_method_6_code 11 = .ok (.iconst 1, 1) := by decide +kernel
theorem d_Bytes_twoAt_12 : decode prog_2_method_6_code 12 = .ok (.iadd, 1) := by decide +kernel
theorem d_Bytes_twoAt_13 : decode prog_2_method_6_code 13 = .ok (.invokevirtual 32, 3) := by decide +kernel
theorem d_Bytes_twoAt_16 : decode prog_2_method_6_code 16 = .ok (.iadd, 1) := by decide +kernel
theorem d_Bytes_twoAt_17 : decode prog_2_method_6_code 17 = .ok (.ireturn, 1) := by decide +kernel
set_option maxHeartbeats 4000000 in
set_option maxRecDepth 100000 in
theorem c_twoAt (l : Launch) (D : va_G) (y : Nat → ClassId) (h : Nat) (a : Nat) (k : Int32) (f : Nat → Int32) (v : Int32)  : CT l D y ⟨"NineBoards$Bytes", "twoAt", "(I)I"⟩ prog_2_method_6_code 2 (some .int) ({ frames := 1, cells := 0, slots := 0, locals := 21 } : Room) [.ref h, .int v] [(h, .inr (0, [.ref a, .int k])), (a, .inl (y 0, 1600, .inl f))] (QI D [(h, .inr (0, [.ref a, .int k])), (a, .inl (y 0, 1600, .inl f))] (fun (r : Int32) (u : Unit) => True) (fun _ => [(h, .inr (0, [.ref a, .int k])), (a, .inl (y 0, 1600, .inl f))])) := by
  refine CT.of (by decide) (nb rfl) ?_
  intro p e s m args below meth c C hr
  refine j_lv (lv' := [(0, .ref h), (1, .int v)]) rfl ?_
  refine j_aload_n (pc := 0) C d_Bytes_twoAt_0 rfl 0 rfl ?_
  refine j_iload_n (pc := 1) C d_Bytes_twoAt_1 rfl 1 rfl ?_
  refine j_callVi (pc := 2) C (c_at_1600 l D y h a k f v) kw_Bytes_32 kv_Bytes_at 0 0 rfl rfl ⟨by decide, by decide⟩ ⟨by decide, by decide⟩ (wr := []) [0, 1] [] rfl rfl (by decide) (by decide) (by decide) (As := [.int v]) (rest := []) rfl (nb rfl) rfl d_Bytes_twoAt_2 (fun r1 _ hr1 => ?_)
  refine j_ws (ws' := [(h, .inr (0, [.ref a, .int k])), (a, .inl (y 0, 1600, .inl f))]) rfl ?_
  refine j_sipush (pc := 5) C (v := 256) d_Bytes_twoAt_5 (by decide) ?_
  refine j_imul (pc := 8) C (v := r1 * 256) d_Bytes_twoAt_8 rfl ?_
  refine j_aload_n (pc := 9) C d_Bytes_twoAt_9 rfl 0 rfl ?_
  refine j_iload_n (pc := 10) C d_Bytes_twoAt_10 rfl 1 rfl ?_
  refine j_iconst (pc := 11) C (v := 1) d_Bytes_twoAt_11 (by decide) ?_
  refine j_iadd (pc := 12) C (v := v + 1) d_Bytes_twoAt_12 rfl ?_
  refine j_callVi (pc := 13) C (c_at_1600 l D y h a k f (v + 1)) kw_Bytes_32 kv_Bytes_at 0 0 rfl rfl ⟨by decide, by decide⟩ ⟨by decide, by decide⟩ (wr := []) [0, 1] [] rfl rfl (by decide) (by decide) (by decide) (As := [.int (v + 1)]) (rest := [.int (r1 * 256)]) rfl (nb rfl) rfl d_Bytes_twoAt_13 (fun r2 _ hr2 => ?_)
  refine j_ws (ws' := [(h, .inr (0, [.ref a, .int k])), (a, .inl (y 0, 1600, .inl f))]) rfl ?_
  refine j_iadd (pc := 16) C (v := (r1 * 256) + r2) d_Bytes_twoAt_16 rfl ?_
  exact j_iret (pc := 17) C hr rfl () trivial [0, 1] rfl (by decide) (by decide) (by decide) d_Bytes_twoAt_17

set_option maxHeartbeats 4000000 in
set_option maxRecDepth 100000 in
theorem lp_check_1600 {p : Program} {l : Launch} {e : Env} {s : State} {m : MethodId} {args : Array Value} {below : List Frame} {meth : Method} {c : Code} {Q : State → Prop} {D : va_G} {y : Nat → ClassId} {A : Nat → Prop} (C : Cx p s m args meth c D y A prog_2_method_7_code 4 "NineBoards$Bytes" "check") (h : Nat) (a : Nat) (k : Int32) (f : Nat → Int32) (v : Int32) (kx : ∀ (cv : Int32) (i : Nat), J p l e ({ frames := 0, cells := 0, slots := 0, locals := 0 } : Room) s m args below meth c Q D A 4 [(h, .inr (0, [.ref a, .int k])), (a, .inl (y 0, 1600, .inl f))] [(0, .ref h), (1, .int v), (2, .int cv), (3, .int (nI i))] 0 0 40 []) : ∀ (n : Nat) (i : Nat) (cv : Int32), (i + n = 1600) → J p l e ({ frames := 0, cells := 0, slots := 0, locals := 0 } : Room) s m args below meth c Q D A 4 [(h, .inr (0, [.ref a, .int k])), (a, .inl (y 0, 1600, .inl f))] [(0, .ref h), (1, .int v), (2, .int cv), (3, .int (nI i))] 0 0 5 [] := by
  intro n
  induction n with
  | zero =>
    intro i cv hi
    obtain rfl : i = 1600 := by omega
    refine j_iload_n (pc := 5) C d_Bytes_check_5 rfl 3 rfl ?_
    refine j_iload_n (pc := 6) C d_Bytes_check_6 rfl 1 rfl ?_
    refine j_icmp_ge (pc := 7) C (tgt := 40) d_Bytes_check_7 (by decide) (fun c1 => ?_) (fun c1 => ?_)
    · exact kx _ _
    · refine j_iload_n (pc := 10) C d_Bytes_check_10 rfl 3 rfl ?_
      refine j_aload_n (pc := 11) C d_Bytes_check_11 rfl 0 rfl ?_
      refine j_get (pc := 12) C gf_Bytes_15 0 rfl rfl d_Bytes_check_12 ?_
      refine j_alen (pc := 15) C 1 0 rfl rfl (v := 1600) rfl d_Bytes_check_15 ?_
      refine j_icmp_geT (pc := 16) C (tgt := 40) d_Bytes_check_16 (by decide) (by decide) ?_
      exact kx _ _
  | succ n ih =>
    intro i cv hi
    refine j_iload_n (pc := 5) C d_Bytes_check_5 rfl 3 rfl ?_
    refine j_iload_n (pc := 6) C d_Bytes_check_6 rfl 1 rfl ?_
    refine j_icmp_ge (pc := 7) C (tgt := 40) d_Bytes_check_7 (by decide) (fun c1 => ?_) (fun c1 => ?_)
    · exact kx _ _
    · refine j_iload_n (pc := 10) C d_Bytes_check_10 rfl 3 rfl ?_
      refine j_aload_n (pc := 11) C d_Bytes_check_11 rfl 0 rfl ?_
      refine j_get (pc := 12) C gf_Bytes_15 0 rfl rfl d_Bytes_check_12 ?_
      refine j_alen (pc := 15) C 1 0 rfl rfl (v := 1600) rfl d_Bytes_check_15 ?_
      refine j_icmp_geF (pc := 16) C (tgt := 40) d_Bytes_check_16 (by decide) (show ¬ nI 1600 ≤ nI i from nI_ge (by omega) (by decide)) ?_
      refine j_iconst (pc := 19) C (v := 3) d_Bytes_check_19 (by decide) ?_
      refine j_iload_n (pc := 20) C d_Bytes_check_20 rfl 2 rfl ?_
      refine j_imul (pc := 21) C (v := 3 * cv) d_Bytes_check_21 rfl ?_
      refine j_aload_n (pc := 22) C d_Bytes_check_22 rfl 0 rfl ?_
      refine j_get (pc := 23) C gf_Bytes_15 0 rfl rfl d_Bytes_check_23 ?_
      refine j_iload_n (pc := 26) C d_Bytes_check_26 rfl 3 rfl ?_
      refine j_iald (pc := 27) C 1 rfl (v := f (nI i).toNatClampNeg) (vp_in_nI (by omega) (by decide)) rfl d_Bytes_check_27 ?_
      refine j_iadd (pc := 28) C (v := (3 * cv) + (f (nI i).toNatClampNeg)) d_Bytes_check_28 rfl ?_
      refine j_sipush (pc := 29) C (v := 251) d_Bytes_check_29 (by decide) ?_
      refine j_irem (pc := 32) C (v := ((3 * cv) + (f (nI i).toNatClampNeg)) - ((3 * cv) + (f (nI i).toNatClampNeg)) / 251 * 251) d_Bytes_check_32 (by decide) rfl ?_
      refine j_istore_n (pc := 33) C (lv' := [(2, .int (((3 * cv) + (f (nI i).toNatClampNeg)) - ((3 * cv) + (f (nI i).toNatClampNeg)) / 251 * 251)), (0, .ref h), (1, .int v), (3, .int (nI i))]) d_Bytes_check_33 rfl (by decide) rfl ?_
      refine j_iinc (pc := 34) C (v := nI (i + 1)) (lv' := [(3, .int (nI (i + 1))), (2, .int (((3 * cv) + (f (nI i).toNatClampNeg)) - ((3 * cv) + (f (nI i).toNatClampNeg)) / 251 * 251)), (0, .ref h), (1, .int v)]) d_Bytes_check_34 3 rfl (nI_1 _) (by decide) rfl ?_
      refine j_goto (pc := 37) C (tgt := 5) d_Bytes_check_37 (by decide) ?_
      refine j_locs (lv' := [(0, .ref h), (1, .int v), (2, .int (((3 * cv) + (f (nI i).toNatClampNeg)) - ((3 * cv) + (f (nI i).toNatClampNeg)) / 251 * 251)), (3, .int (nI (i + 1)))]) [2, 3, 1, 0] rfl ?_
      exact ih (i + 1) _ (by omega)
set_option maxHeartbeats 4000000 in
set_option maxRecDepth 100000 in
theorem c_check_1600 (l : Launch) (D : va_G) (y : Nat → ClassId) (h : Nat) (a : Nat) (k : Int32) (f : Nat → Int32) (v : Int32)  : CT l D y ⟨"NineBoards$Bytes", "check", "(I)I"⟩ prog_2_method_7_code 4 (some .int) ({ frames := 0, cells := 0, slots := 0, locals := 0 } : Room) [.ref h, .int v] [(h, .inr (0, [.ref a, .int k])), (a, .inl (y 0, 1600, .inl f))] (QI D [(h, .inr (0, [.ref a, .int k])), (a, .inl (y 0, 1600, .inl f))] (fun (r : Int32) (u : Unit) => True) (fun _ => [(h, .inr (0, [.ref a, .int k])), (a, .inl (y 0, 1600, .inl f))])) := by
  refine CT.of (by decide) (nb rfl) ?_
  intro p e s m args below meth c C hr
  refine j_lv (lv' := [(0, .ref h), (1, .int v)]) rfl ?_
  refine j_bipush (pc := 0) C (v := 67) d_Bytes_check_0 (by decide) ?_
  refine j_istore_n (pc := 2) C (lv' := [(2, .int 67), (0, .ref h), (1, .int v)]) d_Bytes_check_2 rfl (by decide) rfl ?_
  refine j_iconst (pc := 3) C (v := 0) d_Bytes_check_3 (by decide) ?_
  refine j_istore_n (pc := 4) C (lv' := [(3, .int 0), (2, .int 67), (0, .ref h), (1, .int v)]) d_Bytes_check_4 rfl (by decide) rfl ?_
  refine j_locs (lv' := [(0, .ref h), (1, .int v), (2, .int 67), (3, .int 0)]) [2, 3, 1, 0] rfl ?_
  refine j_lv (lv' := [(0, .ref h), (1, .int v), (2, .int 67), (3, .int (nI 0))]) rfl ?_
  refine lp_check_1600 C h a k f v (fun cv i => ?_) 1600 0 _ (by omega)
  refine j_iload_n (pc := 40) C d_Bytes_check_40 rfl 2 rfl ?_
  exact j_iret (pc := 41) C hr rfl () trivial [0, 1] rfl (by decide) (by decide) (by decide) d_Bytes_check_41

set_option maxHeartbeats 4000000 in
set_option maxRecDepth 100000 in
theorem lp_check_15 {p : Program} {l : Launch} {e : Env} {s : State} {m : MethodId} {args : Array Value} {below : List Frame} {meth : Method} {c : Code} {Q : State → Prop} {D : va_G} {y : Nat → ClassId} {A : Nat → Prop} (C : Cx p s m args meth c D y A prog_2_method_7_code 4 "NineBoards$Bytes" "check") (h : Nat) (a : Nat) (k : Int32) (f : Nat → Int32) (v : Int32) (kx : ∀ (cv : Int32) (i : Nat), J p l e ({ frames := 0, cells := 0, slots := 0, locals := 0 } : Room) s m args below meth c Q D A 4 [(h, .inr (0, [.ref a, .int k])), (a, .inl (y 0, 15, .inl f))] [(0, .ref h), (1, .int v), (2, .int cv), (3, .int (nI i))] 0 0 40 []) : ∀ (n : Nat) (i : Nat) (cv : Int32), (i + n = 15) → J p l e ({ frames := 0, cells := 0, slots := 0, locals := 0 } : Room) s m args below meth c Q D A 4 [(h, .inr (0, [.ref a, .int k])), (a, .inl (y 0, 15, .inl f))] [(0, .ref h), (1, .int v), (2, .int cv), (3, .int (nI i))] 0 0 5 [] := by
  intro n
  induction n with
  | zero =>
    intro i cv hi
    obtain rfl : i = 15 := by omega
    refine j_iload_n (pc := 5) C d_Bytes_check_5 rfl 3 rfl ?_
    refine j_iload_n (pc := 6) C d_Bytes_check_6 rfl 1 rfl ?_
    refine j_icmp_ge (pc := 7) C (tgt := 40) d_Bytes_check_7 (by decide) (fun c1 => ?_) (fun c1 => ?_)
    · exact kx _ _
    · refine j_iload_n (pc := 10) C d_Bytes_check_10 rfl 3 rfl ?_
      refine j_aload_n (pc := 11) C d_Bytes_check_11 rfl 0 rfl ?_
      refine j_get (pc := 12) C gf_Bytes_15 0 rfl rfl d_Bytes_check_12 ?_
      refine j_alen (pc := 15) C 1 0 rfl rfl (v := 15) rfl d_Bytes_check_15 ?_
      refine j_icmp_geT (pc := 16) C (tgt := 40) d_Bytes_check_16 (by decide) (by decide) ?_
      exact kx _ _
  | succ n ih =>
    intro i cv hi
    refine j_iload_n (pc := 5) C d_Bytes_check_5 rfl 3 rfl ?_
    refine j_iload_n (pc := 6) C d_Bytes_check_6 rfl 1 rfl ?_
    refine j_icmp_ge (pc := 7) C (tgt := 40) d_Bytes_check_7 (by decide) (fun c1 => ?_) (fun c1 => ?_)
    · exact kx _ _
    · refine j_iload_n (pc := 10) C d_Bytes_check_10 rfl 3 rfl ?_
      refine j_aload_n (pc := 11) C d_Bytes_check_11 rfl 0 rfl ?_
      refine j_get (pc := 12) C gf_Bytes_15 0 rfl rfl d_Bytes_check_12 ?_
      refine j_alen (pc := 15) C 1 0 rfl rfl (v := 15) rfl d_Bytes_check_15 ?_
      refine j_icmp_geF (pc := 16) C (tgt := 40) d_Bytes_check_16 (by decide) (show ¬ nI 15 ≤ nI i from nI_ge (by omega) (by decide)) ?_
      refine j_iconst (pc := 19) C (v := 3) d_Bytes_check_19 (by decide) ?_
      refine j_iload_n (pc := 20) C d_Bytes_check_20 rfl 2 rfl ?_
      refine j_imul (pc := 21) C (v := 3 * cv) d_Bytes_check_21 rfl ?_
      refine j_aload_n (pc := 22) C d_Bytes_check_22 rfl 0 rfl ?_
      refine j_get (pc := 23) C gf_Bytes_15 0 rfl rfl d_Bytes_check_23 ?_
      refine j_iload_n (pc := 26) C d_Bytes_check_26 rfl 3 rfl ?_
      refine j_iald (pc := 27) C 1 rfl (v := f (nI i).toNatClampNeg) (vp_in_nI (by omega) (by decide)) rfl d_Bytes_check_27 ?_
      refine j_iadd (pc := 28) C (v := (3 * cv) + (f (nI i).toNatClampNeg)) d_Bytes_check_28 rfl ?_
      refine j_sipush (pc := 29) C (v := 251) d_Bytes_check_29 (by decide) ?_
      refine j_irem (pc := 32) C (v := ((3 * cv) + (f (nI i).toNatClampNeg)) - ((3 * cv) + (f (nI i).toNatClampNeg)) / 251 * 251) d_Bytes_check_32 (by decide) rfl ?_
      refine j_istore_n (pc := 33) C (lv' := [(2, .int (((3 * cv) + (f (nI i).toNatClampNeg)) - ((3 * cv) + (f (nI i).toNatClampNeg)) / 251 * 251)), (0, .ref h), (1, .int v), (3, .int (nI i))]) d_Bytes_check_33 rfl (by decide) rfl ?_
      refine j_iinc (pc := 34) C (v := nI (i + 1)) (lv' := [(3, .int (nI (i + 1))), (2, .int (((3 * cv) + (f (nI i).toNatClampNeg)) - ((3 * cv) + (f (nI i).toNatClampNeg)) / 251 * 251)), (0, .ref h), (1, .int v)]) d_Bytes_check_34 3 rfl (nI_1 _) (by decide) rfl ?_
      refine j_goto (pc := 37) C (tgt := 5) d_Bytes_check_37 (by decide) ?_
      refine j_locs (lv' := [(0, .ref h), (1, .int v), (2, .int (((3 * cv) + (f (nI i).toNatClampNeg)) - ((3 * cv) + (f (nI i).toNatClampNeg)) / 251 * 251)), (3, .int (nI (i + 1)))]) [2, 3, 1, 0] rfl ?_
      exact ih (i + 1) _ (by omega)
set_option maxHeartbeats 4000000 in
set_option maxRecDepth 100000 in
theorem c_check_15 (l : Launch) (D : va_G) (y : Nat → ClassId) (h : Nat) (a : Nat) (k : Int32) (f : Nat → Int32) (v : Int32)  : CT l D y ⟨"NineBoards$Bytes", "check", "(I)I"⟩ prog_2_method_7_code 4 (some .int) ({ frames := 0, cells := 0, slots := 0, locals := 0 } : Room) [.ref h, .int v] [(h, .inr (0, [.ref a, .int k])), (a, .inl (y 0, 15, .inl f))] (QI D [(h, .inr (0, [.ref a, .int k])), (a, .inl (y 0, 15, .inl f))] (fun (r : Int32) (u : Unit) => True) (fun _ => [(h, .inr (0, [.ref a, .int k])), (a, .inl (y 0, 15, .inl f))])) := by
  refine CT.of (by decide) (nb rfl) ?_
  intro p e s m args below meth c C hr
  refine j_lv (lv' := [(0, .ref h), (1, .int v)]) rfl ?_
  refine j_bipush (pc := 0) C (v := 67) d_Bytes_check_0 (by decide) ?_
  refine j_istore_n (pc := 2) C (lv' := [(2, .int 67), (0, .ref h), (1, .int v)]) d_Bytes_check_2 rfl (by decide) rfl ?_
  refine j_iconst (pc := 3) C (v := 0) d_Bytes_check_3 (by decide) ?_
  refine j_istore_n (pc := 4) C (lv' := [(3, .int 0), (2, .int 67), (0, .ref h), (1, .int v)]) d_Bytes_check_4 rfl (by decide) rfl ?_
  refine j_locs (lv' := [(0, .ref h), (1, .int v), (2, .int 67), (3, .int 0)]) [2, 3, 1, 0] rfl ?_
  refine j_lv (lv' := [(0, .ref h), (1, .int v), (2, .int 67), (3, .int (nI 0))]) rfl ?_
  refine lp_check_15 C h a k f v (fun cv i => ?_) 15 0 _ (by omega)
  refine j_iload_n (pc := 40) C d_Bytes_check_40 rfl 2 rfl ?_
  exact j_iret (pc := 41) C hr rfl () trivial [0, 1] rfl (by decide) (by decide) (by decide) d_Bytes_check_41
end
section
theorem Met_ofWF {l : Launch} {y : MethodName} {ws ws' : List Cond} {rm : Room} {Pc : Array Value → State → Prop} {Qc : Array Value → State → Outcome → State → Prop} {mc ms : Nat} {free : Addr → Prop} {cc : ByteArray} {maxL : Nat} {ret : Option FieldType}
    (hy : plainFor y = true) (hw : ws = Cond.code y cc maxL ret :: ws')
    (body : ∀ p e s m args below meth c s₁, BodyLoose p l y (headSpec ws rm) cc maxL ret e s m args below meth c s₁ → c.maxLocals = maxL → Pc args s →
      W p l e (headSpec ws rm).room s m args below meth c s.heap [] 0 0 (MQ below Qc args s mc ms free) (entryFrame m args maxL)) : Met l y ws rm Pc Qc mc ms free := by
  refine MetFree.of_bodySF (code := cc) (maxLocals := maxL) (ret := ret) hy ?_ ?_
  · intro args s m h hn
    obtain ⟨meth, c, h1, h2, h3, h4, h5, h6, -, -⟩ := Cond.code_spec hn (atoms_spec (ws := ws) h _ (by rw [hw]; exact List.mem_cons_self))
    exact ⟨meth, c, h1, h2, h3, h4, h5, h6⟩
  · intro p e s m args below meth c s₁ B hml hP _
    have hh0 : s₁.heap = s.heap := by rw [B.state]; rfl
    obtain ⟨t, a1, o, b1, b2, b3⟩ := body p e s m args below meth c s₁ B hml hP s₁ hh0 (Stand.of_body B)
    exact ⟨t, o, a1, b1, b2, ⟨b3.1, b3.2⟩⟩
theorem CT_ofF {l : Launch} {D : va_G} {y : Nat → ClassId} {nm : MethodName} {b : ByteArray} {mL : Nat} {ret : Option FieldType} {rm : Room} {av : List Value} {ws : va_W} {Qf : Nat → Array Value → State → Outcome → State → Prop} (hy : plainFor nm = true) (hav : (lg_sl av).length ≤ mL)
    (body : ∀ (p : Program) (e : Env) (s : State) (m : MethodId) (args : Array Value) (below : List Frame) (meth : Method) (c : Code), Cx p s m args meth c D y (va_A ws s.heap.size) b mL nm.cls nm.name → meth.sig.returnType = ret → J p l e rm s m args below meth c (MQ below (Qf s.heap.size) args s rm.cells rm.slots (va_A ws s.heap.size)) D (va_A ws s.heap.size) mL ws (lv_args 0 av) 0 0 0 []) : CT l D y nm b mL ret rm av ws Qf := by
  intro sz
  refine Met_ofWF (cc := b) (maxL := mL) (ret := ret) hy rfl ?_
  intro p e s m args below meth c s₁ B hml hv
  obtain ⟨rfl, hsz, hP, hK, hD0, hN⟩ := hv
  subst hsz
  have hts := atoms_spec (ws := Cond.code nm b mL ret :: TB) B.pre
  have hC : Cx p s m av.toArray meth c D y (va_A ws s.heap.size) b mL nm.cls nm.name := ⟨B.exec, B.bytes, hml, findClass_of_methodNamed B.named, fun w h => hts w (List.mem_cons_of_mem _ h), hK, fun q h => Or.inr h, B.notSynchronized, (name_of_methodNamed B.named B.method).1, hN⟩
  have hl := lv_entry av (n := mL) hav
  rw [lg_entry_eq]
  exact body p e s m av.toArray below meth c hC B.returns s.heap [] _ hP hD0.self va_S.rf hl
theorem d_Math_floorDiv_0 : decode prog_14_method_47_code 0 = .ok (.iload_n 0, 1) := by decide +kernel
theorem d_Math_floorDiv_1 : decode prog_14_method_47_code 1 = .ok (.iload_n 1, 1) := by decide +kernel
theorem d_Math_floorDiv_2 : decode prog_14_method_47_code 2 = .ok (.idiv, 1) := by decide +kernel
theorem d_Math_floorDiv_3 : decode prog_14_method_47_code 3 = .ok (.istore_n 2, 1) := by decide +kernel
theorem d_Math_floorDiv_4 : decode prog_14_method_47_code 4 = .ok (.iload_n 0, 1) := by decide +kernel
theorem d_Math_floorDiv_5 : decode prog_14_method_47_code 5 = .ok (.iload_n 1, 1) := by decide +kernel
theorem d_Math_floorDiv_6 : decode prog_14_method_47_code 6 = .ok (.ixor, 1) := by decide +kernel
theorem d_Math_floorDiv_7 : decode prog_14_method_47_code 7 = .ok (.ifCond .ge 14, 3) := by decide +kernel
theorem d_Math_floorDiv_21 : decode prog_14_method_47_code 21 = .ok (.iload_n 2, 1) := by decide +kernel
theorem d_Math_floorDiv_22 : decode prog_14_method_47_code 22 = .ok (.ireturn, 1) := by decide +kernel
theorem d_Math_floorDiv_10 : decode prog_14_method_47_code 10 = .ok (.iload_n 2, 1) := by decide +kernel
theorem d_Math_floorDiv_11 : decode prog_14_method_47_code 11 = .ok (.iload_n 1, 1) := by decide +kernel
theorem d_Math_floorDiv_12 : decode prog_14_method_47_code 12 = .ok (.imul, 1) := by decide +kernel
theorem d_Math_floorDiv_13 : decode prog_14_method_47_code 13 = .ok (.iload_n 0, 1) := by decide +kernel
theorem d_Math_floorDiv_14 : decode prog_14_method_47_code 14 = .ok (.if_icmp .eq 7, 3) := by decide +kernel
theorem d_Math_floorDiv_17 : decode prog_14_method_47_code 17 = .ok (.iload_n 2, 1) := by decide +kernel
theorem d_Math_floorDiv_18 : decode prog_14_method_47_code 18 = .ok (.iconst 1, 1) := by decide +kernel
theorem d_Math_floorDiv_19 : decode prog_14_method_47_code 19 = .ok (.isub, 1) := by decide +kernel
theorem d_Math_floorDiv_20 : decode prog_14_method_47_code 20 = .ok (.ireturn, 1) := by decide +kernel
set_option maxHeartbeats 4000000 in
set_option maxRecDepth 100000 in
theorem c_floorDiv (l : Launch) (D : va_G) (y : Nat → ClassId) (x : Int32) (z : Int32) (hz : ¬ z = 0) : CT l D y ⟨"java/lang/Math", "floorDiv", "(II)I"⟩ prog_14_method_47_code 3 (some .int) ({ frames := 0, cells := 0, slots := 0, locals := 0 } : Room) [.int x, .int z] [] (QI D [] (fun (r : Int32) (u : Unit) => True) (fun _ => [])) := by
  refine CT_ofF (by decide +kernel) (nb rfl) ?_
  intro p e s m args below meth c C hr
  refine j_lv (lv' := [(0, .int x), (1, .int z)]) rfl ?_
  refine j_iload_n (pc := 0) C d_Math_floorDiv_0 rfl 0 rfl ?_
  refine j_iload_n (pc := 1) C d_Math_floorDiv_1 rfl 1 rfl ?_
  refine j_idiv (pc := 2) C (v := x / z) d_Math_floorDiv_2 hz rfl ?_
  refine j_istore_n (pc := 3) C (lv' := [(2, .int (x / z)), (0, .int x), (1, .int z)]) d_Math_floorDiv_3 rfl (by decide) rfl ?_
  refine j_iload_n (pc := 4) C d_Math_floorDiv_4 rfl 1 rfl ?_
  refine j_iload_n (pc := 5) C d_Math_floorDiv_5 rfl 2 rfl ?_
  refine j_ixor (pc := 6) C (v := x ^^^ z) d_Math_floorDiv_6 rfl ?_
  refine j_if_ge (pc := 7) C (tgt := 21) d_Math_floorDiv_7 (by decide) (fun c1 => ?_) (fun c1 => ?_)
  · refine j_iload_n (pc := 21) C d_Math_floorDiv_21 rfl 0 rfl ?_
    exact j_iret (pc := 22) C hr rfl () trivial [] rfl (by decide) (by decide) (by decide) d_Math_floorDiv_22
  · refine j_iload_n (pc := 10) C d_Math_floorDiv_10 rfl 0 rfl ?_
    refine j_iload_n (pc := 11) C d_Math_floorDiv_11 rfl 2 rfl ?_
    refine j_imul (pc := 12) C (v := (x / z) * z) d_Math_floorDiv_12 rfl ?_
    refine j_iload_n (pc := 13) C d_Math_floorDiv_13 rfl 1 rfl ?_
    refine j_icmp_eq (pc := 14) C (tgt := 21) d_Math_floorDiv_14 (by decide) (fun c2 => ?_) (fun c2 => ?_)
    · refine j_iload_n (pc := 21) C d_Math_floorDiv_21 rfl 0 rfl ?_
      exact j_iret (pc := 22) C hr rfl () trivial [] rfl (by decide) (by decide) (by decide) d_Math_floorDiv_22
    · refine j_iload_n (pc := 17) C d_Math_floorDiv_17 rfl 0 rfl ?_
      refine j_iconst (pc := 18) C (v := 1) d_Math_floorDiv_18 (by decide) ?_
      refine j_isub (pc := 19) C (v := (x / z) - 1) d_Math_floorDiv_19 rfl ?_
      exact j_iret (pc := 20) C hr rfl () trivial [] rfl (by decide) (by decide) (by decide) d_Math_floorDiv_20
theorem d_Math_floorMod_0 : decode prog_14_method_50_code 0 = .ok (.iload_n 0, 1) := by decide +kernel
theorem d_Math_floorMod_1 : decode prog_14_method_50_code 1 = .ok (.iload_n 1, 1) := by decide +kernel
theorem d_Math_floorMod_2 : decode prog_14_method_50_code 2 = .ok (.irem, 1) := by decide +kernel
theorem d_Math_floorMod_3 : decode prog_14_method_50_code 3 = .ok (.istore_n 2, 1) := by decide +kernel
theorem d_Math_floorMod_4 : decode prog_14_method_50_code 4 = .ok (.iload_n 0, 1) := by decide +kernel
theorem d_Math_floorMod_5 : decode prog_14_method_50_code 5 = .ok (.iload_n 1, 1) := by decide +kernel
theorem d_Math_floorMod_6 : decode prog_14_method_50_code 6 = .ok (.ixor, 1) := by decide +kernel
theorem d_Math_floorMod_7 : decode prog_14_method_50_code 7 = .ok (.ifCond .ge 11, 3) := by decide +kernel
theorem d_Math_floorMod_18 : decode prog_14_method_50_code 18 = .ok (.iload_n 2, 1) := by decide +kernel
theorem d_Math_floorMod_19 : decode prog_14_method_50_code 19 = .ok (.ireturn, 1) := by decide +kernel
theorem d_Math_floorMod_10 : decode prog_14_method_50_code 10 = .ok (.iload_n 2, 1) := by decide +kernel
theorem d_Math_floorMod_11 : decode prog_14_method_50_code 11 = .ok (.ifCond .eq 7, 3) := by decide +kernel
theorem d_Math_floorMod_14 : decode prog_14_method_50_code 14 = .ok (.iload_n 2, 1) := by decide +kernel
theorem d_Math_floorMod_15 : decode prog_14_method_50_code 15 = .ok (.iload_n 1, 1) := by decide +kernel
theorem d_Math_floorMod_16 : decode prog_14_method_50_code 16 = .ok (.iadd, 1) := by decide +kernel
theorem d_Math_floorMod_17 : decode prog_14_method_50_code 17 = .ok (.ireturn, 1) := by decide +kernel
set_option maxHeartbeats 4000000 in
set_option maxRecDepth 100000 in
theorem c_floorMod (l : Launch) (D : va_G) (y : Nat → ClassId) (x : Int32) (z : Int32) (hz : ¬ z = 0) (hp : ¬ z ≤ 0) : CT l D y ⟨"java/lang/Math", "floorMod", "(II)I"⟩ prog_14_method_50_code 3 (some .int) ({ frames := 0, cells := 0, slots := 0, locals := 0 } : Room) [.int x, .int z] [] (QI D [] (fun (r : Int32) (u : Unit) => 0 ≤ r.toInt ∧ r.toInt < z.toInt) (fun _ => [])) := by
  refine CT_ofF (by decide +kernel) (nb rfl) ?_
  intro p e s m args below meth c C hr
  refine j_lv (lv' := [(0, .int x), (1, .int z)]) rfl ?_
  refine j_iload_n (pc := 0) C d_Math_floorMod_0 rfl 0 rfl ?_
  refine j_iload_n (pc := 1) C d_Math_floorMod_1 rfl 1 rfl ?_
  refine j_irem (pc := 2) C (v := x - x / z * z) d_Math_floorMod_2 hz rfl ?_
  refine j_istore_n (pc := 3) C (lv' := [(2, .int (x - x / z * z)), (0, .int x), (1, .int z)]) d_Math_floorMod_3 rfl (by decide) rfl ?_
  refine j_iload_n (pc := 4) C d_Math_floorMod_4 rfl 1 rfl ?_
  refine j_iload_n (pc := 5) C d_Math_floorMod_5 rfl 2 rfl ?_
  refine j_ixor (pc := 6) C (v := x ^^^ z) d_Math_floorMod_6 rfl ?_
  refine j_if_ge (pc := 7) C (tgt := 18) d_Math_floorMod_7 (by decide) (fun c1 => ?_) (fun c1 => ?_)
  · refine j_iload_n (pc := 18) C d_Math_floorMod_18 rfl 0 rfl ?_
    exact j_iret (pc := 19) C hr rfl () (by exact fm_T hp c1) [] rfl (by decide) (by decide) (by decide) d_Math_floorMod_19
  · refine j_iload_n (pc := 10) C d_Math_floorMod_10 rfl 0 rfl ?_
    refine j_if_eq (pc := 11) C (tgt := 18) d_Math_floorMod_11 (by decide) (fun c2 => ?_) (fun c2 => ?_)
    · refine j_iload_n (pc := 18) C d_Math_floorMod_18 rfl 0 rfl ?_
      exact j_iret (pc := 19) C hr rfl () (by exact fm_0 hp c2) [] rfl (by decide) (by decide) (by decide) d_Math_floorMod_19
    · refine j_iload_n (pc := 14) C d_Math_floorMod_14 rfl 0 rfl ?_
      refine j_iload_n (pc := 15) C d_Math_floorMod_15 rfl 2 rfl ?_
      refine j_iadd (pc := 16) C (v := (x - x / z * z) + z) d_Math_floorMod_16 rfl ?_
      exact j_iret (pc := 17) C hr rfl () (by exact fm_F hp c1 c2) [] rfl (by decide) (by decide) (by decide) d_Math_floorMod_17
theorem d_Lake_levelAt_0 : decode prog_5_method_7_code 0 = .ok (.aload_n 0, 1) := by decide +kernel
theorem d_Lake_levelAt_1 : decode prog_5_method_7_code 1 = .ok (.getfield 46, 3) := by decide +kernel
theorem gf_Lake_46 : GF "NineBoards$Lake" 46 2 1 := ⟨_, _, _, rfl, ci_Lake, by decide, (mt_2 (List.mem_of_getElem? (i := 33) rfl) rfl)⟩
theorem d_Lake_levelAt_4 : decode prog_5_method_7_code 4 = .ok (.ifCond .le 14, 3) := by decide +kernel
theorem d_Lake_levelAt_18 : decode prog_5_method_7_code 18 = .ok (.iconst 0, 1) := by decide +kernel
theorem d_Lake_levelAt_19 : decode prog_5_method_7_code 19 = .ok (.ireturn, 1) := by decide +kernel
theorem d_Lake_levelAt_7 : decode prog_5_method_7_code 7 = .ok (.iload_n 1, 1) := by decide +kernel
theorem d_Lake_levelAt_8 : decode prog_5_method_7_code 8 = .ok (.aload_n 0, 1) := by decide +kernel
theorem d_Lake_levelAt_9 : decode prog_5_method_7_code 9 = .ok (.getfield 46, 3) := by decide +kernel
theorem d_Lake_levelAt_12 : decode prog_5_method_7_code 12 = .ok (.invokestatic 78, 3) := by decide +kernel
theorem kw_Lake_78 : KW "NineBoards$Lake" 78 ⟨"java/lang/Math", "floorDiv", "(II)I"⟩ prog_14_method_47_code 3 (some .int) 2 := ⟨(mt_3 (List.mem_of_getElem? (i := 217) rfl) rfl), (mt_1 (List.mem_of_getElem? (i := 3) rfl) rfl), (mt_3 (List.mem_of_getElem? (i := 219) rfl) rfl), by decide +kernel⟩
theorem ks_Math_floorDiv : Cond.static ⟨"java/lang/Math", "floorDiv", "(II)I"⟩ ∈ TB := (mt_3 (List.mem_of_getElem? (i := 218) rfl) rfl)
theorem d_Lake_levelAt_15 : decode prog_5_method_7_code 15 = .ok (.goto 4, 3) := by decide +kernel
set_option maxHeartbeats 4000000 in
set_option maxRecDepth 100000 in
theorem c_levelAt (l : Launch) (D : va_G) (y : Nat → ClassId) (ad : Nat → Nat) (d : LD) (v : Int32)  : CT l D y ⟨"NineBoards$Lake", "levelAt", "(I)I"⟩ prog_5_method_7_code 2 (some .int) ({ frames := 1, cells := 0, slots := 0, locals := 22 } : Room) [.ref (ad 0), .int v] [(ad 0, .inr (2, [.int (d.1 0), .int (d.1 1), .int (d.1 2), .int (d.1 3), .ref (ad 1), .int (d.1 4), .ref (ad 11), .ref (ad 12), .ref (ad 2), .ref (ad 3), .int (d.1 5), .int (d.1 6), .int (d.1 7), .int (d.1 8)]))] (QI D [(ad 0, .inr (2, [.int (d.1 0), .int (d.1 1), .int (d.1 2), .int (d.1 3), .ref (ad 1), .int (d.1 4), .ref (ad 11), .ref (ad 12), .ref (ad 2), .ref (ad 3), .int (d.1 5), .int (d.1 6), .int (d.1 7), .int (d.1 8)]))] (fun (r : Int32) (u : Unit) => True) (fun _ => [(ad 0, .inr (2, [.int (d.1 0), .int (d.1 1), .int (d.1 2), .int (d.1 3), .ref (ad 1), .int (d.1 4), .ref (ad 11), .ref (ad 12), .ref (ad 2), .ref (ad 3), .int (d.1 5), .int (d.1 6), .int (d.1 7), .int (d.1 8)]))])) := by
  refine CT.of (by decide) (nb rfl) ?_
  intro p e s m args below meth c C hr
  refine j_lv (lv' := [(0, .ref (ad 0)), (1, .int v)]) rfl ?_
  refine j_aload_n (pc := 0) C d_Lake_levelAt_0 rfl 0 rfl ?_
  refine j_get (pc := 1) C gf_Lake_46 0 rfl rfl d_Lake_levelAt_1 ?_
  refine j_if_le (pc := 4) C (tgt := 18) d_Lake_levelAt_4 (by decide) (fun c1 => ?_) (fun c1 => ?_)
  · refine j_iconst (pc := 18) C (v := 0) d_Lake_levelAt_18 (by decide) ?_
    exact j_iret (pc := 19) C hr rfl () trivial [0] rfl (by decide) (by decide) (by decide) d_Lake_levelAt_19
  · refine j_iload_n (pc := 7) C d_Lake_levelAt_7 rfl 1 rfl ?_
    refine j_aload_n (pc := 8) C d_Lake_levelAt_8 rfl 0 rfl ?_
    refine j_get (pc := 9) C gf_Lake_46 0 rfl rfl d_Lake_levelAt_9 ?_
    refine j_callSi (pc := 12) C (c_floorDiv l D y v (d.1 1) (fun e => c1 (by rw [e]; decide))) kw_Lake_78 ks_Math_floorDiv ⟨by decide, by decide⟩ ⟨by decide, by decide⟩ (wr := [(ad 0, .inr (2, [.int (d.1 0), .int (d.1 1), .int (d.1 2), .int (d.1 3), .ref (ad 1), .int (d.1 4), .ref (ad 11), .ref (ad 12), .ref (ad 2), .ref (ad 3), .int (d.1 5), .int (d.1 6), .int (d.1 7), .int (d.1 8)]))]) [] [0] rfl rfl (by decide) (by decide) (by decide) (As := [.int v, .int (d.1 1)]) (rest := []) rfl (nb rfl) rfl d_Lake_levelAt_12 (fun r2 _ hr2 => ?_)
    refine j_ws (ws' := [(ad 0, .inr (2, [.int (d.1 0), .int (d.1 1), .int (d.1 2), .int (d.1 3), .ref (ad 1), .int (d.1 4), .ref (ad 11), .ref (ad 12), .ref (ad 2), .ref (ad 3), .int (d.1 5), .int (d.1 6), .int (d.1 7), .int (d.1 8)]))]) rfl ?_
    refine j_goto (pc := 15) C (tgt := 19) d_Lake_levelAt_15 (by decide) ?_
    exact j_iret (pc := 19) C hr rfl () trivial [0] rfl (by decide) (by decide) (by decide) d_Lake_levelAt_19
theorem d_Lake_villageOn_0 : decode prog_5_method_8_code 0 = .ok (.aload_n 0, 1) := by decide +kernel
theorem d_Lake_villageOn_1 : decode prog_5_method_8_code 1 = .ok (.getfield 58, 3) := by decide +kernel
theorem gf_Lake_58 : GF "NineBoards$Lake" 58 2 5 := ⟨_, _, _, rfl, ci_Lake, by decide, (mt_2 (List.mem_of_getElem? (i := 46) rfl) rfl)⟩
theorem d_Lake_villageOn_4 : decode prog_5_method_8_code 4 = .ok (.ifCond .le 14, 3) := by decide +kernel
theorem d_Lake_villageOn_18 : decode prog_5_method_8_code 18 = .ok (.iconst (-1), 1) := by decide +kernel
theorem d_Lake_villageOn_19 : decode prog_5_method_8_code 19 = .ok (.ireturn, 1) := by decide +kernel
theorem d_Lake_villageOn_7 : decode prog_5_method_8_code 7 = .ok (.iload_n 1, 1) := by decide +kernel
theorem d_Lake_villageOn_8 : decode prog_5_method_8_code 8 = .ok (.aload_n 0, 1) := by decide +kernel
theorem d_Lake_villageOn_9 : decode prog_5_method_8_code 9 = .ok (.getfield 58, 3) := by decide +kernel
theorem d_Lake_villageOn_12 : decode prog_5_method_8_code 12 = .ok (.invokestatic 84, 3) := by decide +kernel
theorem kw_Lake_84 : KW "NineBoards$Lake" 84 ⟨"java/lang/Math", "floorMod", "(II)I"⟩ prog_14_method_50_code 3 (some .int) 2 := ⟨(mt_4 (List.mem_of_getElem? (i := 31) rfl) rfl), (mt_1 (List.mem_of_getElem? (i := 3) rfl) rfl), (mt_4 (List.mem_of_getElem? (i := 33) rfl) rfl), by decide +kernel⟩
theorem ks_Math_floorMod : Cond.static ⟨"java/lang/Math", "floorMod", "(II)I"⟩ ∈ TB := (mt_4 (List.mem_of_getElem? (i := 32) rfl) rfl)
theorem d_Lake_villageOn_15 : decode prog_5_method_8_code 15 = .ok (.goto 4, 3) := by decide +kernel
set_option maxHeartbeats 4000000 in
set_option maxRecDepth 100000 in
theorem c_villageOn (l : Launch) (D : va_G) (y : Nat → ClassId) (ad : Nat → Nat) (d : LD) (n4 : Nat) (v : Int32) (h4 : d.1 4 = nI n4) (b4 : n4 ≤ 6) : CT l D y ⟨"NineBoards$Lake", "villageOn", "(I)I"⟩ prog_5_method_8_code 2 (some .int) ({ frames := 1, cells := 0, slots := 0, locals := 22 } : Room) [.ref (ad 0), .int v] [(ad 0, .inr (2, [.int (d.1 0), .int (d.1 1), .int (d.1 2), .int (d.1 3), .ref (ad 1), .int (d.1 4), .ref (ad 11), .ref (ad 12), .ref (ad 2), .ref (ad 3), .int (d.1 5), .int (d.1 6), .int (d.1 7), .int (d.1 8)]))] (QI D [(ad 0, .inr (2, [.int (d.1 0), .int (d.1 1), .int (d.1 2), .int (d.1 3), .ref (ad 1), .int (d.1 4), .ref (ad 11), .ref (ad 12), .ref (ad 2), .ref (ad 3), .int (d.1 5), .int (d.1 6), .int (d.1 7), .int (d.1 8)]))] (fun (r : Int32) (u : Unit) => r = -1 ∨ ∃ j : Nat, j < n4 ∧ r = nI j) (fun _ => [(ad 0, .inr (2, [.int (d.1 0), .int (d.1 1), .int (d.1 2), .int (d.1 3), .ref (ad 1), .int (d.1 4), .ref (ad 11), .ref (ad 12), .ref (ad 2), .ref (ad 3), .int (d.1 5), .int (d.1 6), .int (d.1 7), .int (d.1 8)]))])) := by
  refine CT.of (by decide) (nb rfl) ?_
  intro p e s m args below meth c C hr
  refine j_lv (lv' := [(0, .ref (ad 0)), (1, .int v)]) rfl ?_
  refine j_aload_n (pc := 0) C d_Lake_villageOn_0 rfl 0 rfl ?_
  refine j_get (pc := 1) C gf_Lake_58 0 rfl rfl d_Lake_villageOn_1 ?_
  refine j_if_le (pc := 4) C (tgt := 18) d_Lake_villageOn_4 (by decide) (fun c1 => ?_) (fun c1 => ?_)
  · refine j_iconst (pc := 18) C (v := (-1)) d_Lake_villageOn_18 (by decide) ?_
    exact j_iret (pc := 19) C hr rfl () (by exact Or.inl rfl) [0] rfl (by decide) (by decide) (by decide) d_Lake_villageOn_19
  · refine j_iload_n (pc := 7) C d_Lake_villageOn_7 rfl 1 rfl ?_
    refine j_aload_n (pc := 8) C d_Lake_villageOn_8 rfl 0 rfl ?_
    refine j_get (pc := 9) C gf_Lake_58 0 rfl rfl d_Lake_villageOn_9 ?_
    refine j_callSi (pc := 12) C (c_floorMod l D y v (d.1 4) (fun e => c1 (by rw [e]; decide)) c1) kw_Lake_84 ks_Math_floorMod ⟨by decide, by decide⟩ ⟨by decide, by decide⟩ (wr := [(ad 0, .inr (2, [.int (d.1 0), .int (d.1 1), .int (d.1 2), .int (d.1 3), .ref (ad 1), .int (d.1 4), .ref (ad 11), .ref (ad 12), .ref (ad 2), .ref (ad 3), .int (d.1 5), .int (d.1 6), .int (d.1 7), .int (d.1 8)]))]) [] [0] rfl rfl (by decide) (by decide) (by decide) (As := [.int v, .int (d.1 4)]) (rest := []) rfl (nb rfl) rfl d_Lake_villageOn_12 (fun r2 _ hr2 => ?_)
    refine j_ws (ws' := [(ad 0, .inr (2, [.int (d.1 0), .int (d.1 1), .int (d.1 2), .int (d.1 3), .ref (ad 1), .int (d.1 4), .ref (ad 11), .ref (ad 12), .ref (ad 2), .ref (ad 3), .int (d.1 5), .int (d.1 6), .int (d.1 7), .int (d.1 8)]))]) rfl ?_
    refine j_goto (pc := 15) C (tgt := 19) d_Lake_villageOn_15 (by decide) ?_
    exact j_iret (pc := 19) C hr rfl () (by exact Or.inr (vo_of hr2 h4 (by omega))) [0] rfl (by decide) (by decide) (by decide) d_Lake_villageOn_19
theorem d_Lake_daysUntil_0 : decode prog_5_method_9_code 0 = .ok (.aload_n 0, 1) := by decide +kernel
theorem d_Lake_daysUntil_1 : decode prog_5_method_9_code 1 = .ok (.getfield 58, 3) := by decide +kernel
theorem d_Lake_daysUntil_4 : decode prog_5_method_9_code 4 = .ok (.ifCond .le 16, 3) := by decide +kernel
theorem d_Lake_daysUntil_20 : decode prog_5_method_9_code 20 = .ok (.iconst (-1), 1) := by decide +kernel
theorem d_Lake_daysUntil_21 : decode prog_5_method_9_code 21 = .ok (.ireturn, 1) := by decide +kernel
theorem d_Lake_daysUntil_7 : decode prog_5_method_9_code 7 = .ok (.iload_n 1, 1) := by decide +kernel
theorem d_Lake_daysUntil_8 : decode prog_5_method_9_code 8 = .ok (.iload_n 2, 1) := by decide +kernel
theorem d_Lake_daysUntil_9 : decode prog_5_method_9_code 9 = .ok (.isub, 1) := by decide +kernel
theorem d_Lake_daysUntil_10 : decode prog_5_method_9_code 10 = .ok (.aload_n 0, 1) := by decide +kernel
theorem d_Lake_daysUntil_11 : decode prog_5_method_9_code 11 = .ok (.getfield 58, 3) := by decide +kernel
theorem d_Lake_daysUntil_14 : decode prog_5_method_9_code 14 = .ok (.invokestatic 84, 3) := by decide +kernel
theorem d_Lake_daysUntil_17 : decode prog_5_method_9_code 17 = .ok (.goto 4, 3) := by decide +kernel
set_option maxHeartbeats 4000000 in
set_option maxRecDepth 100000 in
theorem c_daysUntil (l : Launch) (D : va_G) (y : Nat → ClassId) (ad : Nat → Nat) (d : LD) (v : Int32) (w : Int32)  : CT l D y ⟨"NineBoards$Lake", "daysUntil", "(II)I"⟩ prog_5_method_9_code 3 (some .int) ({ frames := 1, cells := 0, slots := 0, locals := 22 } : Room) [.ref (ad 0), .int v, .int w] [(ad 0, .inr (2, [.int (d.1 0), .int (d.1 1), .int (d.1 2), .int (d.1 3), .ref (ad 1), .int (d.1 4), .ref (ad 11), .ref (ad 12), .ref (ad 2), .ref (ad 3), .int (d.1 5), .int (d.1 6), .int (d.1 7), .int (d.1 8)]))] (QI D [(ad 0, .inr (2, [.int (d.1 0), .int (d.1 1), .int (d.1 2), .int (d.1 3), .ref (ad 1), .int (d.1 4), .ref (ad 11), .ref (ad 12), .ref (ad 2), .ref (ad 3), .int (d.1 5), .int (d.1 6), .int (d.1 7), .int (d.1 8)]))] (fun (r : Int32) (u : Unit) => True) (fun _ => [(ad 0, .inr (2, [.int (d.1 0), .int (d.1 1), .int (d.1 2), .int (d.1 3), .ref (ad 1), .int (d.1 4), .ref (ad 11), .ref (ad 12), .ref (ad 2), .ref (ad 3), .int (d.1 5), .int (d.1 6), .int (d.1 7), .int (d.1 8)]))])) := by
  refine CT.of (by decide) (nb rfl) ?_
  intro p e s m args below meth c C hr
  refine j_lv (lv' := [(0, .ref (ad 0)), (1, .int v), (2, .int w)]) rfl ?_
  refine j_aload_n (pc := 0) C d_Lake_daysUntil_0 rfl 0 rfl ?_
  refine j_get (pc := 1) C gf_Lake_58 0 rfl rfl d_Lake_daysUntil_1 ?_
  refine j_if_le (pc := 4) C (tgt := 20) d_Lake_daysUntil_4 (by decide) (fun c1 => ?_) (fun c1 => ?_)
  · refine j_iconst (pc := 20) C (v := (-1)) d_Lake_daysUntil_20 (by decide) ?_
    exact j_iret (pc := 21) C hr rfl () trivial [0] rfl (by decide) (by decide) (by decide) d_Lake_daysUntil_21
  · refine j_iload_n (pc := 7) C d_Lake_daysUntil_7 rfl 1 rfl ?_
    refine j_iload_n (pc := 8) C d_Lake_daysUntil_8 rfl 2 rfl ?_
    refine j_isub (pc := 9) C (v := v - w) d_Lake_daysUntil_9 rfl ?_
    refine j_aload_n (pc := 10) C d_Lake_daysUntil_10 rfl 0 rfl ?_
    refine j_get (pc := 11) C gf_Lake_58 0 rfl rfl d_Lake_daysUntil_11 ?_
    refine j_callSi (pc := 14) C (c_floorMod l D y (v - w) (d.1 4) (fun e => c1 (by rw [e]; decide)) c1) kw_Lake_84 ks_Math_floorMod ⟨by decide, by decide⟩ ⟨by decide, by decide⟩ (wr := [(ad 0, .inr (2, [.int (d.1 0), .int (d.1 1), .int (d.1 2), .int (d.1 3), .ref (ad 1), .int (d.1 4), .ref (ad 11), .ref (ad 12), .ref (ad 2), .ref (ad 3), .int (d.1 5), .int (d.1 6), .int (d.1 7), .int (d.1 8)]))]) [] [0] rfl rfl (by decide) (by decide) (by decide) (As := [.int (v - w), .int (d.1 4)]) (rest := []) rfl (nb rfl) rfl d_Lake_daysUntil_14 (fun r2 _ hr2 => ?_)
    refine j_ws (ws' := [(ad 0, .inr (2, [.int (d.1 0), .int (d.1 1), .int (d.1 2), .int (d.1 3), .ref (ad 1), .int (d.1 4), .ref (ad 11), .ref (ad 12), .ref (ad 2), .ref (ad 3), .int (d.1 5), .int (d.1 6), .int (d.1 7), .int (d.1 8)]))]) rfl ?_
    refine j_goto (pc := 17) C (tgt := 21) d_Lake_daysUntil_17 (by decide) ?_
    exact j_iret (pc := 21) C hr rfl () trivial [0] rfl (by decide) (by decide) (by decide) d_Lake_daysUntil_21
theorem d_Lake_hasVillage_0 : decode prog_5_method_4_code 0 = .ok (.iload_n 1, 1) := by decide +kernel
theorem d_Lake_hasVillage_1 : decode prog_5_method_4_code 1 = .ok (.ifCond .lt 15, 3) := by decide +kernel
theorem d_Lake_hasVillage_16 : decode prog_5_method_4_code 16 = .ok (.iconst 0, 1) := by decide +kernel
theorem d_Lake_hasVillage_17 : decode prog_5_method_4_code 17 = .ok (.ireturn, 1) := by decide +kernel
theorem d_Lake_hasVillage_4 : decode prog_5_method_4_code 4 = .ok (.iload_n 1, 1) := by decide +kernel
theorem d_Lake_hasVillage_5 : decode prog_5_method_4_code 5 = .ok (.aload_n 0, 1) := by decide +kernel
theorem d_Lake_hasVillage_6 : decode prog_5_method_4_code 6 = .ok (.getfield 58, 3) := by decide +kernel
theorem d_Lake_hasVillage_9 : decode prog_5_method_4_code 9 = .ok (.if_icmp .ge 7, 3) := by decide +kernel
theorem d_Lake_hasVillage_12 : decode prog_5_method_4_code 12 = .ok (.iconst 1, 1) := by decide +kernel
theorem d_Lake_hasVillage_13 : decode prog_5_method_4_code 13 = .ok (.goto 4, 3) := by decide +kernel
set_option maxHeartbeats 4000000 in
set_option maxRecDepth 100000 in
theorem c_hasVillage (l : Launch) (D : va_G) (y : Nat → ClassId) (ad : Nat → Nat) (d : LD) (n4 : Nat) (v : Int32) (h4 : d.1 4 = nI n4) (b4 : n4 ≤ 6) : CT l D y ⟨"NineBoards$Lake", "hasVillage", "(I)Z"⟩ prog_5_method_4_code 2 (some .boolean) ({ frames := 0, cells := 0, slots := 0, locals := 0 } : Room) [.ref (ad 0), .int v] [(ad 0, .inr (2, [.int (d.1 0), .int (d.1 1), .int (d.1 2), .int (d.1 3), .ref (ad 1), .int (d.1 4), .ref (ad 11), .ref (ad 12), .ref (ad 2), .ref (ad 3), .int (d.1 5), .int (d.1 6), .int (d.1 7), .int (d.1 8)]))] (QI D [(ad 0, .inr (2, [.int (d.1 0), .int (d.1 1), .int (d.1 2), .int (d.1 3), .ref (ad 1), .int (d.1 4), .ref (ad 11), .ref (ad 12), .ref (ad 2), .ref (ad 3), .int (d.1 5), .int (d.1 6), .int (d.1 7), .int (d.1 8)]))] (fun (r : Int32) (u : Unit) => r = 0 ∨ (r = 1 ∧ ∃ j : Nat, j < n4 ∧ v = nI j)) (fun _ => [(ad 0, .inr (2, [.int (d.1 0), .int (d.1 1), .int (d.1 2), .int (d.1 3), .ref (ad 1), .int (d.1 4), .ref (ad 11), .ref (ad 12), .ref (ad 2), .ref (ad 3), .int (d.1 5), .int (d.1 6), .int (d.1 7), .int (d.1 8)]))])) := by
  refine CT.of (by decide) (nb rfl) ?_
  intro p e s m args below meth c C hr
  refine j_lv (lv' := [(0, .ref (ad 0)), (1, .int v)]) rfl ?_
  refine j_iload_n (pc := 0) C d_Lake_hasVillage_0 rfl 1 rfl ?_
  refine j_if_lt (pc := 1) C (tgt := 16) d_Lake_hasVillage_1 (by decide) (fun c1 => ?_) (fun c1 => ?_)
  · refine j_iconst (pc := 16) C (v := 0) d_Lake_hasVillage_16 (by decide) ?_
    exact j_iret (pc := 17) C hr (by decide) () (by exact Or.inl rfl) [0] rfl (by decide) (by decide) (by decide) d_Lake_hasVillage_17
  · refine j_iload_n (pc := 4) C d_Lake_hasVillage_4 rfl 1 rfl ?_
    refine j_aload_n (pc := 5) C d_Lake_hasVillage_5 rfl 0 rfl ?_
    refine j_get (pc := 6) C gf_Lake_58 0 rfl rfl d_Lake_hasVillage_6 ?_
    refine j_icmp_ge (pc := 9) C (tgt := 16) d_Lake_hasVillage_9 (by decide) (fun c2 => ?_) (fun c2 => ?_)
    · refine j_iconst (pc := 16) C (v := 0) d_Lake_hasVillage_16 (by decide) ?_
      exact j_iret (pc := 17) C hr (by decide) () (by exact Or.inl rfl) [0] rfl (by decide) (by decide) (by decide) d_Lake_hasVillage_17
    · refine j_iconst (pc := 12) C (v := 1) d_Lake_hasVillage_12 (by decide) ?_
      refine j_goto (pc := 13) C (tgt := 17) d_Lake_hasVillage_13 (by decide) ?_
      exact j_iret (pc := 17) C hr (by decide) () (by exact Or.inr ⟨rfl, nI_lt2 c1 (h4 ▸ c2) (by omega)⟩) [0] rfl (by decide) (by decide) (by decide) d_Lake_hasVillage_17
theorem d_Lake_hasGate_0 : decode prog_5_method_3_code 0 = .ok (.iload_n 1, 1) := by decide +kernel
theorem d_Lake_hasGate_1 : decode prog_5_method_3_code 1 = .ok (.ifCond .lt 18, 3) := by decide +kernel
theorem d_Lake_hasGate_19 : decode prog_5_method_3_code 19 = .ok (.iconst 0, 1) := by decide +kernel
theorem d_Lake_hasGate_20 : decode prog_5_method_3_code 20 = .ok (.ireturn, 1) := by decide +kernel
theorem d_Lake_hasGate_4 : decode prog_5_method_3_code 4 = .ok (.iload_n 1, 1) := by decide +kernel
theorem d_Lake_hasGate_5 : decode prog_5_method_3_code 5 = .ok (.aload_n 0, 1) := by decide +kernel
theorem d_Lake_hasGate_6 : decode prog_5_method_3_code 6 = .ok (.getfield 12, 3) := by decide +kernel
theorem gf_Lake_12 : GF "NineBoards$Lake" 12 2 4 := ⟨_, _, _, rfl, ci_Lake, by decide, (mt_2 (List.mem_of_getElem? (i := 42) rfl) rfl)⟩
theorem d_Lake_hasGate_9 : decode prog_5_method_3_code 9 = .ok (.getfield 55, 3) := by decide +kernel
theorem gf_Lake_55 : GF "NineBoards$Lake" 55 1 0 := ⟨_, _, _, rfl, ci_Gates, by decide, (mt_1 (List.mem_of_getElem? (i := 140) rfl) rfl)⟩
theorem d_Lake_hasGate_12 : decode prog_5_method_3_code 12 = .ok (.if_icmp .ge 7, 3) := by decide +kernel
theorem d_Lake_hasGate_15 : decode prog_5_method_3_code 15 = .ok (.iconst 1, 1) := by decide +kernel
theorem d_Lake_hasGate_16 : decode prog_5_method_3_code 16 = .ok (.goto 4, 3) := by decide +kernel
set_option maxHeartbeats 4000000 in
set_option maxRecDepth 100000 in
theorem c_hasGate (l : Launch) (D : va_G) (y : Nat → ClassId) (ad : Nat → Nat) (d : LD) (n9 : Nat) (v : Int32) (h9 : d.1 9 = nI n9) (b9 : n9 ≤ 9) : CT l D y ⟨"NineBoards$Lake", "hasGate", "(I)Z"⟩ prog_5_method_3_code 2 (some .boolean) ({ frames := 0, cells := 0, slots := 0, locals := 0 } : Room) [.ref (ad 0), .int v] [(ad 0, .inr (2, [.int (d.1 0), .int (d.1 1), .int (d.1 2), .int (d.1 3), .ref (ad 1), .int (d.1 4), .ref (ad 11), .ref (ad 12), .ref (ad 2), .ref (ad 3), .int (d.1 5), .int (d.1 6), .int (d.1 7), .int (d.1 8)])), (ad 1, .inr (1, [.int (d.1 9), .ref (ad 4), .ref (ad 5), .ref (ad 6), .ref (ad 7), .ref (ad 8), .ref (ad 9), .ref (ad 10)]))] (QI D [(ad 0, .inr (2, [.int (d.1 0), .int (d.1 1), .int (d.1 2), .int (d.1 3), .ref (ad 1), .int (d.1 4), .ref (ad 11), .ref (ad 12), .ref (ad 2), .ref (ad 3), .int (d.1 5), .int (d.1 6), .int (d.1 7), .int (d.1 8)])), (ad 1, .inr (1, [.int (d.1 9), .ref (ad 4), .ref (ad 5), .ref (ad 6), .ref (ad 7), .ref (ad 8), .ref (ad 9), .ref (ad 10)]))] (fun (r : Int32) (u : Unit) => r = 0 ∨ (r = 1 ∧ ∃ j : Nat, j < n9 ∧ v = nI j)) (fun _ => [(ad 0, .inr (2, [.int (d.1 0), .int (d.1 1), .int (d.1 2), .int (d.1 3), .ref (ad 1), .int (d.1 4), .ref (ad 11), .ref (ad 12), .ref (ad 2), .ref (ad 3), .int (d.1 5), .int (d.1 6), .int (d.1 7), .int (d.1 8)])), (ad 1, .inr (1, [.int (d.1 9), .ref (ad 4), .ref (ad 5), .ref (ad 6), .ref (ad 7), .ref (ad 8), .ref (ad 9), .ref (ad 10)]))])) := by
  refine CT.of (by decide) (nb rfl) ?_
  intro p e s m args below meth c C hr
  refine j_lv (lv' := [(0, .ref (ad 0)), (1, .int v)]) rfl ?_
  refine j_iload_n (pc := 0) C d_Lake_hasGate_0 rfl 1 rfl ?_
  refine j_if_lt (pc := 1) C (tgt := 19) d_Lake_hasGate_1 (by decide) (fun c1 => ?_) (fun c1 => ?_)
  · refine j_iconst (pc := 19) C (v := 0) d_Lake_hasGate_19 (by decide) ?_
    exact j_iret (pc := 20) C hr (by decide) () (by exact Or.inl rfl) [0, 1] rfl (by decide) (by decide) (by decide) d_Lake_hasGate_20
  · refine j_iload_n (pc := 4) C d_Lake_hasGate_4 rfl 1 rfl ?_
    refine j_aload_n (pc := 5) C d_Lake_hasGate_5 rfl 0 rfl ?_
    refine j_get (pc := 6) C gf_Lake_12 0 rfl rfl d_Lake_hasGate_6 ?_
    refine j_get (pc := 9) C gf_Lake_55 1 rfl rfl d_Lake_hasGate_9 ?_
    refine j_icmp_ge (pc := 12) C (tgt := 19) d_Lake_hasGate_12 (by decide) (fun c2 => ?_) (fun c2 => ?_)
    · refine j_iconst (pc := 19) C (v := 0) d_Lake_hasGate_19 (by decide) ?_
      exact j_iret (pc := 20) C hr (by decide) () (by exact Or.inl rfl) [0, 1] rfl (by decide) (by decide) (by decide) d_Lake_hasGate_20
    · refine j_iconst (pc := 15) C (v := 1) d_Lake_hasGate_15 (by decide) ?_
      refine j_goto (pc := 16) C (tgt := 20) d_Lake_hasGate_16 (by decide) ?_
      exact j_iret (pc := 20) C hr (by decide) () (by exact Or.inr ⟨rfl, nI_lt2 c1 (h9 ▸ c2) (by omega)⟩) [0, 1] rfl (by decide) (by decide) (by decide) d_Lake_hasGate_20
theorem d_Lake_hasThing_0 : decode prog_5_method_5_code 0 = .ok (.iload_n 1, 1) := by decide +kernel
theorem d_Lake_hasThing_1 : decode prog_5_method_5_code 1 = .ok (.ifCond .lt 18, 3) := by decide +kernel
theorem d_Lake_hasThing_19 : decode prog_5_method_5_code 19 = .ok (.iconst 0, 1) := by decide +kernel
theorem d_Lake_hasThing_20 : decode prog_5_method_5_code 20 = .ok (.ireturn, 1) := by decide +kernel
theorem d_Lake_hasThing_4 : decode prog_5_method_5_code 4 = .ok (.iload_n 1, 1) := by decide +kernel
theorem d_Lake_hasThing_5 : decode prog_5_method_5_code 5 = .ok (.aload_n 0, 1) := by decide +kernel
theorem d_Lake_hasThing_6 : decode prog_5_method_5_code 6 = .ok (.getfield 28, 3) := by decide +kernel
theorem gf_Lake_28 : GF "NineBoards$Lake" 28 2 8 := ⟨_, _, _, rfl, ci_Lake, by decide, (mt_2 (List.mem_of_getElem? (i := 58) rfl) rfl)⟩
theorem d_Lake_hasThing_9 : decode prog_5_method_5_code 9 = .ok (.getfield 61, 3) := by decide +kernel
theorem gf_Lake_61 : GF "NineBoards$Lake" 61 8 0 := ⟨_, _, _, rfl, ci_Things, by decide, (mt_1 (List.mem_of_getElem? (i := 187) rfl) rfl)⟩
theorem d_Lake_hasThing_12 : decode prog_5_method_5_code 12 = .ok (.if_icmp .ge 7, 3) := by decide +kernel
theorem d_Lake_hasThing_15 : decode prog_5_method_5_code 15 = .ok (.iconst 1, 1) := by decide +kernel
theorem d_Lake_hasThing_16 : decode prog_5_method_5_code 16 = .ok (.goto 4, 3) := by decide +kernel
set_option maxHeartbeats 4000000 in
set_option maxRecDepth 100000 in
theorem c_hasThing (l : Launch) (D : va_G) (y : Nat → ClassId) (ad : Nat → Nat) (d : LD) (n10 : Nat) (v : Int32) (h10 : d.1 10 = nI n10) (b10 : n10 ≤ 16) : CT l D y ⟨"NineBoards$Lake", "hasThing", "(I)Z"⟩ prog_5_method_5_code 2 (some .boolean) ({ frames := 0, cells := 0, slots := 0, locals := 0 } : Room) [.ref (ad 0), .int v] [(ad 0, .inr (2, [.int (d.1 0), .int (d.1 1), .int (d.1 2), .int (d.1 3), .ref (ad 1), .int (d.1 4), .ref (ad 11), .ref (ad 12), .ref (ad 2), .ref (ad 3), .int (d.1 5), .int (d.1 6), .int (d.1 7), .int (d.1 8)])), (ad 2, .inr (8, [.int (d.1 10), .ref (ad 13), .ref (ad 14), .ref (ad 15), .ref (ad 16), .ref (ad 17), .ref (ad 18), .ref (ad 19)]))] (QI D [(ad 0, .inr (2, [.int (d.1 0), .int (d.1 1), .int (d.1 2), .int (d.1 3), .ref (ad 1), .int (d.1 4), .ref (ad 11), .ref (ad 12), .ref (ad 2), .ref (ad 3), .int (d.1 5), .int (d.1 6), .int (d.1 7), .int (d.1 8)])), (ad 2, .inr (8, [.int (d.1 10), .ref (ad 13), .ref (ad 14), .ref (ad 15), .ref (ad 16), .ref (ad 17), .ref (ad 18), .ref (ad 19)]))] (fun (r : Int32) (u : Unit) => r = 0 ∨ (r = 1 ∧ ∃ j : Nat, j < n10 ∧ v = nI j)) (fun _ => [(ad 0, .inr (2, [.int (d.1 0), .int (d.1 1), .int (d.1 2), .int (d.1 3), .ref (ad 1), .int (d.1 4), .ref (ad 11), .ref (ad 12), .ref (ad 2), .ref (ad 3), .int (d.1 5), .int (d.1 6), .int (d.1 7), .int (d.1 8)])), (ad 2, .inr (8, [.int (d.1 10), .ref (ad 13), .ref (ad 14), .ref (ad 15), .ref (ad 16), .ref (ad 17), .ref (ad 18), .ref (ad 19)]))])) := by
  refine CT.of (by decide) (nb rfl) ?_
  intro p e s m args below meth c C hr
  refine j_lv (lv' := [(0, .ref (ad 0)), (1, .int v)]) rfl ?_
  refine j_iload_n (pc := 0) C d_Lake_hasThing_0 rfl 1 rfl ?_
  refine j_if_lt (pc := 1) C (tgt := 19) d_Lake_hasThing_1 (by decide) (fun c1 => ?_) (fun c1 => ?_)
  · refine j_iconst (pc := 19) C (v := 0) d_Lake_hasThing_19 (by decide) ?_
    exact j_iret (pc := 20) C hr (by decide) () (by exact Or.inl rfl) [0, 1] rfl (by decide) (by decide) (by decide) d_Lake_hasThing_20
  · refine j_iload_n (pc := 4) C d_Lake_hasThing_4 rfl 1 rfl ?_
    refine j_aload_n (pc := 5) C d_Lake_hasThing_5 rfl 0 rfl ?_
    refine j_get (pc := 6) C gf_Lake_28 0 rfl rfl d_Lake_hasThing_6 ?_
    refine j_get (pc := 9) C gf_Lake_61 1 rfl rfl d_Lake_hasThing_9 ?_
    refine j_icmp_ge (pc := 12) C (tgt := 19) d_Lake_hasThing_12 (by decide) (fun c2 => ?_) (fun c2 => ?_)
    · refine j_iconst (pc := 19) C (v := 0) d_Lake_hasThing_19 (by decide) ?_
      exact j_iret (pc := 20) C hr (by decide) () (by exact Or.inl rfl) [0, 1] rfl (by decide) (by decide) (by decide) d_Lake_hasThing_20
    · refine j_iconst (pc := 15) C (v := 1) d_Lake_hasThing_15 (by decide) ?_
      refine j_goto (pc := 16) C (tgt := 20) d_Lake_hasThing_16 (by decide) ?_
      exact j_iret (pc := 20) C hr (by decide) () (by exact Or.inr ⟨rfl, nI_lt2 c1 (h10 ▸ c2) (by omega)⟩) [0, 1] rfl (by decide) (by decide) (by decide) d_Lake_hasThing_20
theorem d_Gates_named_2 : decode prog_4_method_2_code 2 = .ok (.iload_n 2, 1) := by decide +kernel
theorem d_Gates_named_3 : decode prog_4_method_2_code 3 = .ok (.aload_n 0, 1) := by decide +kernel
theorem d_Gates_named_4 : decode prog_4_method_2_code 4 = .ok (.getfield 33, 3) := by decide +kernel
theorem gf_Gates_33 : GF "NineBoards$Gates" 33 1 0 := ⟨_, _, _, rfl, ci_Gates, by decide, (mt_1 (List.mem_of_getElem? (i := 139) rfl) rfl)⟩
theorem d_Gates_named_7 : decode prog_4_method_2_code 7 = .ok (.if_icmp .ge 21, 3) := by decide +kernel
theorem d_Gates_named_10 : decode prog_4_method_2_code 10 = .ok (.aload_n 0, 1) := by decide +kernel
theorem d_Gates_named_11 : decode prog_4_method_2_code 11 = .ok (.getfield 9, 3) := by decide +kernel
theorem gf_Gates_9 : GF "NineBoards$Gates" 9 1 1 := ⟨_, _, _, rfl, ci_Gates, by decide, (mt_1 (List.mem_of_getElem? (i := 144) rfl) rfl)⟩
theorem d_Gates_named_14 : decode prog_4_method_2_code 14 = .ok (.iload_n 2, 1) := by decide +kernel
theorem d_Gates_named_15 : decode prog_4_method_2_code 15 = .ok (.iaload, 1) := by decide +kernel
theorem d_Gates_named_16 : decode prog_4_method_2_code 16 = .ok (.iload_n 1, 1) := by decide +kernel
theorem d_Gates_named_17 : decode prog_4_method_2_code 17 = .ok (.if_icmp .ne 5, 3) := by decide +kernel
theorem d_Gates_named_22 : decode prog_4_method_2_code 22 = .ok (.iinc 2 1, 3) := by decide +kernel
theorem d_Gates_named_25 : decode prog_4_method_2_code 25 = .ok (.goto (-23), 3) := by decide +kernel
theorem d_Gates_named_0 : decode prog_4_method_2_code 0 = .ok (.iconst 0, 1) := by decide +kernel
theorem d_Gates_named_1 : decode prog_4_method_2_code 1 = .ok (.istore_n 2, 1) := by decide +kernel
theorem d_Gates_named_28 : decode prog_4_method_2_code 28 = .ok (.iconst (-1), 1) := by decide +kernel
theorem d_Gates_named_29 : decode prog_4_method_2_code 29 = .ok (.ireturn, 1) := by decide +kernel
theorem d_Gates_named_20 : decode prog_4_method_2_code 20 = .ok (.iload_n 2, 1) := by decide +kernel
theorem d_Gates_named_21 : decode prog_4_method_2_code 21 = .ok (.ireturn, 1) := by decide +kernel
set_option maxHeartbeats 4000000 in
set_option maxRecDepth 100000 in
theorem lp_named {p : Program} {l : Launch} {e : Env} {s : State} {m : MethodId} {args : Array Value} {below : List Frame} {meth : Method} {c : Code} {Q : State → Prop} {D : va_G} {y : Nat → ClassId} {A : Nat → Prop} (C : Cx p s m args meth c D y A prog_4_method_2_code 3 "NineBoards$Gates" "named") (ad : Nat → Nat) (d : LD) (n9 : Nat) (v : Int32) (h9 : d.1 9 = nI n9) (b9 : n9 ≤ 9) (kx : ∀ i : Nat, J p l e ({ frames := 0, cells := 0, slots := 0, locals := 0 } : Room) s m args below meth c Q D A 3 [(ad 1, .inr (1, [.int (d.1 9), .ref (ad 4), .ref (ad 5), .ref (ad 6), .ref (ad 7), .ref (ad 8), .ref (ad 9), .ref (ad 10)])), (ad 4, .inl (y 0, 9, .inl (d.2 0)))] [(0, .ref (ad 1)), (1, .int v), (2, .int (nI i))] 0 0 28 []) (kr : ∀ i : Nat, i < n9 → J p l e ({ frames := 0, cells := 0, slots := 0, locals := 0 } : Room) s m args below meth c Q D A 3 [(ad 1, .inr (1, [.int (d.1 9), .ref (ad 4), .ref (ad 5), .ref (ad 6), .ref (ad 7), .ref (ad 8), .ref (ad 9), .ref (ad 10)])), (ad 4, .inl (y 0, 9, .inl (d.2 0)))] [(0, .ref (ad 1)), (1, .int v), (2, .int (nI i))] 0 0 20 []) : ∀ (n : Nat) (i : Nat), (i + n = n9) → J p l e ({ frames := 0, cells := 0, slots := 0, locals := 0 } : Room) s m args below meth c Q D A 3 [(ad 1, .inr (1, [.int (d.1 9), .ref (ad 4), .ref (ad 5), .ref (ad 6), .ref (ad 7), .ref (ad 8), .ref (ad 9), .ref (ad 10)])), (ad 4, .inl (y 0, 9, .inl (d.2 0)))] [(0, .ref (ad 1)), (1, .int v), (2, .int (nI i))] 0 0 2 [] := by
  intro n
  induction n with
  | zero =>
    intro i hi
    obtain rfl : i = n9 := by omega
    refine j_iload_n (pc := 2) C d_Gates_named_2 rfl 2 rfl ?_
    refine j_aload_n (pc := 3) C d_Gates_named_3 rfl 0 rfl ?_
    refine j_get (pc := 4) C gf_Gates_33 0 rfl rfl d_Gates_named_4 ?_
    refine j_icmp_geT (pc := 7) C (tgt := 28) d_Gates_named_7 (by decide) (by rw [h9]; exact Int32.le_refl _) ?_
    exact kx _
  | succ n ih =>
    intro i hi
    refine j_iload_n (pc := 2) C d_Gates_named_2 rfl 2 rfl ?_
    refine j_aload_n (pc := 3) C d_Gates_named_3 rfl 0 rfl ?_
    refine j_get (pc := 4) C gf_Gates_33 0 rfl rfl d_Gates_named_4 ?_
    refine j_icmp_geF (pc := 7) C (tgt := 28) d_Gates_named_7 (by decide) (by rw [h9]; exact nI_ge (by omega) (by omega)) ?_
    refine j_aload_n (pc := 10) C d_Gates_named_10 rfl 0 rfl ?_
    refine j_get (pc := 11) C gf_Gates_9 0 rfl rfl d_Gates_named_11 ?_
    refine j_iload_n (pc := 14) C d_Gates_named_14 rfl 2 rfl ?_
    refine j_iald (pc := 15) C 1 rfl (v := (d.2 0) (nI i).toNatClampNeg) (vp_in_nI (by omega) (by decide)) rfl d_Gates_named_15 ?_
    refine j_iload_n (pc := 16) C d_Gates_named_16 rfl 1 rfl ?_
    refine j_icmp_ne (pc := 17) C (tgt := 22) d_Gates_named_17 (by decide) (fun c1 => ?_) (fun c1 => ?_)
    · refine j_iinc (pc := 22) C (v := nI (i + 1)) (lv' := [(2, .int (nI (i + 1))), (0, .ref (ad 1)), (1, .int v)]) d_Gates_named_22 2 rfl (nI_1 _) (by decide) rfl ?_
      refine j_goto (pc := 25) C (tgt := 2) d_Gates_named_25 (by decide) ?_
      refine j_locs (lv' := [(0, .ref (ad 1)), (1, .int v), (2, .int (nI (i + 1)))]) [1, 2, 0] rfl ?_
      exact ih (i + 1) (by omega)
    · exact kr i (by omega)
set_option maxHeartbeats 4000000 in
set_option maxRecDepth 100000 in
theorem c_named (l : Launch) (D : va_G) (y : Nat → ClassId) (ad : Nat → Nat) (d : LD) (n9 : Nat) (v : Int32) (h9 : d.1 9 = nI n9) (b9 : n9 ≤ 9) : CT l D y ⟨"NineBoards$Gates", "named", "(I)I"⟩ prog_4_method_2_code 3 (some .int) ({ frames := 0, cells := 0, slots := 0, locals := 0 } : Room) [.ref (ad 1), .int v] [(ad 1, .inr (1, [.int (d.1 9), .ref (ad 4), .ref (ad 5), .ref (ad 6), .ref (ad 7), .ref (ad 8), .ref (ad 9), .ref (ad 10)])), (ad 4, .inl (y 0, 9, .inl (d.2 0)))] (QI D [(ad 1, .inr (1, [.int (d.1 9), .ref (ad 4), .ref (ad 5), .ref (ad 6), .ref (ad 7), .ref (ad 8), .ref (ad 9), .ref (ad 10)])), (ad 4, .inl (y 0, 9, .inl (d.2 0)))] (fun (r : Int32) (u : Unit) => r = -1 ∨ ∃ j : Nat, j < n9 ∧ r = nI j) (fun _ => [(ad 1, .inr (1, [.int (d.1 9), .ref (ad 4), .ref (ad 5), .ref (ad 6), .ref (ad 7), .ref (ad 8), .ref (ad 9), .ref (ad 10)])), (ad 4, .inl (y 0, 9, .inl (d.2 0)))])) := by
  refine CT.of (by decide) (nb rfl) ?_
  intro p e s m args below meth c C hr
  refine j_lv (lv' := [(0, .ref (ad 1)), (1, .int v)]) rfl ?_
  refine j_iconst (pc := 0) C (v := 0) d_Gates_named_0 (by decide) ?_
  refine j_istore_n (pc := 1) C (lv' := [(2, .int 0), (0, .ref (ad 1)), (1, .int v)]) d_Gates_named_1 rfl (by decide) rfl ?_
  refine j_locs (lv' := [(0, .ref (ad 1)), (1, .int v), (2, .int 0)]) [1, 2, 0] rfl ?_
  refine j_lv (lv' := [(0, .ref (ad 1)), (1, .int v), (2, .int (nI 0))]) rfl ?_
  refine lp_named C ad d n9 v h9 b9 (fun i => ?_) (fun i hx => ?_) n9 0 (by omega)
  · refine j_iconst (pc := 28) C (v := (-1)) d_Gates_named_28 (by decide) ?_
    exact j_iret (pc := 29) C hr rfl () (by exact Or.inl rfl) [0, 1] rfl (by decide) (by decide) (by decide) d_Gates_named_29
  · refine j_iload_n (pc := 20) C d_Gates_named_20 rfl 2 rfl ?_
    exact j_iret (pc := 21) C hr rfl () (by exact Or.inr ⟨i, hx, rfl⟩) [0, 1] rfl (by decide) (by decide) (by decide) d_Gates_named_21
theorem d_Lake_villageNamed_2 : decode prog_5_method_6_code 2 = .ok (.iload_n 2, 1) := by decide +kernel
theorem d_Lake_villageNamed_3 : decode prog_5_method_6_code 3 = .ok (.aload_n 0, 1) := by decide +kernel
theorem d_Lake_villageNamed_4 : decode prog_5_method_6_code 4 = .ok (.getfield 58, 3) := by decide +kernel
theorem d_Lake_villageNamed_7 : decode prog_5_method_6_code 7 = .ok (.if_icmp .ge 21, 3) := by decide +kernel
theorem d_Lake_villageNamed_10 : decode prog_5_method_6_code 10 = .ok (.aload_n 0, 1) := by decide +kernel
theorem d_Lake_villageNamed_11 : decode prog_5_method_6_code 11 = .ok (.getfield 18, 3) := by decide +kernel
theorem gf_Lake_18 : GF "NineBoards$Lake" 18 2 6 := ⟨_, _, _, rfl, ci_Lake, by decide, (mt_2 (List.mem_of_getElem? (i := 51) rfl) rfl)⟩
theorem d_Lake_villageNamed_14 : decode prog_5_method_6_code 14 = .ok (.iload_n 2, 1) := by decide +kernel
theorem d_Lake_villageNamed_15 : decode prog_5_method_6_code 15 = .ok (.iaload, 1) := by decide +kernel
theorem d_Lake_villageNamed_16 : decode prog_5_method_6_code 16 = .ok (.iload_n 1, 1) := by decide +kernel
theorem d_Lake_villageNamed_17 : decode prog_5_method_6_code 17 = .ok (.if_icmp .ne 5, 3) := by decide +kernel
theorem d_Lake_villageNamed_22 : decode prog_5_method_6_code 22 = .ok (.iinc 2 1, 3) := by decide +kernel
theorem d_Lake_villageNamed_25 : decode prog_5_method_6_code 25 = .ok (.goto (-23), 3) := by decide +kernel
theorem d_Lake_villageNamed_0 : decode prog_5_method_6_code 0 = .ok (.iconst 0, 1) := by decide +kernel
theorem d_Lake_villageNamed_1 : decode prog_5_method_6_code 1 = .ok (.istore_n 2, 1) := by decide +kernel
theorem d_Lake_villageNamed_28 : decode prog_5_method_6_code 28 = .ok (.iconst (-1), 1) := by decide +kernel
theorem d_Lake_villageNamed_29 : decode prog_5_method_6_code 29 = .ok (.ireturn, 1) := by decide +kernel
theorem d_Lake_villageNamed_20 : decode prog_5_method_6_code 20 = .ok (.iload_n 2, 1) := by decide +kernel
theorem d_Lake_villageNamed_21 : decode prog_5_method_6_code 21 = .ok (.ireturn, 1) := by decide +kernel
set_option maxHeartbeats 4000000 in
set_option maxRecDepth 100000 in
theorem lp_villageNamed {p : Program} {l : Launch} {e : Env} {s : State} {m : MethodId} {args : Array Value} {below : List Frame} {meth : Method} {c : Code} {Q : State → Prop} {D : va_G} {y : Nat → ClassId} {A : Nat → Prop} (C : Cx p s m args meth c D y A prog_5_method_6_code 3 "NineBoards$Lake" "villageNamed") (ad : Nat → Nat) (d : LD) (n4 : Nat) (v : Int32) (h4 : d.1 4 = nI n4) (b4 : n4 ≤ 6) (kx : ∀ i : Nat, J p l e ({ frames := 0, cells := 0, slots := 0, locals := 0 } : Room) s m args below meth c Q D A 3 [(ad 0, .inr (2, [.int (d.1 0), .int (d.1 1), .int (d.1 2), .int (d.1 3), .ref (ad 1), .int (d.1 4), .ref (ad 11), .ref (ad 12), .ref (ad 2), .ref (ad 3), .int (d.1 5), .int (d.1 6), .int (d.1 7), .int (d.1 8)])), (ad 11, .inl (y 0, 6, .inl (d.2 7)))] [(0, .ref (ad 0)), (1, .int v), (2, .int (nI i))] 0 0 28 []) (kr : ∀ i : Nat, i < n4 → J p l e ({ frames := 0, cells := 0, slots := 0, locals := 0 } : Room) s m args below meth c Q D A 3 [(ad 0, .inr (2, [.int (d.1 0), .int (d.1 1), .int (d.1 2), .int (d.1 3), .ref (ad 1), .int (d.1 4), .ref (ad 11), .ref (ad 12), .ref (ad 2), .ref (ad 3), .int (d.1 5), .int (d.1 6), .int (d.1 7), .int (d.1 8)])), (ad 11, .inl (y 0, 6, .inl (d.2 7)))] [(0, .ref (ad 0)), (1, .int v), (2, .int (nI i))] 0 0 20 []) : ∀ (n : Nat) (i : Nat), (i + n = n4) → J p l e ({ frames := 0, cells := 0, slots := 0, locals := 0 } : Room) s m args below meth c Q D A 3 [(ad 0, .inr (2, [.int (d.1 0), .int (d.1 1), .int (d.1 2), .int (d.1 3), .ref (ad 1), .int (d.1 4), .ref (ad 11), .ref (ad 12), .ref (ad 2), .ref (ad 3), .int (d.1 5), .int (d.1 6), .int (d.1 7), .int (d.1 8)])), (ad 11, .inl (y 0, 6, .inl (d.2 7)))] [(0, .ref (ad 0)), (1, .int v), (2, .int (nI i))] 0 0 2 [] := by
  intro n
  induction n with
  | zero =>
    intro i hi
    obtain rfl : i = n4 := by omega
    refine j_iload_n (pc := 2) C d_Lake_villageNamed_2 rfl 2 rfl ?_
    refine j_aload_n (pc := 3) C d_Lake_villageNamed_3 rfl 0 rfl ?_
    refine j_get (pc := 4) C gf_Lake_58 0 rfl rfl d_Lake_villageNamed_4 ?_
    refine j_icmp_geT (pc := 7) C (tgt := 28) d_Lake_villageNamed_7 (by decide) (by rw [h4]; exact Int32.le_refl _) ?_
    exact kx _
  | succ n ih =>
    intro i hi
    refine j_iload_n (pc := 2) C d_Lake_villageNamed_2 rfl 2 rfl ?_
    refine j_aload_n (pc := 3) C d_Lake_villageNamed_3 rfl 0 rfl ?_
    refine j_get (pc := 4) C gf_Lake_58 0 rfl rfl d_Lake_villageNamed_4 ?_
    refine j_icmp_geF (pc := 7) C (tgt := 28) d_Lake_villageNamed_7 (by decide) (by rw [h4]; exact nI_ge (by omega) (by omega)) ?_
    refine j_aload_n (pc := 10) C d_Lake_villageNamed_10 rfl 0 rfl ?_
    refine j_get (pc := 11) C gf_Lake_18 0 rfl rfl d_Lake_villageNamed_11 ?_
    refine j_iload_n (pc := 14) C d_Lake_villageNamed_14 rfl 2 rfl ?_
    refine j_iald (pc := 15) C 1 rfl (v := (d.2 7) (nI i).toNatClampNeg) (vp_in_nI (by omega) (by decide)) rfl d_Lake_villageNamed_15 ?_
    refine j_iload_n (pc := 16) C d_Lake_villageNamed_16 rfl 1 rfl ?_
    refine j_icmp_ne (pc := 17) C (tgt := 22) d_Lake_villageNamed_17 (by decide) (fun c1 => ?_) (fun c1 => ?_)
    · refine j_iinc (pc := 22) C (v := nI (i + 1)) (lv' := [(2, .int (nI (i + 1))), (0, .ref (ad 0)), (1, .int v)]) d_Lake_villageNamed_22 2 rfl (nI_1 _) (by decide) rfl ?_
      refine j_goto (pc := 25) C (tgt := 2) d_Lake_villageNamed_25 (by decide) ?_
      refine j_locs (lv' := [(0, .ref (ad 0)), (1, .int v), (2, .int (nI (i + 1)))]) [1, 2, 0] rfl ?_
      exact ih (i + 1) (by omega)
    · exact kr i (by omega)
set_option maxHeartbeats 4000000 in
set_option maxRecDepth 100000 in
theorem c_villageNamed (l : Launch) (D : va_G) (y : Nat → ClassId) (ad : Nat → Nat) (d : LD) (n4 : Nat) (v : Int32) (h4 : d.1 4 = nI n4) (b4 : n4 ≤ 6) : CT l D y ⟨"NineBoards$Lake", "villageNamed", "(I)I"⟩ prog_5_method_6_code 3 (some .int) ({ frames := 0, cells := 0, slots := 0, locals := 0 } : Room) [.ref (ad 0), .int v] [(ad 0, .inr (2, [.int (d.1 0), .int (d.1 1), .int (d.1 2), .int (d.1 3), .ref (ad 1), .int (d.1 4), .ref (ad 11), .ref (ad 12), .ref (ad 2), .ref (ad 3), .int (d.1 5), .int (d.1 6), .int (d.1 7), .int (d.1 8)])), (ad 11, .inl (y 0, 6, .inl (d.2 7)))] (QI D [(ad 0, .inr (2, [.int (d.1 0), .int (d.1 1), .int (d.1 2), .int (d.1 3), .ref (ad 1), .int (d.1 4), .ref (ad 11), .ref (ad 12), .ref (ad 2), .ref (ad 3), .int (d.1 5), .int (d.1 6), .int (d.1 7), .int (d.1 8)])), (ad 11, .inl (y 0, 6, .inl (d.2 7)))] (fun (r : Int32) (u : Unit) => r = -1 ∨ ∃ j : Nat, j < n4 ∧ r = nI j) (fun _ => [(ad 0, .inr (2, [.int (d.1 0), .int (d.1 1), .int (d.1 2), .int (d.1 3), .ref (ad 1), .int (d.1 4), .ref (ad 11), .ref (ad 12), .ref (ad 2), .ref (ad 3), .int (d.1 5), .int (d.1 6), .int (d.1 7), .int (d.1 8)])), (ad 11, .inl (y 0, 6, .inl (d.2 7)))])) := by
  refine CT.of (by decide) (nb rfl) ?_
  intro p e s m args below meth c C hr
  refine j_lv (lv' := [(0, .ref (ad 0)), (1, .int v)]) rfl ?_
  refine j_iconst (pc := 0) C (v := 0) d_Lake_villageNamed_0 (by decide) ?_
  refine j_istore_n (pc := 1) C (lv' := [(2, .int 0), (0, .ref (ad 0)), (1, .int v)]) d_Lake_villageNamed_1 rfl (by decide) rfl ?_
  refine j_locs (lv' := [(0, .ref (ad 0)), (1, .int v), (2, .int 0)]) [1, 2, 0] rfl ?_
  refine j_lv (lv' := [(0, .ref (ad 0)), (1, .int v), (2, .int (nI 0))]) rfl ?_
  refine lp_villageNamed C ad d n4 v h4 b4 (fun i => ?_) (fun i hx => ?_) n4 0 (by omega)
  · refine j_iconst (pc := 28) C (v := (-1)) d_Lake_villageNamed_28 (by decide) ?_
    exact j_iret (pc := 29) C hr rfl () (by exact Or.inl rfl) [0, 1] rfl (by decide) (by decide) (by decide) d_Lake_villageNamed_29
  · refine j_iload_n (pc := 20) C d_Lake_villageNamed_20 rfl 2 rfl ?_
    exact j_iret (pc := 21) C hr rfl () (by exact Or.inr ⟨i, hx, rfl⟩) [0, 1] rfl (by decide) (by decide) (by decide) d_Lake_villageNamed_21
theorem d_Gates_fullFlow_0 : decode prog_4_method_3_code 0 = .ok (.iconst 0, 1) := by decide +kernel
theorem d_Gates_fullFlow_1 : decode prog_4_method_3_code 1 = .ok (.iload_n 3, 1) := by decide +kernel
theorem d_Gates_fullFlow_2 : decode prog_4_method_3_code 2 = .ok (.iload_n 2, 1) := by decide +kernel
theorem d_Gates_fullFlow_3 : decode prog_4_method_3_code 3 = .ok (.isub, 1) := by decide +kernel
theorem d_Gates_fullFlow_4 : decode prog_4_method_3_code 4 = .ok (.invokestatic 37, 3) := by decide +kernel
theorem d_Gates_fullFlow_7 : decode prog_4_method_3_code 7 = .ok (.istore 5, 2) := by decide +kernel
theorem d_Gates_fullFlow_9 : decode prog_4_method_3_code 9 = .ok (.iload 5, 2) := by decide +kernel
theorem d_Gates_fullFlow_11 : decode prog_4_method_3_code 11 = .ok (.aload_n 0, 1) := by decide +kernel
theorem d_Gates_fullFlow_12 : decode prog_4_method_3_code 12 = .ok (.getfield 27, 3) := by decide +kernel
theorem gf_Gates_27 : GF "NineBoards$Gates" 27 1 6 := ⟨_, _, _, rfl, ci_Gates, by decide, (mt_1 (List.mem_of_getElem? (i := 157) rfl) rfl)⟩
theorem d_Gates_fullFlow_15 : decode prog_4_method_3_code 15 = .ok (.iload_n 1, 1) := by decide +kernel
theorem d_Gates_fullFlow_16 : decode prog_4_method_3_code 16 = .ok (.iaload, 1) := by decide +kernel
theorem d_Gates_fullFlow_17 : decode prog_4_method_3_code 17 = .ok (.imul, 1) := by decide +kernel
theorem d_Gates_fullFlow_18 : decode prog_4_method_3_code 18 = .ok (.istore 6, 2) := by decide +kernel
theorem d_Gates_fullFlow_20 : decode prog_4_method_3_code 20 = .ok (.aload_n 0, 1) := by decide +kernel
theorem d_Gates_fullFlow_21 : decode prog_4_method_3_code 21 = .ok (.getfield 15, 3) := by decide +kernel
theorem gf_Gates_15 : GF "NineBoards$Gates" 15 1 2 := ⟨_, _, _, rfl, ci_Gates, by decide, (mt_1 (List.mem_of_getElem? (i := 147) rfl) rfl)⟩
theorem d_Gates_fullFlow_24 : decode prog_4_method_3_code 24 = .ok (.iload_n 1, 1) := by decide +kernel
theorem d_Gates_fullFlow_25 : decode prog_4_method_3_code 25 = .ok (.iaload, 1) := by decide +kernel
theorem d_Gates_fullFlow_26 : decode prog_4_method_3_code 26 = .ok (.tableswitch 115 1 3 #[26, 49, 86], 26) := by decide +kernel
theorem d_Gates_fullFlow_52 : decode prog_4_method_3_code 52 = .ok (.iload_n 2, 1) := by decide +kernel
theorem d_Gates_fullFlow_53 : decode prog_4_method_3_code 53 = .ok (.ifCond .le 19, 3) := by decide +kernel
theorem d_Gates_fullFlow_72 : decode prog_4_method_3_code 72 = .ok (.iload 6, 2) := by decide +kernel
theorem d_Gates_fullFlow_74 : decode prog_4_method_3_code 74 = .ok (.ireturn, 1) := by decide +kernel
theorem d_Gates_fullFlow_56 : decode prog_4_method_3_code 56 = .ok (.iload_n 3, 1) := by decide +kernel
theorem d_Gates_fullFlow_57 : decode prog_4_method_3_code 57 = .ok (.ifCond .le 15, 3) := by decide +kernel
theorem d_Gates_fullFlow_60 : decode prog_4_method_3_code 60 = .ok (.iload 6, 2) := by decide +kernel
theorem d_Gates_fullFlow_62 : decode prog_4_method_3_code 62 = .ok (.aload_n 0, 1) := by decide +kernel
theorem d_Gates_fullFlow_63 : decode prog_4_method_3_code 63 = .ok (.getfield 18, 3) := by decide +kernel
theorem gf_Gates_18 : GF "NineBoards$Gates" 18 1 3 := ⟨_, _, _, rfl, ci_Gates, by decide, (mt_1 (List.mem_of_getElem? (i := 150) rfl) rfl)⟩
theorem d_Gates_fullFlow_66 : decode prog_4_method_3_code 66 = .ok (.iload_n 1, 1) := by decide +kernel
theorem d_Gates_fullFlow_67 : decode prog_4_method_3_code 67 = .ok (.iaload, 1) := by decide +kernel
theorem d_Gates_fullFlow_68 : decode prog_4_method_3_code 68 = .ok (.iadd, 1) := by decide +kernel
theorem d_Gates_fullFlow_69 : decode prog_4_method_3_code 69 = .ok (.goto 5, 3) := by decide +kernel
theorem d_Gates_fullFlow_75 : decode prog_4_method_3_code 75 = .ok (.aload_n 0, 1) := by decide +kernel
theorem d_Gates_fullFlow_76 : decode prog_4_method_3_code 76 = .ok (.getfield 18, 3) := by decide +kernel
theorem d_Gates_fullFlow_79 : decode prog_4_method_3_code 79 = .ok (.iload_n 1, 1) := by decide +kernel
theorem d_Gates_fullFlow_80 : decode prog_4_method_3_code 80 = .ok (.iaload, 1) := by decide +kernel
theorem d_Gates_fullFlow_81 : decode prog_4_method_3_code 81 = .ok (.ifCond .le 29, 3) := by decide +kernel
theorem d_Gates_fullFlow_110 : decode prog_4_method_3_code 110 = .ok (.iconst 0, 1) := by decide +kernel
theorem d_Gates_fullFlow_111 : decode prog_4_method_3_code 111 = .ok (.ireturn, 1) := by decide +kernel
theorem d_Gates_fullFlow_84 : decode prog_4_method_3_code 84 = .ok (.iload 5, 2) := by decide +kernel
theorem d_Gates_fullFlow_86 : decode prog_4_method_3_code 86 = .ok (.aload_n 0, 1) := by decide +kernel
theorem d_Gates_fullFlow_87 : decode prog_4_method_3_code 87 = .ok (.getfield 18, 3) := by decide +kernel
theorem d_Gates_fullFlow_90 : decode prog_4_method_3_code 90 = .ok (.iload_n 1, 1) := by decide +kernel
theorem d_Gates_fullFlow_91 : decode prog_4_method_3_code 91 = .ok (.iaload, 1) := by decide +kernel
theorem d_Gates_fullFlow_92 : decode prog_4_method_3_code 92 = .ok (.idiv, 1) := by decide +kernel
theorem d_Gates_fullFlow_93 : decode prog_4_method_3_code 93 = .ok (.aload_n 0, 1) := by decide +kernel
theorem d_Gates_fullFlow_94 : decode prog_4_method_3_code 94 = .ok (.getfield 18, 3) := by decide +kernel
theorem d_Gates_fullFlow_97 : decode prog_4_method_3_code 97 = .ok (.iload_n 1, 1) := by decide +kernel
theorem d_Gates_fullFlow_98 : decode prog_4_method_3_code 98 = .ok (.iaload, 1) := by decide +kernel
theorem d_Gates_fullFlow_99 : decode prog_4_method_3_code 99 = .ok (.imul, 1) := by decide +kernel
theorem d_Gates_fullFlow_100 : decode prog_4_method_3_code 100 = .ok (.aload_n 0, 1) := by decide +kernel
theorem d_Gates_fullFlow_101 : decode prog_4_method_3_code 101 = .ok (.getfield 27, 3) := by decide +kernel
theorem d_Gates_fullFlow_104 : decode prog_4_method_3_code 104 = .ok (.iload_n 1, 1) := by decide +kernel
theorem d_Gates_fullFlow_105 : decode prog_4_method_3_code 105 = .ok (.iaload, 1) := by decide +kernel
theorem d_Gates_fullFlow_106 : decode prog_4_method_3_code 106 = .ok (.imul, 1) := by decide +kernel
theorem d_Gates_fullFlow_107 : decode prog_4_method_3_code 107 = .ok (.goto 4, 3) := by decide +kernel
theorem d_Gates_fullFlow_112 : decode prog_4_method_3_code 112 = .ok (.iload 4, 2) := by decide +kernel
theorem d_Gates_fullFlow_114 : decode prog_4_method_3_code 114 = .ok (.aload_n 0, 1) := by decide +kernel
theorem d_Gates_fullFlow_115 : decode prog_4_method_3_code 115 = .ok (.getfield 18, 3) := by decide +kernel
theorem d_Gates_fullFlow_118 : decode prog_4_method_3_code 118 = .ok (.iload_n 1, 1) := by decide +kernel
theorem d_Gates_fullFlow_119 : decode prog_4_method_3_code 119 = .ok (.iaload, 1) := by decide +kernel
theorem d_Gates_fullFlow_120 : decode prog_4_method_3_code 120 = .ok (.if_icmp .lt 18, 3) := by decide +kernel
theorem d_Gates_fullFlow_138 : decode prog_4_method_3_code 138 = .ok (.iload 6, 2) := by decide +kernel
theorem d_Gates_fullFlow_140 : decode prog_4_method_3_code 140 = .ok (.ireturn, 1) := by decide +kernel
theorem d_Gates_fullFlow_123 : decode prog_4_method_3_code 123 = .ok (.iload 4, 2) := by decide +kernel
theorem d_Gates_fullFlow_125 : decode prog_4_method_3_code 125 = .ok (.aload_n 0, 1) := by decide +kernel
theorem d_Gates_fullFlow_126 : decode prog_4_method_3_code 126 = .ok (.getfield 21, 3) := by decide +kernel
theorem gf_Gates_21 : GF "NineBoards$Gates" 21 1 4 := ⟨_, _, _, rfl, ci_Gates, by decide, (mt_1 (List.mem_of_getElem? (i := 152) rfl) rfl)⟩
theorem d_Gates_fullFlow_129 : decode prog_4_method_3_code 129 = .ok (.iload_n 1, 1) := by decide +kernel
theorem d_Gates_fullFlow_130 : decode prog_4_method_3_code 130 = .ok (.iaload, 1) := by decide +kernel
theorem d_Gates_fullFlow_131 : decode prog_4_method_3_code 131 = .ok (.if_icmp .gt 7, 3) := by decide +kernel
theorem d_Gates_fullFlow_134 : decode prog_4_method_3_code 134 = .ok (.iconst 0, 1) := by decide +kernel
theorem d_Gates_fullFlow_135 : decode prog_4_method_3_code 135 = .ok (.goto 5, 3) := by decide +kernel
theorem to_1_3 {x : Int32} (h0 : ¬ x = 1) (h1 : ¬ x = 2) (h2 : ¬ x = 3) : x.toInt < 1 ∨ 3 < x.toInt := by
  have g0 : x.toInt ≠ 1 := fun e => h0 (Int32.toInt_inj.mp (e.trans (by decide)))
  have g1 : x.toInt ≠ 2 := fun e => h1 (Int32.toInt_inj.mp (e.trans (by decide)))
  have g2 : x.toInt ≠ 3 := fun e => h2 (Int32.toInt_inj.mp (e.trans (by decide)))
  omega
theorem d_Gates_fullFlow_141 : decode prog_4_method_3_code 141 = .ok (.iload 6, 2) := by decide +kernel
theorem d_Gates_fullFlow_143 : decode prog_4_method_3_code 143 = .ok (.ireturn, 1) := by decide +kernel
set_option maxHeartbeats 4000000 in
set_option maxRecDepth 100000 in
theorem c_fullFlow (l : Launch) (D : va_G) (y : Nat → ClassId) (ad : Nat → Nat) (d : LD) (j : Nat) (va : Int32) (vb : Int32) (vc : Int32) (hj : j < 9) : CT l D y ⟨"NineBoards$Gates", "fullFlow", "(IIII)I"⟩ prog_4_method_3_code 7 (some .int) ({ frames := 1, cells := 0, slots := 0, locals := 13 } : Room) [.ref (ad 1), .int (nI j), .int va, .int vb, .int vc] [(ad 1, .inr (1, [.int (d.1 9), .ref (ad 4), .ref (ad 5), .ref (ad 6), .ref (ad 7), .ref (ad 8), .ref (ad 9), .ref (ad 10)])), (ad 5, .inl (y 0, 9, .inl (d.2 1))), (ad 6, .inl (y 0, 9, .inl (d.2 2))), (ad 7, .inl (y 0, 9, .inl (d.2 3))), (ad 9, .inl (y 0, 9, .inl (d.2 5)))] (QI D [(ad 1, .inr (1, [.int (d.1 9), .ref (ad 4), .ref (ad 5), .ref (ad 6), .ref (ad 7), .ref (ad 8), .ref (ad 9), .ref (ad 10)])), (ad 5, .inl (y 0, 9, .inl (d.2 1))), (ad 6, .inl (y 0, 9, .inl (d.2 2))), (ad 7, .inl (y 0, 9, .inl (d.2 3))), (ad 9, .inl (y 0, 9, .inl (d.2 5)))] (fun (r : Int32) (u : Unit) => True) (fun _ => [(ad 1, .inr (1, [.int (d.1 9), .ref (ad 4), .ref (ad 5), .ref (ad 6), .ref (ad 7), .ref (ad 8), .ref (ad 9), .ref (ad 10)])), (ad 5, .inl (y 0, 9, .inl (d.2 1))), (ad 6, .inl (y 0, 9, .inl (d.2 2))), (ad 7, .inl (y 0, 9, .inl (d.2 3))), (ad 9, .inl (y 0, 9, .inl (d.2 5)))])) := by
  refine CT.of (by decide) (nb rfl) ?_
  intro p e s m args below meth c C hr
  refine j_lv (lv' := [(0, .ref (ad 1)), (1, .int (nI j)), (2, .int va), (3, .int vb), (4, .int vc)]) rfl ?_
  refine j_iconst (pc := 0) C (v := 0) d_Gates_fullFlow_0 (by decide) ?_
  refine j_iload_n (pc := 1) C d_Gates_fullFlow_1 rfl 3 rfl ?_
  refine j_iload_n (pc := 2) C d_Gates_fullFlow_2 rfl 2 rfl ?_
  refine j_isub (pc := 3) C (v := vb - va) d_Gates_fullFlow_3 rfl ?_
  refine j_mmax (pc := 4) C (mt_4 (List.mem_of_getElem? (i := 11) rfl) rfl) (mt_1 (List.mem_of_getElem? (i := 34) rfl) rfl) (mt_1 (List.mem_of_getElem? (i := 3) rfl) rfl) (mt_1 (List.mem_of_getElem? (i := 35) rfl) rfl) (v := if 0 < vb - va then vb - va else 0) rfl (by decide) (nb rfl) (by decide) (by decide) d_Gates_fullFlow_4 ?_
  refine j_istore (pc := 7) C (lv' := [(5, .int (if 0 < vb - va then vb - va else 0)), (0, .ref (ad 1)), (1, .int (nI j)), (2, .int va), (3, .int vb), (4, .int vc)]) d_Gates_fullFlow_7 (by decide) rfl ?_
  refine j_iload (pc := 9) C d_Gates_fullFlow_9 0 rfl ?_
  refine j_aload_n (pc := 11) C d_Gates_fullFlow_11 rfl 1 rfl ?_
  refine j_get (pc := 12) C gf_Gates_27 0 rfl rfl d_Gates_fullFlow_12 ?_
  refine j_iload_n (pc := 15) C d_Gates_fullFlow_15 rfl 2 rfl ?_
  refine j_iald (pc := 16) C 4 rfl (v := (d.2 5) (nI j).toNatClampNeg) (vp_in_nI hj (by decide)) rfl d_Gates_fullFlow_16 ?_
  refine j_imul (pc := 17) C (v := (if 0 < vb - va then vb - va else 0) * ((d.2 5) (nI j).toNatClampNeg)) d_Gates_fullFlow_17 rfl ?_
  refine j_istore (pc := 18) C (lv' := [(6, .int ((if 0 < vb - va then vb - va else 0) * ((d.2 5) (nI j).toNatClampNeg))), (5, .int (if 0 < vb - va then vb - va else 0)), (0, .ref (ad 1)), (1, .int (nI j)), (2, .int va), (3, .int vb), (4, .int vc)]) d_Gates_fullFlow_18 (by decide) rfl ?_
  refine j_aload_n (pc := 20) C d_Gates_fullFlow_20 rfl 2 rfl ?_
  refine j_get (pc := 21) C gf_Gates_15 0 rfl rfl d_Gates_fullFlow_21 ?_
  refine j_iload_n (pc := 24) C d_Gates_fullFlow_24 rfl 3 rfl ?_
  refine j_iald (pc := 25) C 1 rfl (v := (d.2 1) (nI j).toNatClampNeg) (vp_in_nI hj (by decide)) rfl d_Gates_fullFlow_25 ?_
  by_cases c1_0 : (d.2 1) (nI j).toNatClampNeg = 1
  · refine j_tabIn (pc := 26) C (off := 26) (tgt := 52) d_Gates_fullFlow_26 (by rw [c1_0]; decide) (by rw [c1_0]; decide) (by rw [c1_0]; decide) (by decide) ?_
    refine j_iload_n (pc := 52) C d_Gates_fullFlow_52 rfl 4 rfl ?_
    refine j_if_le (pc := 53) C (tgt := 72) d_Gates_fullFlow_53 (by decide) (fun c2 => ?_) (fun c2 => ?_)
    · refine j_iload (pc := 72) C d_Gates_fullFlow_72 0 rfl ?_
      exact j_iret (pc := 74) C hr rfl () trivial [0, 1, 2, 3, 4] rfl (by decide) (by decide) (by decide) d_Gates_fullFlow_74
    · refine j_iload_n (pc := 56) C d_Gates_fullFlow_56 rfl 5 rfl ?_
      refine j_if_le (pc := 57) C (tgt := 72) d_Gates_fullFlow_57 (by decide) (fun c3 => ?_) (fun c3 => ?_)
      · refine j_iload (pc := 72) C d_Gates_fullFlow_72 0 rfl ?_
        exact j_iret (pc := 74) C hr rfl () trivial [0, 1, 2, 3, 4] rfl (by decide) (by decide) (by decide) d_Gates_fullFlow_74
      · refine j_iload (pc := 60) C d_Gates_fullFlow_60 0 rfl ?_
        refine j_aload_n (pc := 62) C d_Gates_fullFlow_62 rfl 2 rfl ?_
        refine j_get (pc := 63) C gf_Gates_18 0 rfl rfl d_Gates_fullFlow_63 ?_
        refine j_iload_n (pc := 66) C d_Gates_fullFlow_66 rfl 3 rfl ?_
        refine j_iald (pc := 67) C 2 rfl (v := (d.2 2) (nI j).toNatClampNeg) (vp_in_nI hj (by decide)) rfl d_Gates_fullFlow_67 ?_
        refine j_iadd (pc := 68) C (v := ((if 0 < vb - va then vb - va else 0) * ((d.2 5) (nI j).toNatClampNeg)) + ((d.2 2) (nI j).toNatClampNeg)) d_Gates_fullFlow_68 rfl ?_
        refine j_goto (pc := 69) C (tgt := 74) d_Gates_fullFlow_69 (by decide) ?_
        exact j_iret (pc := 74) C hr rfl () trivial [0, 1, 2, 3, 4] rfl (by decide) (by decide) (by decide) d_Gates_fullFlow_74
  · by_cases c1_1 : (d.2 1) (nI j).toNatClampNeg = 2
    · refine j_tabIn (pc := 26) C (off := 49) (tgt := 75) d_Gates_fullFlow_26 (by rw [c1_1]; decide) (by rw [c1_1]; decide) (by rw [c1_1]; decide) (by decide) ?_
      refine j_aload_n (pc := 75) C d_Gates_fullFlow_75 rfl 2 rfl ?_
      refine j_get (pc := 76) C gf_Gates_18 0 rfl rfl d_Gates_fullFlow_76 ?_
      refine j_iload_n (pc := 79) C d_Gates_fullFlow_79 rfl 3 rfl ?_
      refine j_iald (pc := 80) C 2 rfl (v := (d.2 2) (nI j).toNatClampNeg) (vp_in_nI hj (by decide)) rfl d_Gates_fullFlow_80 ?_
      refine j_if_le (pc := 81) C (tgt := 110) d_Gates_fullFlow_81 (by decide) (fun c4 => ?_) (fun c4 => ?_)
      · refine j_iconst (pc := 110) C (v := 0) d_Gates_fullFlow_110 (by decide) ?_
        exact j_iret (pc := 111) C hr rfl () trivial [0, 1, 2, 3, 4] rfl (by decide) (by decide) (by decide) d_Gates_fullFlow_111
      · refine j_iload (pc := 84) C d_Gates_fullFlow_84 1 rfl ?_
        refine j_aload_n (pc := 86) C d_Gates_fullFlow_86 rfl 2 rfl ?_
        refine j_get (pc := 87) C gf_Gates_18 0 rfl rfl d_Gates_fullFlow_87 ?_
        refine j_iload_n (pc := 90) C d_Gates_fullFlow_90 rfl 3 rfl ?_
        refine j_iald (pc := 91) C 2 rfl (v := (d.2 2) (nI j).toNatClampNeg) (vp_in_nI hj (by decide)) rfl d_Gates_fullFlow_91 ?_
        refine j_idiv (pc := 92) C (v := (if 0 < vb - va then vb - va else 0) / ((d.2 2) (nI j).toNatClampNeg)) d_Gates_fullFlow_92 (fun e => c4 (by rw [e]; decide)) rfl ?_
        refine j_aload_n (pc := 93) C d_Gates_fullFlow_93 rfl 2 rfl ?_
        refine j_get (pc := 94) C gf_Gates_18 0 rfl rfl d_Gates_fullFlow_94 ?_
        refine j_iload_n (pc := 97) C d_Gates_fullFlow_97 rfl 3 rfl ?_
        refine j_iald (pc := 98) C 2 rfl (v := (d.2 2) (nI j).toNatClampNeg) (vp_in_nI hj (by decide)) rfl d_Gates_fullFlow_98 ?_
        refine j_imul (pc := 99) C (v := ((if 0 < vb - va then vb - va else 0) / ((d.2 2) (nI j).toNatClampNeg)) * ((d.2 2) (nI j).toNatClampNeg)) d_Gates_fullFlow_99 rfl ?_
        refine j_aload_n (pc := 100) C d_Gates_fullFlow_100 rfl 2 rfl ?_
        refine j_get (pc := 101) C gf_Gates_27 0 rfl rfl d_Gates_fullFlow_101 ?_
        refine j_iload_n (pc := 104) C d_Gates_fullFlow_104 rfl 3 rfl ?_
        refine j_iald (pc := 105) C 4 rfl (v := (d.2 5) (nI j).toNatClampNeg) (vp_in_nI hj (by decide)) rfl d_Gates_fullFlow_105 ?_
        refine j_imul (pc := 106) C (v := (((if 0 < vb - va then vb - va else 0) / ((d.2 2) (nI j).toNatClampNeg)) * ((d.2 2) (nI j).toNatClampNeg)) * ((d.2 5) (nI j).toNatClampNeg)) d_Gates_fullFlow_106 rfl ?_
        refine j_goto (pc := 107) C (tgt := 111) d_Gates_fullFlow_107 (by decide) ?_
        exact j_iret (pc := 111) C hr rfl () trivial [0, 1, 2, 3, 4] rfl (by decide) (by decide) (by decide) d_Gates_fullFlow_111
    · by_cases c1_2 : (d.2 1) (nI j).toNatClampNeg = 3
      · refine j_tabIn (pc := 26) C (off := 86) (tgt := 112) d_Gates_fullFlow_26 (by rw [c1_2]; decide) (by rw [c1_2]; decide) (by rw [c1_2]; decide) (by decide) ?_
        refine j_iload (pc := 112) C d_Gates_fullFlow_112 6 rfl ?_
        refine j_aload_n (pc := 114) C d_Gates_fullFlow_114 rfl 2 rfl ?_
        refine j_get (pc := 115) C gf_Gates_18 0 rfl rfl d_Gates_fullFlow_115 ?_
        refine j_iload_n (pc := 118) C d_Gates_fullFlow_118 rfl 3 rfl ?_
        refine j_iald (pc := 119) C 2 rfl (v := (d.2 2) (nI j).toNatClampNeg) (vp_in_nI hj (by decide)) rfl d_Gates_fullFlow_119 ?_
        refine j_icmp_lt (pc := 120) C (tgt := 138) d_Gates_fullFlow_120 (by decide) (fun c5 => ?_) (fun c5 => ?_)
        · refine j_iload (pc := 138) C d_Gates_fullFlow_138 0 rfl ?_
          exact j_iret (pc := 140) C hr rfl () trivial [0, 1, 2, 3, 4] rfl (by decide) (by decide) (by decide) d_Gates_fullFlow_140
        · refine j_iload (pc := 123) C d_Gates_fullFlow_123 6 rfl ?_
          refine j_aload_n (pc := 125) C d_Gates_fullFlow_125 rfl 2 rfl ?_
          refine j_get (pc := 126) C gf_Gates_21 0 rfl rfl d_Gates_fullFlow_126 ?_
          refine j_iload_n (pc := 129) C d_Gates_fullFlow_129 rfl 3 rfl ?_
          refine j_iald (pc := 130) C 3 rfl (v := (d.2 3) (nI j).toNatClampNeg) (vp_in_nI hj (by decide)) rfl d_Gates_fullFlow_130 ?_
          refine j_icmp_gt (pc := 131) C (tgt := 138) d_Gates_fullFlow_131 (by decide) (fun c6 => ?_) (fun c6 => ?_)
          · refine j_iload (pc := 138) C d_Gates_fullFlow_138 0 rfl ?_
            exact j_iret (pc := 140) C hr rfl () trivial [0, 1, 2, 3, 4] rfl (by decide) (by decide) (by decide) d_Gates_fullFlow_140
          · refine j_iconst (pc := 134) C (v := 0) d_Gates_fullFlow_134 (by decide) ?_
            refine j_goto (pc := 135) C (tgt := 140) d_Gates_fullFlow_135 (by decide) ?_
            exact j_iret (pc := 140) C hr rfl () trivial [0, 1, 2, 3, 4] rfl (by decide) (by decide) (by decide) d_Gates_fullFlow_140
      · refine j_tabOut (pc := 26) C (tgt := 141) d_Gates_fullFlow_26 (by exact to_1_3 c1_0 c1_1 c1_2) (by decide) ?_
        refine j_iload (pc := 141) C d_Gates_fullFlow_141 0 rfl ?_
        exact j_iret (pc := 143) C hr rfl () trivial [0, 1, 2, 3, 4] rfl (by decide) (by decide) (by decide) d_Gates_fullFlow_143
theorem d_Things_isServed_0 : decode prog_11_method_2_code 0 = .ok (.iload_n 2, 1) := by decide +kernel
theorem d_Things_isServed_1 : decode prog_11_method_2_code 1 = .ok (.aload_n 0, 1) := by decide +kernel
theorem d_Things_isServed_2 : decode prog_11_method_2_code 2 = .ok (.getfield 24, 3) := by decide +kernel
theorem gf_Things_24 : GF "NineBoards$Things" 24 8 5 := ⟨_, _, _, rfl, ci_Things, by decide, (mt_1 (List.mem_of_getElem? (i := 202) rfl) rfl)⟩
theorem d_Things_isServed_5 : decode prog_11_method_2_code 5 = .ok (.iload_n 1, 1) := by decide +kernel
theorem d_Things_isServed_6 : decode prog_11_method_2_code 6 = .ok (.iaload, 1) := by decide +kernel
theorem d_Things_isServed_7 : decode prog_11_method_2_code 7 = .ok (.if_icmp .lt 17, 3) := by decide +kernel
theorem d_Things_isServed_24 : decode prog_11_method_2_code 24 = .ok (.iconst 0, 1) := by decide +kernel
theorem d_Things_isServed_25 : decode prog_11_method_2_code 25 = .ok (.istore 4, 2) := by decide +kernel
theorem d_Things_isServed_27 : decode prog_11_method_2_code 27 = .ok (.iload 4, 2) := by decide +kernel
theorem d_Things_isServed_29 : decode prog_11_method_2_code 29 = .ok (.ifCond .eq 27, 3) := by decide +kernel
theorem d_Things_isServed_56 : decode prog_11_method_2_code 56 = .ok (.iconst 0, 1) := by decide +kernel
theorem d_Things_isServed_57 : decode prog_11_method_2_code 57 = .ok (.ireturn, 1) := by decide +kernel
theorem d_Things_isServed_10 : decode prog_11_method_2_code 10 = .ok (.iload_n 2, 1) := by decide +kernel
theorem d_Things_isServed_11 : decode prog_11_method_2_code 11 = .ok (.aload_n 0, 1) := by decide +kernel
theorem d_Things_isServed_12 : decode prog_11_method_2_code 12 = .ok (.getfield 27, 3) := by decide +kernel
theorem gf_Things_27 : GF "NineBoards$Things" 27 8 6 := ⟨_, _, _, rfl, ci_Things, by decide, (mt_1 (List.mem_of_getElem? (i := 204) rfl) rfl)⟩
theorem d_Things_isServed_15 : decode prog_11_method_2_code 15 = .ok (.iload_n 1, 1) := by decide +kernel
theorem d_Things_isServed_16 : decode prog_11_method_2_code 16 = .ok (.iaload, 1) := by decide +kernel
theorem d_Things_isServed_17 : decode prog_11_method_2_code 17 = .ok (.if_icmp .gt 7, 3) := by decide +kernel
theorem d_Things_isServed_20 : decode prog_11_method_2_code 20 = .ok (.iconst 1, 1) := by decide +kernel
theorem d_Things_isServed_21 : decode prog_11_method_2_code 21 = .ok (.goto 4, 3) := by decide +kernel
theorem d_Things_isServed_32 : decode prog_11_method_2_code 32 = .ok (.iload_n 3, 1) := by decide +kernel
theorem d_Things_isServed_33 : decode prog_11_method_2_code 33 = .ok (.aload_n 0, 1) := by decide +kernel
theorem d_Things_isServed_34 : decode prog_11_method_2_code 34 = .ok (.getfield 18, 3) := by decide +kernel
theorem gf_Things_18 : GF "NineBoards$Things" 18 8 3 := ⟨_, _, _, rfl, ci_Things, by decide, (mt_1 (List.mem_of_getElem? (i := 198) rfl) rfl)⟩
theorem d_Things_isServed_37 : decode prog_11_method_2_code 37 = .ok (.iload_n 1, 1) := by decide +kernel
theorem d_Things_isServed_38 : decode prog_11_method_2_code 38 = .ok (.iaload, 1) := by decide +kernel
theorem d_Things_isServed_39 : decode prog_11_method_2_code 39 = .ok (.if_icmp .lt 17, 3) := by decide +kernel
theorem d_Things_isServed_42 : decode prog_11_method_2_code 42 = .ok (.iload_n 3, 1) := by decide +kernel
theorem d_Things_isServed_43 : decode prog_11_method_2_code 43 = .ok (.aload_n 0, 1) := by decide +kernel
theorem d_Things_isServed_44 : decode prog_11_method_2_code 44 = .ok (.getfield 21, 3) := by decide +kernel
theorem gf_Things_21 : GF "NineBoards$Things" 21 8 4 := ⟨_, _, _, rfl, ci_Things, by decide, (mt_1 (List.mem_of_getElem? (i := 200) rfl) rfl)⟩
theorem d_Things_isServed_47 : decode prog_11_method_2_code 47 = .ok (.iload_n 1, 1) := by decide +kernel
theorem d_Things_isServed_48 : decode prog_11_method_2_code 48 = .ok (.iaload, 1) := by decide +kernel
theorem d_Things_isServed_49 : decode prog_11_method_2_code 49 = .ok (.if_icmp .gt 7, 3) := by decide +kernel
theorem d_Things_isServed_52 : decode prog_11_method_2_code 52 = .ok (.iconst 1, 1) := by decide +kernel
theorem d_Things_isServed_53 : decode prog_11_method_2_code 53 = .ok (.goto 4, 3) := by decide +kernel
set_option maxHeartbeats 4000000 in
set_option maxRecDepth 100000 in
theorem c_isServed (l : Launch) (D : va_G) (y : Nat → ClassId) (ad : Nat → Nat) (d : LD) (j : Nat) (va : Int32) (vb : Int32) (hj : j < 16) : CT l D y ⟨"NineBoards$Things", "isServed", "(III)Z"⟩ prog_11_method_2_code 5 (some .boolean) ({ frames := 0, cells := 0, slots := 0, locals := 0 } : Room) [.ref (ad 2), .int (nI j), .int va, .int vb] [(ad 2, .inr (8, [.int (d.1 10), .ref (ad 13), .ref (ad 14), .ref (ad 15), .ref (ad 16), .ref (ad 17), .ref (ad 18), .ref (ad 19)])), (ad 15, .inl (y 0, 16, .inl (d.2 11))), (ad 16, .inl (y 0, 16, .inl (d.2 12))), (ad 17, .inl (y 0, 16, .inl (d.2 13))), (ad 18, .inl (y 0, 16, .inl (d.2 14)))] (QI D [(ad 2, .inr (8, [.int (d.1 10), .ref (ad 13), .ref (ad 14), .ref (ad 15), .ref (ad 16), .ref (ad 17), .ref (ad 18), .ref (ad 19)])), (ad 15, .inl (y 0, 16, .inl (d.2 11))), (ad 16, .inl (y 0, 16, .inl (d.2 12))), (ad 17, .inl (y 0, 16, .inl (d.2 13))), (ad 18, .inl (y 0, 16, .inl (d.2 14)))] (fun (r : Int32) (u : Unit) => r = 0 ∨ r = 1) (fun _ => [(ad 2, .inr (8, [.int (d.1 10), .ref (ad 13), .ref (ad 14), .ref (ad 15), .ref (ad 16), .ref (ad 17), .ref (ad 18), .ref (ad 19)])), (ad 15, .inl (y 0, 16, .inl (d.2 11))), (ad 16, .inl (y 0, 16, .inl (d.2 12))), (ad 17, .inl (y 0, 16, .inl (d.2 13))), (ad 18, .inl (y 0, 16, .inl (d.2 14)))])) := by
  refine CT.of (by decide) (nb rfl) ?_
  intro p e s m args below meth c C hr
  refine j_lv (lv' := [(0, .ref (ad 2)), (1, .int (nI j)), (2, .int va), (3, .int vb)]) rfl ?_
  refine j_iload_n (pc := 0) C d_Things_isServed_0 rfl 2 rfl ?_
  refine j_aload_n (pc := 1) C d_Things_isServed_1 rfl 0 rfl ?_
  refine j_get (pc := 2) C gf_Things_24 0 rfl rfl d_Things_isServed_2 ?_
  refine j_iload_n (pc := 5) C d_Things_isServed_5 rfl 1 rfl ?_
  refine j_iald (pc := 6) C 3 rfl (v := (d.2 13) (nI j).toNatClampNeg) (vp_in_nI hj (by decide)) rfl d_Things_isServed_6 ?_
  refine j_icmp_lt (pc := 7) C (tgt := 24) d_Things_isServed_7 (by decide) (fun c1 => ?_) (fun c1 => ?_)
  · refine j_iconst (pc := 24) C (v := 0) d_Things_isServed_24 (by decide) ?_
    refine j_istore (pc := 25) C (lv' := [(4, .int 0), (0, .ref (ad 2)), (1, .int (nI j)), (2, .int va), (3, .int vb)]) d_Things_isServed_25 (by decide) rfl ?_
    refine j_iload (pc := 27) C d_Things_isServed_27 0 rfl ?_
    refine j_if_eqT (pc := 29) C (tgt := 56) d_Things_isServed_29 (by decide) (by decide) ?_
    refine j_iconst (pc := 56) C (v := 0) d_Things_isServed_56 (by decide) ?_
    exact j_iret (pc := 57) C hr (by decide) () (by decide) [0, 1, 2, 3, 4] rfl (by decide) (by decide) (by decide) d_Things_isServed_57
  · refine j_iload_n (pc := 10) C d_Things_isServed_10 rfl 2 rfl ?_
    refine j_aload_n (pc := 11) C d_Things_isServed_11 rfl 0 rfl ?_
    refine j_get (pc := 12) C gf_Things_27 0 rfl rfl d_Things_isServed_12 ?_
    refine j_iload_n (pc := 15) C d_Things_isServed_15 rfl 1 rfl ?_
    refine j_iald (pc := 16) C 4 rfl (v := (d.2 14) (nI j).toNatClampNeg) (vp_in_nI hj (by decide)) rfl d_Things_isServed_16 ?_
    refine j_icmp_gt (pc := 17) C (tgt := 24) d_Things_isServed_17 (by decide) (fun c2 => ?_) (fun c2 => ?_)
    · refine j_iconst (pc := 24) C (v := 0) d_Things_isServed_24 (by decide) ?_
      refine j_istore (pc := 25) C (lv' := [(4, .int 0), (0, .ref (ad 2)), (1, .int (nI j)), (2, .int va), (3, .int vb)]) d_Things_isServed_25 (by decide) rfl ?_
      refine j_iload (pc := 27) C d_Things_isServed_27 0 rfl ?_
      refine j_if_eqT (pc := 29) C (tgt := 56) d_Things_isServed_29 (by decide) (by decide) ?_
      refine j_iconst (pc := 56) C (v := 0) d_Things_isServed_56 (by decide) ?_
      exact j_iret (pc := 57) C hr (by decide) () (by decide) [0, 1, 2, 3, 4] rfl (by decide) (by decide) (by decide) d_Things_isServed_57
    · refine j_iconst (pc := 20) C (v := 1) d_Things_isServed_20 (by decide) ?_
      refine j_goto (pc := 21) C (tgt := 25) d_Things_isServed_21 (by decide) ?_
      refine j_istore (pc := 25) C (lv' := [(4, .int 1), (0, .ref (ad 2)), (1, .int (nI j)), (2, .int va), (3, .int vb)]) d_Things_isServed_25 (by decide) rfl ?_
      refine j_iload (pc := 27) C d_Things_isServed_27 0 rfl ?_
      refine j_if_eqF (pc := 29) C (tgt := 56) d_Things_isServed_29 (by decide) (by decide) ?_
      refine j_iload_n (pc := 32) C d_Things_isServed_32 rfl 4 rfl ?_
      refine j_aload_n (pc := 33) C d_Things_isServed_33 rfl 1 rfl ?_
      refine j_get (pc := 34) C gf_Things_18 0 rfl rfl d_Things_isServed_34 ?_
      refine j_iload_n (pc := 37) C d_Things_isServed_37 rfl 2 rfl ?_
      refine j_iald (pc := 38) C 1 rfl (v := (d.2 11) (nI j).toNatClampNeg) (vp_in_nI hj (by decide)) rfl d_Things_isServed_38 ?_
      refine j_icmp_lt (pc := 39) C (tgt := 56) d_Things_isServed_39 (by decide) (fun c3 => ?_) (fun c3 => ?_)
      · refine j_iconst (pc := 56) C (v := 0) d_Things_isServed_56 (by decide) ?_
        exact j_iret (pc := 57) C hr (by decide) () (by decide) [0, 1, 2, 3, 4] rfl (by decide) (by decide) (by decide) d_Things_isServed_57
      · refine j_iload_n (pc := 42) C d_Things_isServed_42 rfl 4 rfl ?_
        refine j_aload_n (pc := 43) C d_Things_isServed_43 rfl 1 rfl ?_
        refine j_get (pc := 44) C gf_Things_21 0 rfl rfl d_Things_isServed_44 ?_
        refine j_iload_n (pc := 47) C d_Things_isServed_47 rfl 2 rfl ?_
        refine j_iald (pc := 48) C 2 rfl (v := (d.2 12) (nI j).toNatClampNeg) (vp_in_nI hj (by decide)) rfl d_Things_isServed_48 ?_
        refine j_icmp_gt (pc := 49) C (tgt := 56) d_Things_isServed_49 (by decide) (fun c4 => ?_) (fun c4 => ?_)
        · refine j_iconst (pc := 56) C (v := 0) d_Things_isServed_56 (by decide) ?_
          exact j_iret (pc := 57) C hr (by decide) () (by decide) [0, 1, 2, 3, 4] rfl (by decide) (by decide) (by decide) d_Things_isServed_57
        · refine j_iconst (pc := 52) C (v := 1) d_Things_isServed_52 (by decide) ?_
          refine j_goto (pc := 53) C (tgt := 57) d_Things_isServed_53 (by decide) ?_
          exact j_iret (pc := 57) C hr (by decide) () (by decide) [0, 1, 2, 3, 4] rfl (by decide) (by decide) (by decide) d_Things_isServed_57
end
section
theorem mx0 (v : Int32) : ∃ i : Nat, i < 2 ^ 31 ∧ (if 0 < v then v else 0) = nI i := by
  by_cases h : 0 < v
  · rw [if_pos h]
    exact nI_of (fun q => absurd (Int32.lt_trans h q) Int32.lt_irrefl)
  · rw [if_neg h]
    exact ⟨0, by decide, rfl⟩
theorem nI_dn {t : Nat} (h : 1 ≤ t) : nI t + (-1) = nI (t - 1) := by
  obtain ⟨q, rfl⟩ : ∃ q, t = q + 1 := ⟨t - 1, by omega⟩
  exact pk_m1 q
theorem nI_s1 {t : Nat} (h : 1 ≤ t) : nI t - 1 = nI (t - 1) := pk_sub (b := 1) h
theorem d_Rules_within_0 : decode prog_9_method_6_code 0 = .ok (.lload_n 0, 1) := by decide +kernel
theorem d_Rules_within_1 : decode prog_9_method_6_code 1 = .ok (.ldc2_w 61, 3) := by decide +kernel
theorem d_Rules_within_4 : decode prog_9_method_6_code 4 = .ok (.lcmp, 1) := by decide +kernel
theorem d_Rules_within_5 : decode prog_9_method_6_code 5 = .ok (.ifCond .le 8, 3) := by decide +kernel
theorem d_Rules_within_13 : decode prog_9_method_6_code 13 = .ok (.lload_n 0, 1) := by decide +kernel
theorem d_Rules_within_14 : decode prog_9_method_6_code 14 = .ok (.ldc2_w 64, 3) := by decide +kernel
theorem d_Rules_within_17 : decode prog_9_method_6_code 17 = .ok (.lcmp, 1) := by decide +kernel
theorem d_Rules_within_18 : decode prog_9_method_6_code 18 = .ok (.ifCond .ge 8, 3) := by decide +kernel
theorem d_Rules_within_26 : decode prog_9_method_6_code 26 = .ok (.lload_n 0, 1) := by decide +kernel
theorem d_Rules_within_27 : decode prog_9_method_6_code 27 = .ok (.l2i, 1) := by decide +kernel
theorem d_Rules_within_28 : decode prog_9_method_6_code 28 = .ok (.ireturn, 1) := by decide +kernel
theorem d_Rules_within_21 : decode prog_9_method_6_code 21 = .ok (.ldc 66, 2) := by decide +kernel
theorem d_Rules_within_23 : decode prog_9_method_6_code 23 = .ok (.goto 5, 3) := by decide +kernel
theorem d_Rules_within_8 : decode prog_9_method_6_code 8 = .ok (.ldc 63, 2) := by decide +kernel
theorem d_Rules_within_10 : decode prog_9_method_6_code 10 = .ok (.goto 18, 3) := by decide +kernel
set_option maxHeartbeats 4000000 in
set_option maxRecDepth 100000 in
theorem c_within (l : Launch) (D : va_G) (y : Nat → ClassId) (x : Int64)  : CT l D y ⟨"NineBoards$Rules", "within", "(J)I"⟩ prog_9_method_6_code 2 (some .int) ({ frames := 0, cells := 0, slots := 0, locals := 0 } : Room) [.long x] [] (QI D [] (fun (r : Int32) (u : Unit) => True) (fun _ => [])) := by
  refine CT.of (by decide) (nb rfl) ?_
  intro p e s m args below meth c C hr
  refine j_lv (lv' := [(0, .long x)]) rfl ?_
  refine j_lload_n (pc := 0) C d_Rules_within_0 rfl 0 rfl ?_
  refine j_ldc2 (pc := 1) C (v := 1000000) (mt_4 (List.mem_of_getElem? (i := 96) rfl) rfl) d_Rules_within_1 ?_
  refine j_lcmp (pc := 4) C (v := lg_cmp x 1000000) d_Rules_within_4 rfl ?_
  refine j_if_le (pc := 5) C (tgt := 13) d_Rules_within_5 (by decide) (fun c1 => ?_) (fun c1 => ?_)
  · refine j_lload_n (pc := 13) C d_Rules_within_13 rfl 0 rfl ?_
    refine j_ldc2 (pc := 14) C (v := (-1000000)) (mt_4 (List.mem_of_getElem? (i := 98) rfl) rfl) d_Rules_within_14 ?_
    refine j_lcmp (pc := 17) C (v := lg_cmp x (-1000000)) d_Rules_within_17 rfl ?_
    refine j_if_ge (pc := 18) C (tgt := 26) d_Rules_within_18 (by decide) (fun c2 => ?_) (fun c2 => ?_)
    · refine j_lload_n (pc := 26) C d_Rules_within_26 rfl 0 rfl ?_
      refine j_l2i (pc := 27) C (v := x.toInt32) d_Rules_within_27 rfl ?_
      exact j_iret (pc := 28) C hr rfl () trivial [] rfl (by decide) (by decide) (by decide) d_Rules_within_28
    · refine j_ldc (pc := 21) C (v := (-1000000)) (mt_4 (List.mem_of_getElem? (i := 99) rfl) rfl) d_Rules_within_21 ?_
      refine j_goto (pc := 23) C (tgt := 28) d_Rules_within_23 (by decide) ?_
      exact j_iret (pc := 28) C hr rfl () trivial [] rfl (by decide) (by decide) (by decide) d_Rules_within_28
  · refine j_ldc (pc := 8) C (v := 1000000) (mt_4 (List.mem_of_getElem? (i := 97) rfl) rfl) d_Rules_within_8 ?_
    refine j_goto (pc := 10) C (tgt := 28) d_Rules_within_10 (by decide) ?_
    exact j_iret (pc := 28) C hr rfl () trivial [] rfl (by decide) (by decide) (by decide) d_Rules_within_28
theorem d_Rules_joined_0 : decode prog_9_method_5_code 0 = .ok (.iload_n 0, 1) := by decide +kernel
theorem d_Rules_joined_1 : decode prog_9_method_5_code 1 = .ok (.tableswitch 145 (-14) (-5) #[141, 130, 119, 108, 102, 96, 82, 73, 64, 55], 55) := by decide +kernel
theorem d_Rules_joined_142 : decode prog_9_method_5_code 142 = .ok (.iload_n 1, 1) := by decide +kernel
theorem d_Rules_joined_143 : decode prog_9_method_5_code 143 = .ok (.iload_n 2, 1) := by decide +kernel
theorem d_Rules_joined_144 : decode prog_9_method_5_code 144 = .ok (.iand, 1) := by decide +kernel
theorem d_Rules_joined_145 : decode prog_9_method_5_code 145 = .ok (.ireturn, 1) := by decide +kernel
theorem d_Rules_joined_131 : decode prog_9_method_5_code 131 = .ok (.iload_n 1, 1) := by decide +kernel
theorem d_Rules_joined_132 : decode prog_9_method_5_code 132 = .ok (.iload_n 2, 1) := by decide +kernel
theorem d_Rules_joined_133 : decode prog_9_method_5_code 133 = .ok (.if_icmp .ne 7, 3) := by decide +kernel
theorem d_Rules_joined_140 : decode prog_9_method_5_code 140 = .ok (.iconst 0, 1) := by decide +kernel
theorem d_Rules_joined_141 : decode prog_9_method_5_code 141 = .ok (.ireturn, 1) := by decide +kernel
theorem d_Rules_joined_136 : decode prog_9_method_5_code 136 = .ok (.iconst 1, 1) := by decide +kernel
theorem d_Rules_joined_137 : decode prog_9_method_5_code 137 = .ok (.goto 4, 3) := by decide +kernel
theorem d_Rules_joined_120 : decode prog_9_method_5_code 120 = .ok (.iload_n 1, 1) := by decide +kernel
theorem d_Rules_joined_121 : decode prog_9_method_5_code 121 = .ok (.iload_n 2, 1) := by decide +kernel
theorem d_Rules_joined_122 : decode prog_9_method_5_code 122 = .ok (.if_icmp .le 7, 3) := by decide +kernel
theorem d_Rules_joined_129 : decode prog_9_method_5_code 129 = .ok (.iconst 0, 1) := by decide +kernel
theorem d_Rules_joined_130 : decode prog_9_method_5_code 130 = .ok (.ireturn, 1) := by decide +kernel
theorem d_Rules_joined_125 : decode prog_9_method_5_code 125 = .ok (.iconst 1, 1) := by decide +kernel
theorem d_Rules_joined_126 : decode prog_9_method_5_code 126 = .ok (.goto 4, 3) := by decide +kernel
theorem d_Rules_joined_109 : decode prog_9_method_5_code 109 = .ok (.iload_n 1, 1) := by decide +kernel
theorem d_Rules_joined_110 : decode prog_9_method_5_code 110 = .ok (.iload_n 2, 1) := by decide +kernel
theorem d_Rules_joined_111 : decode prog_9_method_5_code 111 = .ok (.if_icmp .ge 7, 3) := by decide +kernel
theorem d_Rules_joined_118 : decode prog_9_method_5_code 118 = .ok (.iconst 0, 1) := by decide +kernel
theorem d_Rules_joined_119 : decode prog_9_method_5_code 119 = .ok (.ireturn, 1) := by decide +kernel
theorem d_Rules_joined_114 : decode prog_9_method_5_code 114 = .ok (.iconst 1, 1) := by decide +kernel
theorem d_Rules_joined_115 : decode prog_9_method_5_code 115 = .ok (.goto 4, 3) := by decide +kernel
theorem d_Rules_joined_103 : decode prog_9_method_5_code 103 = .ok (.iload_n 1, 1) := by decide +kernel
theorem d_Rules_joined_104 : decode prog_9_method_5_code 104 = .ok (.iload_n 2, 1) := by decide +kernel
theorem d_Rules_joined_105 : decode prog_9_method_5_code 105 = .ok (.invokestatic 47, 3) := by decide +kernel
theorem d_Rules_joined_108 : decode prog_9_method_5_code 108 = .ok (.ireturn, 1) := by decide +kernel
theorem d_Rules_joined_97 : decode prog_9_method_5_code 97 = .ok (.iload_n 1, 1) := by decide +kernel
theorem d_Rules_joined_98 : decode prog_9_method_5_code 98 = .ok (.iload_n 2, 1) := by decide +kernel
theorem d_Rules_joined_99 : decode prog_9_method_5_code 99 = .ok (.invokestatic 41, 3) := by decide +kernel
theorem d_Rules_joined_102 : decode prog_9_method_5_code 102 = .ok (.ireturn, 1) := by decide +kernel
theorem d_Rules_joined_83 : decode prog_9_method_5_code 83 = .ok (.iload_n 2, 1) := by decide +kernel
theorem d_Rules_joined_84 : decode prog_9_method_5_code 84 = .ok (.ifCond .ne 7, 3) := by decide +kernel
theorem d_Rules_joined_91 : decode prog_9_method_5_code 91 = .ok (.iload_n 1, 1) := by decide +kernel
theorem d_Rules_joined_92 : decode prog_9_method_5_code 92 = .ok (.iload_n 2, 1) := by decide +kernel
theorem d_Rules_joined_93 : decode prog_9_method_5_code 93 = .ok (.invokestatic 58, 3) := by decide +kernel
theorem kw_Rules_58 : KW "NineBoards$Rules" 58 ⟨"java/lang/Math", "floorDiv", "(II)I"⟩ prog_14_method_47_code 3 (some .int) 2 := ⟨(mt_4 (List.mem_of_getElem? (i := 100) rfl) rfl), (mt_1 (List.mem_of_getElem? (i := 3) rfl) rfl), (mt_3 (List.mem_of_getElem? (i := 219) rfl) rfl), by decide +kernel⟩
theorem d_Rules_joined_96 : decode prog_9_method_5_code 96 = .ok (.ireturn, 1) := by decide +kernel
theorem d_Rules_joined_87 : decode prog_9_method_5_code 87 = .ok (.iconst 0, 1) := by decide +kernel
theorem d_Rules_joined_88 : decode prog_9_method_5_code 88 = .ok (.goto 8, 3) := by decide +kernel
theorem d_Rules_joined_74 : decode prog_9_method_5_code 74 = .ok (.iload_n 1, 1) := by decide +kernel
theorem d_Rules_joined_75 : decode prog_9_method_5_code 75 = .ok (.i2l, 1) := by decide +kernel
theorem d_Rules_joined_76 : decode prog_9_method_5_code 76 = .ok (.iload_n 2, 1) := by decide +kernel
theorem d_Rules_joined_77 : decode prog_9_method_5_code 77 = .ok (.i2l, 1) := by decide +kernel
theorem d_Rules_joined_78 : decode prog_9_method_5_code 78 = .ok (.lmul, 1) := by decide +kernel
theorem d_Rules_joined_79 : decode prog_9_method_5_code 79 = .ok (.invokestatic 54, 3) := by decide +kernel
theorem kw_Rules_54 : KW "NineBoards$Rules" 54 ⟨"NineBoards$Rules", "within", "(J)I"⟩ prog_9_method_6_code 2 (some .int) 1 := ⟨(mt_4 (List.mem_of_getElem? (i := 93) rfl) rfl), (mt_1 (List.mem_of_getElem? (i := 9) rfl) rfl), (mt_4 (List.mem_of_getElem? (i := 95) rfl) rfl), by decide +kernel⟩
theorem ks_Rules_within : Cond.static ⟨"NineBoards$Rules", "within", "(J)I"⟩ ∈ TB := (mt_4 (List.mem_of_getElem? (i := 94) rfl) rfl)
theorem d_Rules_joined_82 : decode prog_9_method_5_code 82 = .ok (.ireturn, 1) := by decide +kernel
theorem d_Rules_joined_65 : decode prog_9_method_5_code 65 = .ok (.iload_n 1, 1) := by decide +kernel
theorem d_Rules_joined_66 : decode prog_9_method_5_code 66 = .ok (.i2l, 1) := by decide +kernel
theorem d_Rules_joined_67 : decode prog_9_method_5_code 67 = .ok (.iload_n 2, 1) := by decide +kernel
theorem d_Rules_joined_68 : decode prog_9_method_5_code 68 = .ok (.i2l, 1) := by decide +kernel
theorem d_Rules_joined_69 : decode prog_9_method_5_code 69 = .ok (.lsub, 1) := by decide +kernel
theorem d_Rules_joined_70 : decode prog_9_method_5_code 70 = .ok (.invokestatic 54, 3) := by decide +kernel
theorem d_Rules_joined_73 : decode prog_9_method_5_code 73 = .ok (.ireturn, 1) := by decide +kernel
theorem d_Rules_joined_56 : decode prog_9_method_5_code 56 = .ok (.iload_n 1, 1) := by decide +kernel
theorem d_Rules_joined_57 : decode prog_9_method_5_code 57 = .ok (.i2l, 1) := by decide +kernel
theorem d_Rules_joined_58 : decode prog_9_method_5_code 58 = .ok (.iload_n 2, 1) := by decide +kernel
theorem d_Rules_joined_59 : decode prog_9_method_5_code 59 = .ok (.i2l, 1) := by decide +kernel
theorem d_Rules_joined_60 : decode prog_9_method_5_code 60 = .ok (.ladd, 1) := by decide +kernel
theorem d_Rules_joined_61 : decode prog_9_method_5_code 61 = .ok (.invokestatic 54, 3) := by decide +kernel
theorem d_Rules_joined_64 : decode prog_9_method_5_code 64 = .ok (.ireturn, 1) := by decide +kernel
theorem to_m14_m5 {x : Int32} (h0 : ¬ x = (-14)) (h1 : ¬ x = (-13)) (h2 : ¬ x = (-12)) (h3 : ¬ x = (-11)) (h4 : ¬ x = (-10)) (h5 : ¬ x = (-9)) (h6 : ¬ x = (-8)) (h7 : ¬ x = (-7)) (h8 : ¬ x = (-6)) (h9 : ¬ x = (-5)) : x.toInt < -14 ∨ -5 < x.toInt := by
  have g0 : x.toInt ≠ (-14) := fun e => h0 (Int32.toInt_inj.mp (e.trans (by decide)))
  have g1 : x.toInt ≠ (-13) := fun e => h1 (Int32.toInt_inj.mp (e.trans (by decide)))
  have g2 : x.toInt ≠ (-12) := fun e => h2 (Int32.toInt_inj.mp (e.trans (by decide)))
  have g3 : x.toInt ≠ (-11) := fun e => h3 (Int32.toInt_inj.mp (e.trans (by decide)))
  have g4 : x.toInt ≠ (-10) := fun e => h4 (Int32.toInt_inj.mp (e.trans (by decide)))
  have g5 : x.toInt ≠ (-9) := fun e => h5 (Int32.toInt_inj.mp (e.trans (by decide)))
  have g6 : x.toInt ≠ (-8) := fun e => h6 (Int32.toInt_inj.mp (e.trans (by decide)))
  have g7 : x.toInt ≠ (-7) := fun e => h7 (Int32.toInt_inj.mp (e.trans (by decide)))
  have g8 : x.toInt ≠ (-6) := fun e => h8 (Int32.toInt_inj.mp (e.trans (by decide)))
  have g9 : x.toInt ≠ (-5) := fun e => h9 (Int32.toInt_inj.mp (e.trans (by decide)))
  omega
theorem d_Rules_joined_146 : decode prog_9_method_5_code 146 = .ok (.iload_n 1, 1) := by decide +kernel
theorem d_Rules_joined_147 : decode prog_9_method_5_code 147 = .ok (.iload_n 2, 1) := by decide +kernel
theorem d_Rules_joined_148 : decode prog_9_method_5_code 148 = .ok (.ior, 1) := by decide +kernel
theorem d_Rules_joined_149 : decode prog_9_method_5_code 149 = .ok (.ireturn, 1) := by decide +kernel
set_option maxHeartbeats 4000000 in
set_option maxRecDepth 100000 in
theorem c_joined (l : Launch) (D : va_G) (y : Nat → ClassId) (v : Int32) (va : Int32) (vb : Int32)  : CT l D y ⟨"NineBoards$Rules", "joined", "(III)I"⟩ prog_9_method_5_code 3 (some .int) ({ frames := 1, cells := 0, slots := 0, locals := 22 } : Room) [.int v, .int va, .int vb] [] (QI D [] (fun (r : Int32) (u : Unit) => True) (fun _ => [])) := by
  refine CT.of (by decide) (nb rfl) ?_
  intro p e s m args below meth c C hr
  refine j_lv (lv' := [(0, .int v), (1, .int va), (2, .int vb)]) rfl ?_
  refine j_iload_n (pc := 0) C d_Rules_joined_0 rfl 0 rfl ?_
  by_cases c1_0 : v = (-14)
  · refine j_tabIn (pc := 1) C (off := 141) (tgt := 142) d_Rules_joined_1 (by rw [c1_0]; decide) (by rw [c1_0]; decide) (by rw [c1_0]; decide) (by decide) ?_
    refine j_iload_n (pc := 142) C d_Rules_joined_142 rfl 1 rfl ?_
    refine j_iload_n (pc := 143) C d_Rules_joined_143 rfl 2 rfl ?_
    refine j_iand (pc := 144) C (v := va &&& vb) d_Rules_joined_144 rfl ?_
    exact j_iret (pc := 145) C hr rfl () trivial [] rfl (by decide) (by decide) (by decide) d_Rules_joined_145
  · by_cases c1_1 : v = (-13)
    · refine j_tabIn (pc := 1) C (off := 130) (tgt := 131) d_Rules_joined_1 (by rw [c1_1]; decide) (by rw [c1_1]; decide) (by rw [c1_1]; decide) (by decide) ?_
      refine j_iload_n (pc := 131) C d_Rules_joined_131 rfl 1 rfl ?_
      refine j_iload_n (pc := 132) C d_Rules_joined_132 rfl 2 rfl ?_
      refine j_icmp_ne (pc := 133) C (tgt := 140) d_Rules_joined_133 (by decide) (fun c2 => ?_) (fun c2 => ?_)
      · refine j_iconst (pc := 140) C (v := 0) d_Rules_joined_140 (by decide) ?_
        exact j_iret (pc := 141) C hr rfl () trivial [] rfl (by decide) (by decide) (by decide) d_Rules_joined_141
      · refine j_iconst (pc := 136) C (v := 1) d_Rules_joined_136 (by decide) ?_
        refine j_goto (pc := 137) C (tgt := 141) d_Rules_joined_137 (by decide) ?_
        exact j_iret (pc := 141) C hr rfl () trivial [] rfl (by decide) (by decide) (by decide) d_Rules_joined_141
    · by_cases c1_2 : v = (-12)
      · refine j_tabIn (pc := 1) C (off := 119) (tgt := 120) d_Rules_joined_1 (by rw [c1_2]; decide) (by rw [c1_2]; decide) (by rw [c1_2]; decide) (by decide) ?_
        refine j_iload_n (pc := 120) C d_Rules_joined_120 rfl 1 rfl ?_
        refine j_iload_n (pc := 121) C d_Rules_joined_121 rfl 2 rfl ?_
        refine j_icmp_le (pc := 122) C (tgt := 129) d_Rules_joined_122 (by decide) (fun c3 => ?_) (fun c3 => ?_)
        · refine j_iconst (pc := 129) C (v := 0) d_Rules_joined_129 (by decide) ?_
          exact j_iret (pc := 130) C hr rfl () trivial [] rfl (by decide) (by decide) (by decide) d_Rules_joined_130
        · refine j_iconst (pc := 125) C (v := 1) d_Rules_joined_125 (by decide) ?_
          refine j_goto (pc := 126) C (tgt := 130) d_Rules_joined_126 (by decide) ?_
          exact j_iret (pc := 130) C hr rfl () trivial [] rfl (by decide) (by decide) (by decide) d_Rules_joined_130
      · by_cases c1_3 : v = (-11)
        · refine j_tabIn (pc := 1) C (off := 108) (tgt := 109) d_Rules_joined_1 (by rw [c1_3]; decide) (by rw [c1_3]; decide) (by rw [c1_3]; decide) (by decide) ?_
          refine j_iload_n (pc := 109) C d_Rules_joined_109 rfl 1 rfl ?_
          refine j_iload_n (pc := 110) C d_Rules_joined_110 rfl 2 rfl ?_
          refine j_icmp_ge (pc := 111) C (tgt := 118) d_Rules_joined_111 (by decide) (fun c4 => ?_) (fun c4 => ?_)
          · refine j_iconst (pc := 118) C (v := 0) d_Rules_joined_118 (by decide) ?_
            exact j_iret (pc := 119) C hr rfl () trivial [] rfl (by decide) (by decide) (by decide) d_Rules_joined_119
          · refine j_iconst (pc := 114) C (v := 1) d_Rules_joined_114 (by decide) ?_
            refine j_goto (pc := 115) C (tgt := 119) d_Rules_joined_115 (by decide) ?_
            exact j_iret (pc := 119) C hr rfl () trivial [] rfl (by decide) (by decide) (by decide) d_Rules_joined_119
        · by_cases c1_4 : v = (-10)
          · refine j_tabIn (pc := 1) C (off := 102) (tgt := 103) d_Rules_joined_1 (by rw [c1_4]; decide) (by rw [c1_4]; decide) (by rw [c1_4]; decide) (by decide) ?_
            refine j_iload_n (pc := 103) C d_Rules_joined_103 rfl 1 rfl ?_
            refine j_iload_n (pc := 104) C d_Rules_joined_104 rfl 2 rfl ?_
            refine j_mmax (pc := 105) C (mt_4 (List.mem_of_getElem? (i := 89) rfl) rfl) (mt_1 (List.mem_of_getElem? (i := 34) rfl) rfl) (mt_1 (List.mem_of_getElem? (i := 3) rfl) rfl) (mt_1 (List.mem_of_getElem? (i := 35) rfl) rfl) (v := if va < vb then vb else va) rfl (by decide) (nb rfl) (by decide) (by decide) d_Rules_joined_105 ?_
            exact j_iret (pc := 108) C hr rfl () trivial [] rfl (by decide) (by decide) (by decide) d_Rules_joined_108
          · by_cases c1_5 : v = (-9)
            · refine j_tabIn (pc := 1) C (off := 96) (tgt := 97) d_Rules_joined_1 (by rw [c1_5]; decide) (by rw [c1_5]; decide) (by rw [c1_5]; decide) (by decide) ?_
              refine j_iload_n (pc := 97) C d_Rules_joined_97 rfl 1 rfl ?_
              refine j_iload_n (pc := 98) C d_Rules_joined_98 rfl 2 rfl ?_
              refine j_mmin (pc := 99) C (mt_4 (List.mem_of_getElem? (i := 101) rfl) rfl) (mt_3 (List.mem_of_getElem? (i := 56) rfl) rfl) (mt_1 (List.mem_of_getElem? (i := 3) rfl) rfl) (mt_3 (List.mem_of_getElem? (i := 57) rfl) rfl) (v := if vb < va then vb else va) rfl (by decide) (nb rfl) (by decide) (by decide) d_Rules_joined_99 ?_
              exact j_iret (pc := 102) C hr rfl () trivial [] rfl (by decide) (by decide) (by decide) d_Rules_joined_102
            · by_cases c1_6 : v = (-8)
              · refine j_tabIn (pc := 1) C (off := 82) (tgt := 83) d_Rules_joined_1 (by rw [c1_6]; decide) (by rw [c1_6]; decide) (by rw [c1_6]; decide) (by decide) ?_
                refine j_iload_n (pc := 83) C d_Rules_joined_83 rfl 2 rfl ?_
                refine j_if_ne (pc := 84) C (tgt := 91) d_Rules_joined_84 (by decide) (fun c5 => ?_) (fun c5 => ?_)
                · refine j_iload_n (pc := 91) C d_Rules_joined_91 rfl 1 rfl ?_
                  refine j_iload_n (pc := 92) C d_Rules_joined_92 rfl 2 rfl ?_
                  refine j_callSi (pc := 93) C (c_floorDiv l D y va vb c5) kw_Rules_58 ks_Math_floorDiv ⟨by decide, by decide⟩ ⟨by decide, by decide⟩ (wr := []) [] [] rfl rfl (by decide) (by decide) (by decide) (As := [.int va, .int vb]) (rest := []) rfl (nb rfl) rfl d_Rules_joined_93 (fun r6 _ hr6 => ?_)
                  refine j_ws (ws' := []) rfl ?_
                  exact j_iret (pc := 96) C hr rfl () trivial [] rfl (by decide) (by decide) (by decide) d_Rules_joined_96
                · refine j_iconst (pc := 87) C (v := 0) d_Rules_joined_87 (by decide) ?_
                  refine j_goto (pc := 88) C (tgt := 96) d_Rules_joined_88 (by decide) ?_
                  exact j_iret (pc := 96) C hr rfl () trivial [] rfl (by decide) (by decide) (by decide) d_Rules_joined_96
              · by_cases c1_7 : v = (-7)
                · refine j_tabIn (pc := 1) C (off := 73) (tgt := 74) d_Rules_joined_1 (by rw [c1_7]; decide) (by rw [c1_7]; decide) (by rw [c1_7]; decide) (by decide) ?_
                  refine j_iload_n (pc := 74) C d_Rules_joined_74 rfl 1 rfl ?_
                  refine j_i2l (pc := 75) C (v := va.toInt64) d_Rules_joined_75 rfl ?_
                  refine j_iload_n (pc := 76) C d_Rules_joined_76 rfl 2 rfl ?_
                  refine j_i2l (pc := 77) C (v := vb.toInt64) d_Rules_joined_77 rfl ?_
                  refine j_lmul (pc := 78) C (v := va.toInt64 * vb.toInt64) d_Rules_joined_78 rfl ?_
                  refine j_callSi (pc := 79) C (c_within l D y (va.toInt64 * vb.toInt64)) kw_Rules_54 ks_Rules_within ⟨by decide, by decide⟩ ⟨by decide, by decide⟩ (wr := []) [] [] rfl rfl (by decide) (by decide) (by decide) (As := [.long (va.toInt64 * vb.toInt64)]) (rest := []) rfl (nb rfl) rfl d_Rules_joined_79 (fun r7 _ hr7 => ?_)
                  refine j_ws (ws' := []) rfl ?_
                  exact j_iret (pc := 82) C hr rfl () trivial [] rfl (by decide) (by decide) (by decide) d_Rules_joined_82
                · by_cases c1_8 : v = (-6)
                  · refine j_tabIn (pc := 1) C (off := 64) (tgt := 65) d_Rules_joined_1 (by rw [c1_8]; decide) (by rw [c1_8]; decide) (by rw [c1_8]; decide) (by decide) ?_
                    refine j_iload_n (pc := 65) C d_Rules_joined_65 rfl 1 rfl ?_
                    refine j_i2l (pc := 66) C (v := va.toInt64) d_Rules_joined_66 rfl ?_
                    refine j_iload_n (pc := 67) C d_Rules_joined_67 rfl 2 rfl ?_
                    refine j_i2l (pc := 68) C (v := vb.toInt64) d_Rules_joined_68 rfl ?_
                    refine j_lsub (pc := 69) C (v := va.toInt64 - vb.toInt64) d_Rules_joined_69 rfl ?_
                    refine j_callSi (pc := 70) C (c_within l D y (va.toInt64 - vb.toInt64)) kw_Rules_54 ks_Rules_within ⟨by decide, by decide⟩ ⟨by decide, by decide⟩ (wr := []) [] [] rfl rfl (by decide) (by decide) (by decide) (As := [.long (va.toInt64 - vb.toInt64)]) (rest := []) rfl (nb rfl) rfl d_Rules_joined_70 (fun r8 _ hr8 => ?_)
                    refine j_ws (ws' := []) rfl ?_
                    exact j_iret (pc := 73) C hr rfl () trivial [] rfl (by decide) (by decide) (by decide) d_Rules_joined_73
                  · by_cases c1_9 : v = (-5)
                    · refine j_tabIn (pc := 1) C (off := 55) (tgt := 56) d_Rules_joined_1 (by rw [c1_9]; decide) (by rw [c1_9]; decide) (by rw [c1_9]; decide) (by decide) ?_
                      refine j_iload_n (pc := 56) C d_Rules_joined_56 rfl 1 rfl ?_
                      refine j_i2l (pc := 57) C (v := va.toInt64) d_Rules_joined_57 rfl ?_
                      refine j_iload_n (pc := 58) C d_Rules_joined_58 rfl 2 rfl ?_
                      refine j_i2l (pc := 59) C (v := vb.toInt64) d_Rules_joined_59 rfl ?_
                      refine j_ladd (pc := 60) C (v := va.toInt64 + vb.toInt64) d_Rules_joined_60 rfl ?_
                      refine j_callSi (pc := 61) C (c_within l D y (va.toInt64 + vb.toInt64)) kw_Rules_54 ks_Rules_within ⟨by decide, by decide⟩ ⟨by decide, by decide⟩ (wr := []) [] [] rfl rfl (by decide) (by decide) (by decide) (As := [.long (va.toInt64 + vb.toInt64)]) (rest := []) rfl (nb rfl) rfl d_Rules_joined_61 (fun r9 _ hr9 => ?_)
                      refine j_ws (ws' := []) rfl ?_
                      exact j_iret (pc := 64) C hr rfl () trivial [] rfl (by decide) (by decide) (by decide) d_Rules_joined_64
                    · refine j_tabOut (pc := 1) C (tgt := 146) d_Rules_joined_1 (by exact to_m14_m5 c1_0 c1_1 c1_2 c1_3 c1_4 c1_5 c1_6 c1_7 c1_8 c1_9) (by decide) ?_
                      refine j_iload_n (pc := 146) C d_Rules_joined_146 rfl 1 rfl ?_
                      refine j_iload_n (pc := 147) C d_Rules_joined_147 rfl 2 rfl ?_
                      refine j_ior (pc := 148) C (v := va ||| vb) d_Rules_joined_148 rfl ?_
                      exact j_iret (pc := 149) C hr rfl () trivial [] rfl (by decide) (by decide) (by decide) d_Rules_joined_149
theorem d_Rules_put_0 : decode prog_9_method_2_code 0 = .ok (.aload_n 0, 1) := by decide +kernel
theorem d_Rules_put_1 : decode prog_9_method_2_code 1 = .ok (.getfield 30, 3) := by decide +kernel
theorem gf_Rules_30 : GF "NineBoards$Rules" 30 6 1 := ⟨_, _, _, rfl, ci_Rules, by decide, (mt_1 (List.mem_of_getElem? (i := 236) rfl) rfl)⟩
theorem d_Rules_put_4 : decode prog_9_method_2_code 4 = .ok (.ifCond .lt 35, 3) := by decide +kernel
theorem d_Rules_put_39 : decode prog_9_method_2_code 39 = .ok (.return_, 1) := by decide +kernel
theorem d_Rules_put_7 : decode prog_9_method_2_code 7 = .ok (.aload_n 0, 1) := by decide +kernel
theorem d_Rules_put_8 : decode prog_9_method_2_code 8 = .ok (.getfield 30, 3) := by decide +kernel
theorem d_Rules_put_11 : decode prog_9_method_2_code 11 = .ok (.aload_n 0, 1) := by decide +kernel
theorem d_Rules_put_12 : decode prog_9_method_2_code 12 = .ok (.getfield 24, 3) := by decide +kernel
theorem gf_Rules_24 : GF "NineBoards$Rules" 24 6 6 := ⟨_, _, _, rfl, ci_Rules, by decide, (mt_2 (List.mem_of_getElem? (i := 7) rfl) rfl)⟩
theorem d_Rules_put_15 : decode prog_9_method_2_code 15 = .ok (.arraylength, 1) := by decide +kernel
theorem d_Rules_put_16 : decode prog_9_method_2_code 16 = .ok (.if_icmp .ge 23, 3) := by decide +kernel
theorem d_Rules_put_19 : decode prog_9_method_2_code 19 = .ok (.aload_n 0, 1) := by decide +kernel
theorem d_Rules_put_20 : decode prog_9_method_2_code 20 = .ok (.getfield 24, 3) := by decide +kernel
theorem d_Rules_put_23 : decode prog_9_method_2_code 23 = .ok (.aload_n 0, 1) := by decide +kernel
theorem d_Rules_put_24 : decode prog_9_method_2_code 24 = .ok (.getfield 30, 3) := by decide +kernel
theorem d_Rules_put_27 : decode prog_9_method_2_code 27 = .ok (.iload_n 1, 1) := by decide +kernel
theorem d_Rules_put_28 : decode prog_9_method_2_code 28 = .ok (.iastore, 1) := by decide +kernel
theorem d_Rules_put_29 : decode prog_9_method_2_code 29 = .ok (.aload_n 0, 1) := by decide +kernel
theorem d_Rules_put_30 : decode prog_9_method_2_code 30 = .ok (.dup, 1) := by decide +kernel
theorem d_Rules_put_31 : decode prog_9_method_2_code 31 = .ok (.getfield 30, 3) := by decide +kernel
theorem d_Rules_put_34 : decode prog_9_method_2_code 34 = .ok (.iconst 1, 1) := by decide +kernel
theorem d_Rules_put_35 : decode prog_9_method_2_code 35 = .ok (.iadd, 1) := by decide +kernel
theorem d_Rules_put_36 : decode prog_9_method_2_code 36 = .ok (.putfield 30, 3) := by decide +kernel
theorem pf_Rules_30 : PF "NineBoards$Rules" 30 6 1 (.int) false := ⟨_, _, _, ct_Rules, rfl, ci_Rules, by decide, (mt_1 (List.mem_of_getElem? (i := 236) rfl) rfl), cp_Rules, cn_Rules, rfl, by decide +kernel, (fun h => by cases h)⟩
set_option maxHeartbeats 4000000 in
set_option maxRecDepth 100000 in
theorem c_rput (l : Launch) (D : va_G) (y : Nat → ClassId) (ad : Nat → Nat) (d : LD) (v : Int32)  : CT l D y ⟨"NineBoards$Rules", "put", "(I)V"⟩ prog_9_method_2_code 2 none ({ frames := 0, cells := 0, slots := 0, locals := 0 } : Room) [.ref (ad 3), .int v] [(ad 3, .inr (6, [.int (d.1 11), .int (d.1 12), .ref (ad 20), .ref (ad 21), .ref (ad 22), .ref (ad 23), .ref (ad 24), .ref (ad 25)])), (ad 24, .inl (y 0, 1600, .inl (d.2 20)))] (QV D [(ad 3, .inr (6, [.int (d.1 11), .int (d.1 12), .ref (ad 20), .ref (ad 21), .ref (ad 22), .ref (ad 23), .ref (ad 24), .ref (ad 25)])), (ad 24, .inl (y 0, 1600, .inl (d.2 20)))] (fun (_ : Int32 × (Nat → Int32)) => True) (fun u => [(ad 3, .inr (6, [.int (d.1 11), .int u.1, .ref (ad 20), .ref (ad 21), .ref (ad 22), .ref (ad 23), .ref (ad 24), .ref (ad 25)])), (ad 24, .inl (y 0, 1600, .inl u.2))])) := by
  refine CT.of (by decide) (nb rfl) ?_
  intro p e s m args below meth c C hr
  refine j_lv (lv' := [(0, .ref (ad 3)), (1, .int v)]) rfl ?_
  refine j_aload_n (pc := 0) C d_Rules_put_0 rfl 0 rfl ?_
  refine j_get (pc := 1) C gf_Rules_30 0 rfl rfl d_Rules_put_1 ?_
  refine j_if_lt (pc := 4) C (tgt := 39) d_Rules_put_4 (by decide) (fun c1 => ?_) (fun c1 => ?_)
  · exact j_vret (pc := 39) C hr (d.1 12, (d.2 20)) trivial [0, 1] rfl (by decide) (by decide) (by decide) d_Rules_put_39
  · refine j_aload_n (pc := 7) C d_Rules_put_7 rfl 0 rfl ?_
    refine j_get (pc := 8) C gf_Rules_30 0 rfl rfl d_Rules_put_8 ?_
    refine j_aload_n (pc := 11) C d_Rules_put_11 rfl 0 rfl ?_
    refine j_get (pc := 12) C gf_Rules_24 0 rfl rfl d_Rules_put_12 ?_
    refine j_alen (pc := 15) C 1 0 rfl rfl (v := 1600) rfl d_Rules_put_15 ?_
    refine j_icmp_ge (pc := 16) C (tgt := 39) d_Rules_put_16 (by decide) (fun c2 => ?_) (fun c2 => ?_)
    · exact j_vret (pc := 39) C hr (d.1 12, (d.2 20)) trivial [0, 1] rfl (by decide) (by decide) (by decide) d_Rules_put_39
    · refine j_aload_n (pc := 19) C d_Rules_put_19 rfl 0 rfl ?_
      refine j_get (pc := 20) C gf_Rules_24 0 rfl rfl d_Rules_put_20 ?_
      refine j_aload_n (pc := 23) C d_Rules_put_23 rfl 0 rfl ?_
      refine j_get (pc := 24) C gf_Rules_30 0 rfl rfl d_Rules_put_24 ?_
      refine j_iload_n (pc := 27) C d_Rules_put_27 rfl 1 rfl ?_
      refine j_iast (pc := 28) C 1 rfl (ws' := [(ad 3, .inr (6, [.int (d.1 11), .int (d.1 12), .ref (ad 20), .ref (ad 21), .ref (ad 22), .ref (ad 23), .ref (ad 24), .ref (ad 25)])), (ad 24, .inl (y 0, 1600, .inl (upd (d.2 20) (d.1 12).toNatClampNeg v)))]) (pk_in2 c1 c2) rfl d_Rules_put_28 ?_
      refine j_aload_n (pc := 29) C d_Rules_put_29 rfl 0 rfl ?_
      refine j_dup (pc := 30) C d_Rules_put_30 rfl ?_
      refine j_get (pc := 31) C gf_Rules_30 0 rfl rfl d_Rules_put_31 ?_
      refine j_iconst (pc := 34) C (v := 1) d_Rules_put_34 (by decide) ?_
      refine j_iadd (pc := 35) C (v := (d.1 12) + 1) d_Rules_put_35 rfl ?_
      refine j_put (pc := 36) C pf_Rules_30 0 (ws' := [(ad 3, .inr (6, [.int (d.1 11), .int ((d.1 12) + 1), .ref (ad 20), .ref (ad 21), .ref (ad 22), .ref (ad 23), .ref (ad 24), .ref (ad 25)])), (ad 24, .inl (y 0, 1600, .inl (upd (d.2 20) (d.1 12).toNatClampNeg v)))]) rfl rfl rfl (nl rfl) rfl d_Rules_put_36 ?_
      exact j_vret (pc := 39) C hr ((d.1 12) + 1, (upd (d.2 20) (d.1 12).toNatClampNeg v)) trivial [0, 1] rfl (by decide) (by decide) (by decide) d_Rules_put_39
theorem d_Rules_value_10 : decode prog_9_method_4_code 10 = .ok (.iload 7, 2) := by decide +kernel
theorem d_Rules_value_12 : decode prog_9_method_4_code 12 = .ok (.iload_n 2, 1) := by decide +kernel
theorem d_Rules_value_13 : decode prog_9_method_4_code 13 = .ok (.if_icmp .ge 167, 3) := by decide +kernel
theorem d_Rules_value_16 : decode prog_9_method_4_code 16 = .ok (.iload 7, 2) := by decide +kernel
theorem d_Rules_value_18 : decode prog_9_method_4_code 18 = .ok (.aload_n 0, 1) := by decide +kernel
theorem d_Rules_value_19 : decode prog_9_method_4_code 19 = .ok (.getfield 24, 3) := by decide +kernel
theorem d_Rules_value_22 : decode prog_9_method_4_code 22 = .ok (.arraylength, 1) := by decide +kernel
theorem d_Rules_value_23 : decode prog_9_method_4_code 23 = .ok (.if_icmp .ge 157, 3) := by decide +kernel
theorem d_Rules_value_26 : decode prog_9_method_4_code 26 = .ok (.aload_n 0, 1) := by decide +kernel
theorem d_Rules_value_27 : decode prog_9_method_4_code 27 = .ok (.getfield 24, 3) := by decide +kernel
theorem d_Rules_value_30 : decode prog_9_method_4_code 30 = .ok (.iload 7, 2) := by decide +kernel
theorem d_Rules_value_32 : decode prog_9_method_4_code 32 = .ok (.iaload, 1) := by decide +kernel
theorem d_Rules_value_33 : decode prog_9_method_4_code 33 = .ok (.istore 8, 2) := by decide +kernel
theorem d_Rules_value_35 : decode prog_9_method_4_code 35 = .ok (.iload 8, 2) := by decide +kernel
theorem d_Rules_value_37 : decode prog_9_method_4_code 37 = .ok (.bipush (-3), 2) := by decide +kernel
theorem d_Rules_value_39 : decode prog_9_method_4_code 39 = .ok (.if_icmp .lt 60, 3) := by decide +kernel
theorem d_Rules_value_99 : decode prog_9_method_4_code 99 = .ok (.iload 8, 2) := by decide +kernel
theorem d_Rules_value_101 : decode prog_9_method_4_code 101 = .ok (.bipush (-4), 2) := by decide +kernel
theorem d_Rules_value_103 : decode prog_9_method_4_code 103 = .ok (.if_icmp .ne 32, 3) := by decide +kernel
theorem d_Rules_value_135 : decode prog_9_method_4_code 135 = .ok (.iload 6, 2) := by decide +kernel
theorem d_Rules_value_137 : decode prog_9_method_4_code 137 = .ok (.iconst 2, 1) := by decide +kernel
theorem d_Rules_value_138 : decode prog_9_method_4_code 138 = .ok (.if_icmp .lt 36, 3) := by decide +kernel
theorem d_Rules_value_174 : decode prog_9_method_4_code 174 = .ok (.iinc 7 1, 3) := by decide +kernel
theorem d_Rules_value_177 : decode prog_9_method_4_code 177 = .ok (.goto (-167), 3) := by decide +kernel
theorem d_Rules_value_141 : decode prog_9_method_4_code 141 = .ok (.iinc 6 (-1), 3) := by decide +kernel
theorem d_Rules_value_144 : decode prog_9_method_4_code 144 = .ok (.aload_n 0, 1) := by decide +kernel
theorem d_Rules_value_145 : decode prog_9_method_4_code 145 = .ok (.getfield 27, 3) := by decide +kernel
theorem gf_Rules_27 : GF "NineBoards$Rules" 27 6 7 := ⟨_, _, _, rfl, ci_Rules, by decide, (mt_2 (List.mem_of_getElem? (i := 8) rfl) rfl)⟩
theorem d_Rules_value_148 : decode prog_9_method_4_code 148 = .ok (.iload 6, 2) := by decide +kernel
theorem d_Rules_value_150 : decode prog_9_method_4_code 150 = .ok (.iconst 1, 1) := by decide +kernel
theorem d_Rules_value_151 : decode prog_9_method_4_code 151 = .ok (.isub, 1) := by decide +kernel
theorem d_Rules_value_152 : decode prog_9_method_4_code 152 = .ok (.iload 8, 2) := by decide +kernel
theorem d_Rules_value_154 : decode prog_9_method_4_code 154 = .ok (.aload_n 0, 1) := by decide +kernel
theorem d_Rules_value_155 : decode prog_9_method_4_code 155 = .ok (.getfield 27, 3) := by decide +kernel
theorem d_Rules_value_158 : decode prog_9_method_4_code 158 = .ok (.iload 6, 2) := by decide +kernel
theorem d_Rules_value_160 : decode prog_9_method_4_code 160 = .ok (.iconst 1, 1) := by decide +kernel
theorem d_Rules_value_161 : decode prog_9_method_4_code 161 = .ok (.isub, 1) := by decide +kernel
theorem d_Rules_value_162 : decode prog_9_method_4_code 162 = .ok (.iaload, 1) := by decide +kernel
theorem d_Rules_value_163 : decode prog_9_method_4_code 163 = .ok (.aload_n 0, 1) := by decide +kernel
theorem d_Rules_value_164 : decode prog_9_method_4_code 164 = .ok (.getfield 27, 3) := by decide +kernel
theorem d_Rules_value_167 : decode prog_9_method_4_code 167 = .ok (.iload 6, 2) := by decide +kernel
theorem d_Rules_value_169 : decode prog_9_method_4_code 169 = .ok (.iaload, 1) := by decide +kernel
theorem d_Rules_value_170 : decode prog_9_method_4_code 170 = .ok (.invokestatic 50, 3) := by decide +kernel
theorem kw_Rules_50 : KW "NineBoards$Rules" 50 ⟨"NineBoards$Rules", "joined", "(III)I"⟩ prog_9_method_5_code 3 (some .int) 3 := ⟨(mt_4 (List.mem_of_getElem? (i := 90) rfl) rfl), (mt_1 (List.mem_of_getElem? (i := 9) rfl) rfl), (mt_4 (List.mem_of_getElem? (i := 92) rfl) rfl), by decide +kernel⟩
theorem ks_Rules_joined : Cond.static ⟨"NineBoards$Rules", "joined", "(III)I"⟩ ∈ TB := (mt_4 (List.mem_of_getElem? (i := 91) rfl) rfl)
theorem d_Rules_value_173 : decode prog_9_method_4_code 173 = .ok (.iastore, 1) := by decide +kernel
theorem d_Rules_value_106 : decode prog_9_method_4_code 106 = .ok (.iload 6, 2) := by decide +kernel
theorem d_Rules_value_108 : decode prog_9_method_4_code 108 = .ok (.iconst 1, 1) := by decide +kernel
theorem d_Rules_value_109 : decode prog_9_method_4_code 109 = .ok (.if_icmp .lt 65, 3) := by decide +kernel
theorem d_Rules_value_112 : decode prog_9_method_4_code 112 = .ok (.aload_n 0, 1) := by decide +kernel
theorem d_Rules_value_113 : decode prog_9_method_4_code 113 = .ok (.getfield 27, 3) := by decide +kernel
theorem d_Rules_value_116 : decode prog_9_method_4_code 116 = .ok (.iload 6, 2) := by decide +kernel
theorem d_Rules_value_118 : decode prog_9_method_4_code 118 = .ok (.iconst 1, 1) := by decide +kernel
theorem d_Rules_value_119 : decode prog_9_method_4_code 119 = .ok (.isub, 1) := by decide +kernel
theorem d_Rules_value_120 : decode prog_9_method_4_code 120 = .ok (.iconst 1, 1) := by decide +kernel
theorem d_Rules_value_121 : decode prog_9_method_4_code 121 = .ok (.aload_n 0, 1) := by decide +kernel
theorem d_Rules_value_122 : decode prog_9_method_4_code 122 = .ok (.getfield 27, 3) := by decide +kernel
theorem d_Rules_value_125 : decode prog_9_method_4_code 125 = .ok (.iload 6, 2) := by decide +kernel
theorem d_Rules_value_127 : decode prog_9_method_4_code 127 = .ok (.iconst 1, 1) := by decide +kernel
theorem d_Rules_value_128 : decode prog_9_method_4_code 128 = .ok (.isub, 1) := by decide +kernel
theorem d_Rules_value_129 : decode prog_9_method_4_code 129 = .ok (.iaload, 1) := by decide +kernel
theorem d_Rules_value_130 : decode prog_9_method_4_code 130 = .ok (.isub, 1) := by decide +kernel
theorem d_Rules_value_131 : decode prog_9_method_4_code 131 = .ok (.iastore, 1) := by decide +kernel
theorem d_Rules_value_132 : decode prog_9_method_4_code 132 = .ok (.goto 42, 3) := by decide +kernel
theorem d_Rules_value_42 : decode prog_9_method_4_code 42 = .ok (.iload 6, 2) := by decide +kernel
theorem d_Rules_value_44 : decode prog_9_method_4_code 44 = .ok (.aload_n 0, 1) := by decide +kernel
theorem d_Rules_value_45 : decode prog_9_method_4_code 45 = .ok (.getfield 27, 3) := by decide +kernel
theorem d_Rules_value_48 : decode prog_9_method_4_code 48 = .ok (.arraylength, 1) := by decide +kernel
theorem d_Rules_value_49 : decode prog_9_method_4_code 49 = .ok (.if_icmp .ge 125, 3) := by decide +kernel
theorem d_Rules_value_52 : decode prog_9_method_4_code 52 = .ok (.aload_n 0, 1) := by decide +kernel
theorem d_Rules_value_53 : decode prog_9_method_4_code 53 = .ok (.getfield 27, 3) := by decide +kernel
theorem d_Rules_value_56 : decode prog_9_method_4_code 56 = .ok (.iload 6, 2) := by decide +kernel
theorem d_Rules_value_58 : decode prog_9_method_4_code 58 = .ok (.iload 8, 2) := by decide +kernel
theorem d_Rules_value_60 : decode prog_9_method_4_code 60 = .ok (.ifCond .lt 8, 3) := by decide +kernel
theorem d_Rules_value_68 : decode prog_9_method_4_code 68 = .ok (.iload 8, 2) := by decide +kernel
theorem d_Rules_value_70 : decode prog_9_method_4_code 70 = .ok (.iconst (-1), 1) := by decide +kernel
theorem d_Rules_value_71 : decode prog_9_method_4_code 71 = .ok (.if_icmp .ne 7, 3) := by decide +kernel
theorem d_Rules_value_78 : decode prog_9_method_4_code 78 = .ok (.iload 8, 2) := by decide +kernel
theorem d_Rules_value_80 : decode prog_9_method_4_code 80 = .ok (.bipush (-2), 2) := by decide +kernel
theorem d_Rules_value_82 : decode prog_9_method_4_code 82 = .ok (.if_icmp .ne 8, 3) := by decide +kernel
theorem d_Rules_value_90 : decode prog_9_method_4_code 90 = .ok (.iload 5, 2) := by decide +kernel
theorem d_Rules_value_92 : decode prog_9_method_4_code 92 = .ok (.iastore, 1) := by decide +kernel
theorem d_Rules_value_93 : decode prog_9_method_4_code 93 = .ok (.iinc 6 1, 3) := by decide +kernel
theorem d_Rules_value_96 : decode prog_9_method_4_code 96 = .ok (.goto 78, 3) := by decide +kernel
theorem d_Rules_value_85 : decode prog_9_method_4_code 85 = .ok (.iload 4, 2) := by decide +kernel
theorem d_Rules_value_87 : decode prog_9_method_4_code 87 = .ok (.goto 5, 3) := by decide +kernel
theorem d_Rules_value_74 : decode prog_9_method_4_code 74 = .ok (.iload_n 3, 1) := by decide +kernel
theorem d_Rules_value_75 : decode prog_9_method_4_code 75 = .ok (.goto 17, 3) := by decide +kernel
theorem d_Rules_value_63 : decode prog_9_method_4_code 63 = .ok (.iload 8, 2) := by decide +kernel
theorem d_Rules_value_65 : decode prog_9_method_4_code 65 = .ok (.goto 27, 3) := by decide +kernel
theorem d_Rules_value_0 : decode prog_9_method_4_code 0 = .ok (.iconst 0, 1) := by decide +kernel
theorem d_Rules_value_1 : decode prog_9_method_4_code 1 = .ok (.istore 6, 2) := by decide +kernel
theorem d_Rules_value_3 : decode prog_9_method_4_code 3 = .ok (.iconst 0, 1) := by decide +kernel
theorem d_Rules_value_4 : decode prog_9_method_4_code 4 = .ok (.iload_n 1, 1) := by decide +kernel
theorem d_Rules_value_5 : decode prog_9_method_4_code 5 = .ok (.invokestatic 47, 3) := by decide +kernel
theorem d_Rules_value_8 : decode prog_9_method_4_code 8 = .ok (.istore 7, 2) := by decide +kernel
theorem d_Rules_value_180 : decode prog_9_method_4_code 180 = .ok (.iload 6, 2) := by decide +kernel
theorem d_Rules_value_182 : decode prog_9_method_4_code 182 = .ok (.iconst 1, 1) := by decide +kernel
theorem d_Rules_value_183 : decode prog_9_method_4_code 183 = .ok (.if_icmp .lt 15, 3) := by decide +kernel
theorem d_Rules_value_198 : decode prog_9_method_4_code 198 = .ok (.iconst 0, 1) := by decide +kernel
theorem d_Rules_value_199 : decode prog_9_method_4_code 199 = .ok (.ireturn, 1) := by decide +kernel
theorem d_Rules_value_186 : decode prog_9_method_4_code 186 = .ok (.aload_n 0, 1) := by decide +kernel
theorem d_Rules_value_187 : decode prog_9_method_4_code 187 = .ok (.getfield 27, 3) := by decide +kernel
theorem d_Rules_value_190 : decode prog_9_method_4_code 190 = .ok (.iload 6, 2) := by decide +kernel
theorem d_Rules_value_192 : decode prog_9_method_4_code 192 = .ok (.iconst 1, 1) := by decide +kernel
theorem d_Rules_value_193 : decode prog_9_method_4_code 193 = .ok (.isub, 1) := by decide +kernel
theorem d_Rules_value_194 : decode prog_9_method_4_code 194 = .ok (.iaload, 1) := by decide +kernel
theorem d_Rules_value_195 : decode prog_9_method_4_code 195 = .ok (.goto 4, 3) := by decide +kernel
set_option maxHeartbeats 4000000 in
set_option maxRecDepth 100000 in
theorem lp_value {p : Program} {l : Launch} {e : Env} {s : State} {m : MethodId} {args : Array Value} {below : List Frame} {meth : Method} {c : Code} {Q : State → Prop} {D : va_G} {y : Nat → ClassId} {A : Nat → Prop} (C : Cx p s m args meth c D y A prog_9_method_4_code 9 "NineBoards$Rules" "value") (ad : Nat → Nat) (d : LD) (v1 : Int32) (v2 : Int32) (v3 : Int32) (v4 : Int32) (v5 : Int32) (kx : ∀ (t i : Nat) (f : Nat → Int32), t ≤ 40 → J p l e ({ frames := 2, cells := 0, slots := 0, locals := 44 } : Room) s m args below meth c Q D A 9 [(ad 3, .inr (6, [.int (d.1 11), .int (d.1 12), .ref (ad 20), .ref (ad 21), .ref (ad 22), .ref (ad 23), .ref (ad 24), .ref (ad 25)])), (ad 24, .inl (y 0, 1600, .inl (d.2 20))), (ad 25, .inl (y 0, 40, .inl f))] [(0, .ref (ad 3)), (1, .int v1), (2, .int v2), (3, .int v3), (4, .int v4), (5, .int v5), (6, .int (nI t)), (7, .int (nI i))] 0 0 180 []) : ∀ (n : Nat) (i : Nat) (t : Nat) (f : Nat → Int32), (1600 ≤ i + n) → (i < 2 ^ 31) → (t ≤ 40) → J p l e ({ frames := 2, cells := 0, slots := 0, locals := 44 } : Room) s m args below meth c Q D A 9 [(ad 3, .inr (6, [.int (d.1 11), .int (d.1 12), .ref (ad 20), .ref (ad 21), .ref (ad 22), .ref (ad 23), .ref (ad 24), .ref (ad 25)])), (ad 24, .inl (y 0, 1600, .inl (d.2 20))), (ad 25, .inl (y 0, 40, .inl f))] [(0, .ref (ad 3)), (1, .int v1), (2, .int v2), (3, .int v3), (4, .int v4), (5, .int v5), (6, .int (nI t)), (7, .int (nI i))] 0 0 10 [] := by
  intro n
  induction n with
  | zero =>
    intro i t f hn hi ht
    have hb : ¬ i < 1600 := by omega
    refine j_iload (pc := 10) C d_Rules_value_10 7 rfl ?_
    refine j_iload_n (pc := 12) C d_Rules_value_12 rfl 2 rfl ?_
    refine j_icmp_ge (pc := 13) C (tgt := 180) d_Rules_value_13 (by decide) (fun c1 => ?_) (fun c1 => ?_)
    · exact kx _ _ _ (by omega)
    · refine j_iload (pc := 16) C d_Rules_value_16 7 rfl ?_
      refine j_aload_n (pc := 18) C d_Rules_value_18 rfl 0 rfl ?_
      refine j_get (pc := 19) C gf_Rules_24 0 rfl rfl d_Rules_value_19 ?_
      refine j_alen (pc := 22) C 1 0 rfl rfl (v := 1600) rfl d_Rules_value_22 ?_
      refine j_icmp_geT (pc := 23) C (tgt := 180) d_Rules_value_23 (by decide) (show nI 1600 ≤ nI i from nI_le (by omega) hi) ?_
      exact kx _ _ _ (by omega)
  | succ n ih =>
    intro i t f hn hi ht
    refine j_iload (pc := 10) C d_Rules_value_10 7 rfl ?_
    refine j_iload_n (pc := 12) C d_Rules_value_12 rfl 2 rfl ?_
    refine j_icmp_ge (pc := 13) C (tgt := 180) d_Rules_value_13 (by decide) (fun c1 => ?_) (fun c1 => ?_)
    · exact kx _ _ _ (by omega)
    · by_cases hb : i < 1600
      · refine j_iload (pc := 16) C d_Rules_value_16 7 rfl ?_
        refine j_aload_n (pc := 18) C d_Rules_value_18 rfl 0 rfl ?_
        refine j_get (pc := 19) C gf_Rules_24 0 rfl rfl d_Rules_value_19 ?_
        refine j_alen (pc := 22) C 1 0 rfl rfl (v := 1600) rfl d_Rules_value_22 ?_
        refine j_icmp_geF (pc := 23) C (tgt := 180) d_Rules_value_23 (by decide) (show ¬ nI 1600 ≤ nI i from nI_ge hb (by decide)) ?_
        refine j_aload_n (pc := 26) C d_Rules_value_26 rfl 0 rfl ?_
        refine j_get (pc := 27) C gf_Rules_24 0 rfl rfl d_Rules_value_27 ?_
        refine j_iload (pc := 30) C d_Rules_value_30 7 rfl ?_
        refine j_iald (pc := 32) C 1 rfl (v := (d.2 20) (nI i).toNatClampNeg) (vp_in_nI (by omega) (by decide)) rfl d_Rules_value_32 ?_
        refine j_istore (pc := 33) C (lv' := [(8, .int ((d.2 20) (nI i).toNatClampNeg)), (0, .ref (ad 3)), (1, .int v1), (2, .int v2), (3, .int v3), (4, .int v4), (5, .int v5), (6, .int (nI t)), (7, .int (nI i))]) d_Rules_value_33 (by decide) rfl ?_
        refine j_iload (pc := 35) C d_Rules_value_35 0 rfl ?_
        refine j_bipush (pc := 37) C (v := (-3)) d_Rules_value_37 (by decide) ?_
        refine j_icmp_lt (pc := 39) C (tgt := 99) d_Rules_value_39 (by decide) (fun c2 => ?_) (fun c2 => ?_)
        · refine j_iload (pc := 99) C d_Rules_value_99 0 rfl ?_
          refine j_bipush (pc := 101) C (v := (-4)) d_Rules_value_101 (by decide) ?_
          refine j_icmp_ne (pc := 103) C (tgt := 135) d_Rules_value_103 (by decide) (fun c3 => ?_) (fun c3 => ?_)
          · by_cases h2 : t < 2
            · refine j_iload (pc := 135) C d_Rules_value_135 7 rfl ?_
              refine j_iconst (pc := 137) C (v := 2) d_Rules_value_137 (by decide) ?_
              refine j_icmp_ltT (pc := 138) C (tgt := 174) d_Rules_value_138 (by decide) (show nI t < nI 2 from nI_lt h2 (by decide)) ?_
              refine j_iinc (pc := 174) C (v := nI (i + 1)) (lv' := [(7, .int (nI (i + 1))), (8, .int ((d.2 20) (nI i).toNatClampNeg)), (0, .ref (ad 3)), (1, .int v1), (2, .int v2), (3, .int v3), (4, .int v4), (5, .int v5), (6, .int (nI t))]) d_Rules_value_174 8 rfl (nI_1 _) (by decide) rfl ?_
              refine j_goto (pc := 177) C (tgt := 10) d_Rules_value_177 (by decide) ?_
              refine j_locs (lv' := [(0, .ref (ad 3)), (1, .int v1), (2, .int v2), (3, .int v3), (4, .int v4), (5, .int v5), (6, .int (nI t)), (7, .int (nI (i + 1)))]) [2, 3, 4, 5, 6, 7, 8, 0] rfl ?_
              exact ih (i + 1) t _ (by omega) (by omega) (by omega)
            · refine j_iload (pc := 135) C d_Rules_value_135 7 rfl ?_
              refine j_iconst (pc := 137) C (v := 2) d_Rules_value_137 (by decide) ?_
              refine j_icmp_ltF (pc := 138) C (tgt := 174) d_Rules_value_138 (by decide) (show ¬ nI t < nI 2 from nI_nlt (by omega) (by omega)) ?_
              refine j_iinc (pc := 141) C (v := nI (t - 1)) (lv' := [(6, .int (nI (t - 1))), (8, .int ((d.2 20) (nI i).toNatClampNeg)), (0, .ref (ad 3)), (1, .int v1), (2, .int v2), (3, .int v3), (4, .int v4), (5, .int v5), (7, .int (nI i))]) d_Rules_value_141 7 rfl (nI_dn (by omega)) (by decide) rfl ?_
              refine j_aload_n (pc := 144) C d_Rules_value_144 rfl 2 rfl ?_
              refine j_get (pc := 145) C gf_Rules_27 0 rfl rfl d_Rules_value_145 ?_
              refine j_iload (pc := 148) C d_Rules_value_148 0 rfl ?_
              refine j_iconst (pc := 150) C (v := 1) d_Rules_value_150 (by decide) ?_
              refine j_isub (pc := 151) C (v := nI (t - 1 - 1)) d_Rules_value_151 (nI_s1 (by omega)) ?_
              refine j_iload (pc := 152) C d_Rules_value_152 1 rfl ?_
              refine j_aload_n (pc := 154) C d_Rules_value_154 rfl 2 rfl ?_
              refine j_get (pc := 155) C gf_Rules_27 0 rfl rfl d_Rules_value_155 ?_
              refine j_iload (pc := 158) C d_Rules_value_158 0 rfl ?_
              refine j_iconst (pc := 160) C (v := 1) d_Rules_value_160 (by decide) ?_
              refine j_isub (pc := 161) C (v := nI (t - 1 - 1)) d_Rules_value_161 (nI_s1 (by omega)) ?_
              refine j_iald (pc := 162) C 2 rfl (v := f (nI (t - 1 - 1)).toNatClampNeg) (vp_in_nI (by omega) (by decide)) rfl d_Rules_value_162 ?_
              refine j_aload_n (pc := 163) C d_Rules_value_163 rfl 2 rfl ?_
              refine j_get (pc := 164) C gf_Rules_27 0 rfl rfl d_Rules_value_164 ?_
              refine j_iload (pc := 167) C d_Rules_value_167 0 rfl ?_
              refine j_iald (pc := 169) C 2 rfl (v := f (nI (t - 1)).toNatClampNeg) (vp_in_nI (by omega) (by decide)) rfl d_Rules_value_169 ?_
              refine j_callSi (pc := 170) C (c_joined l D y ((d.2 20) (nI i).toNatClampNeg) (f (nI (t - 1 - 1)).toNatClampNeg) (f (nI (t - 1)).toNatClampNeg)) kw_Rules_50 ks_Rules_joined ⟨by decide, by decide⟩ ⟨by decide, by decide⟩ (wr := [(ad 3, .inr (6, [.int (d.1 11), .int (d.1 12), .ref (ad 20), .ref (ad 21), .ref (ad 22), .ref (ad 23), .ref (ad 24), .ref (ad 25)])), (ad 24, .inl (y 0, 1600, .inl (d.2 20))), (ad 25, .inl (y 0, 40, .inl f))]) [] [0, 1, 2] rfl rfl (by decide) (by decide) (by decide) (As := [.int ((d.2 20) (nI i).toNatClampNeg), .int (f (nI (t - 1 - 1)).toNatClampNeg), .int (f (nI (t - 1)).toNatClampNeg)]) (rest := [.int (nI (t - 1 - 1)), .ref (ad 25)]) rfl (nb rfl) rfl d_Rules_value_170 (fun r4 _ hr4 => ?_)
              refine j_ws (ws' := [(ad 3, .inr (6, [.int (d.1 11), .int (d.1 12), .ref (ad 20), .ref (ad 21), .ref (ad 22), .ref (ad 23), .ref (ad 24), .ref (ad 25)])), (ad 24, .inl (y 0, 1600, .inl (d.2 20))), (ad 25, .inl (y 0, 40, .inl f))]) rfl ?_
              refine j_iast (pc := 173) C 2 rfl (ws' := [(ad 3, .inr (6, [.int (d.1 11), .int (d.1 12), .ref (ad 20), .ref (ad 21), .ref (ad 22), .ref (ad 23), .ref (ad 24), .ref (ad 25)])), (ad 24, .inl (y 0, 1600, .inl (d.2 20))), (ad 25, .inl (y 0, 40, .inl (upd f (nI (t - 1 - 1)).toNatClampNeg r4)))]) (vp_in_nI (by omega) (by decide)) rfl d_Rules_value_173 ?_
              refine j_iinc (pc := 174) C (v := nI (i + 1)) (lv' := [(7, .int (nI (i + 1))), (6, .int (nI (t - 1))), (8, .int ((d.2 20) (nI i).toNatClampNeg)), (0, .ref (ad 3)), (1, .int v1), (2, .int v2), (3, .int v3), (4, .int v4), (5, .int v5)]) d_Rules_value_174 8 rfl (nI_1 _) (by decide) rfl ?_
              refine j_goto (pc := 177) C (tgt := 10) d_Rules_value_177 (by decide) ?_
              refine j_locs (lv' := [(0, .ref (ad 3)), (1, .int v1), (2, .int v2), (3, .int v3), (4, .int v4), (5, .int v5), (6, .int (nI (t - 1))), (7, .int (nI (i + 1)))]) [3, 4, 5, 6, 7, 8, 1, 0] rfl ?_
              exact ih (i + 1) (t - 1) _ (by omega) (by omega) (by omega)
          · by_cases h1 : t < 1
            · refine j_iload (pc := 106) C d_Rules_value_106 7 rfl ?_
              refine j_iconst (pc := 108) C (v := 1) d_Rules_value_108 (by decide) ?_
              refine j_icmp_ltT (pc := 109) C (tgt := 174) d_Rules_value_109 (by decide) (show nI t < nI 1 from nI_lt h1 (by decide)) ?_
              refine j_iinc (pc := 174) C (v := nI (i + 1)) (lv' := [(7, .int (nI (i + 1))), (8, .int ((d.2 20) (nI i).toNatClampNeg)), (0, .ref (ad 3)), (1, .int v1), (2, .int v2), (3, .int v3), (4, .int v4), (5, .int v5), (6, .int (nI t))]) d_Rules_value_174 8 rfl (nI_1 _) (by decide) rfl ?_
              refine j_goto (pc := 177) C (tgt := 10) d_Rules_value_177 (by decide) ?_
              refine j_locs (lv' := [(0, .ref (ad 3)), (1, .int v1), (2, .int v2), (3, .int v3), (4, .int v4), (5, .int v5), (6, .int (nI t)), (7, .int (nI (i + 1)))]) [2, 3, 4, 5, 6, 7, 8, 0] rfl ?_
              exact ih (i + 1) t _ (by omega) (by omega) (by omega)
            · refine j_iload (pc := 106) C d_Rules_value_106 7 rfl ?_
              refine j_iconst (pc := 108) C (v := 1) d_Rules_value_108 (by decide) ?_
              refine j_icmp_ltF (pc := 109) C (tgt := 174) d_Rules_value_109 (by decide) (show ¬ nI t < nI 1 from nI_nlt (by omega) (by omega)) ?_
              refine j_aload_n (pc := 112) C d_Rules_value_112 rfl 1 rfl ?_
              refine j_get (pc := 113) C gf_Rules_27 0 rfl rfl d_Rules_value_113 ?_
              refine j_iload (pc := 116) C d_Rules_value_116 7 rfl ?_
              refine j_iconst (pc := 118) C (v := 1) d_Rules_value_118 (by decide) ?_
              refine j_isub (pc := 119) C (v := nI (t - 1)) d_Rules_value_119 (nI_s1 (by omega)) ?_
              refine j_iconst (pc := 120) C (v := 1) d_Rules_value_120 (by decide) ?_
              refine j_aload_n (pc := 121) C d_Rules_value_121 rfl 1 rfl ?_
              refine j_get (pc := 122) C gf_Rules_27 0 rfl rfl d_Rules_value_122 ?_
              refine j_iload (pc := 125) C d_Rules_value_125 7 rfl ?_
              refine j_iconst (pc := 127) C (v := 1) d_Rules_value_127 (by decide) ?_
              refine j_isub (pc := 128) C (v := nI (t - 1)) d_Rules_value_128 (nI_s1 (by omega)) ?_
              refine j_iald (pc := 129) C 2 rfl (v := f (nI (t - 1)).toNatClampNeg) (vp_in_nI (by omega) (by decide)) rfl d_Rules_value_129 ?_
              refine j_isub (pc := 130) C (v := 1 - (f (nI (t - 1)).toNatClampNeg)) d_Rules_value_130 rfl ?_
              refine j_iast (pc := 131) C 2 rfl (ws' := [(ad 3, .inr (6, [.int (d.1 11), .int (d.1 12), .ref (ad 20), .ref (ad 21), .ref (ad 22), .ref (ad 23), .ref (ad 24), .ref (ad 25)])), (ad 24, .inl (y 0, 1600, .inl (d.2 20))), (ad 25, .inl (y 0, 40, .inl (upd f (nI (t - 1)).toNatClampNeg (1 - (f (nI (t - 1)).toNatClampNeg)))))]) (vp_in_nI (by omega) (by decide)) rfl d_Rules_value_131 ?_
              refine j_goto (pc := 132) C (tgt := 174) d_Rules_value_132 (by decide) ?_
              refine j_iinc (pc := 174) C (v := nI (i + 1)) (lv' := [(7, .int (nI (i + 1))), (8, .int ((d.2 20) (nI i).toNatClampNeg)), (0, .ref (ad 3)), (1, .int v1), (2, .int v2), (3, .int v3), (4, .int v4), (5, .int v5), (6, .int (nI t))]) d_Rules_value_174 8 rfl (nI_1 _) (by decide) rfl ?_
              refine j_goto (pc := 177) C (tgt := 10) d_Rules_value_177 (by decide) ?_
              refine j_locs (lv' := [(0, .ref (ad 3)), (1, .int v1), (2, .int v2), (3, .int v3), (4, .int v4), (5, .int v5), (6, .int (nI t)), (7, .int (nI (i + 1)))]) [2, 3, 4, 5, 6, 7, 8, 0] rfl ?_
              exact ih (i + 1) t _ (by omega) (by omega) (by omega)
        · by_cases h40 : t < 40
          · refine j_iload (pc := 42) C d_Rules_value_42 7 rfl ?_
            refine j_aload_n (pc := 44) C d_Rules_value_44 rfl 1 rfl ?_
            refine j_get (pc := 45) C gf_Rules_27 0 rfl rfl d_Rules_value_45 ?_
            refine j_alen (pc := 48) C 2 0 rfl rfl (v := 40) rfl d_Rules_value_48 ?_
            refine j_icmp_geF (pc := 49) C (tgt := 174) d_Rules_value_49 (by decide) (show ¬ nI 40 ≤ nI t from nI_ge h40 (by decide)) ?_
            refine j_aload_n (pc := 52) C d_Rules_value_52 rfl 1 rfl ?_
            refine j_get (pc := 53) C gf_Rules_27 0 rfl rfl d_Rules_value_53 ?_
            refine j_iload (pc := 56) C d_Rules_value_56 7 rfl ?_
            refine j_iload (pc := 58) C d_Rules_value_58 0 rfl ?_
            refine j_if_lt (pc := 60) C (tgt := 68) d_Rules_value_60 (by decide) (fun c5 => ?_) (fun c5 => ?_)
            · refine j_iload (pc := 68) C d_Rules_value_68 0 rfl ?_
              refine j_iconst (pc := 70) C (v := (-1)) d_Rules_value_70 (by decide) ?_
              refine j_icmp_ne (pc := 71) C (tgt := 78) d_Rules_value_71 (by decide) (fun c6 => ?_) (fun c6 => ?_)
              · refine j_iload (pc := 78) C d_Rules_value_78 0 rfl ?_
                refine j_bipush (pc := 80) C (v := (-2)) d_Rules_value_80 (by decide) ?_
                refine j_icmp_ne (pc := 82) C (tgt := 90) d_Rules_value_82 (by decide) (fun c7 => ?_) (fun c7 => ?_)
                · refine j_iload (pc := 90) C d_Rules_value_90 6 rfl ?_
                  refine j_iast (pc := 92) C 2 rfl (ws' := [(ad 3, .inr (6, [.int (d.1 11), .int (d.1 12), .ref (ad 20), .ref (ad 21), .ref (ad 22), .ref (ad 23), .ref (ad 24), .ref (ad 25)])), (ad 24, .inl (y 0, 1600, .inl (d.2 20))), (ad 25, .inl (y 0, 40, .inl (upd f (nI t).toNatClampNeg v5)))]) (vp_in_nI (by omega) (by decide)) rfl d_Rules_value_92 ?_
                  refine j_iinc (pc := 93) C (v := nI (t + 1)) (lv' := [(6, .int (nI (t + 1))), (8, .int ((d.2 20) (nI i).toNatClampNeg)), (0, .ref (ad 3)), (1, .int v1), (2, .int v2), (3, .int v3), (4, .int v4), (5, .int v5), (7, .int (nI i))]) d_Rules_value_93 7 rfl (nI_1 _) (by decide) rfl ?_
                  refine j_goto (pc := 96) C (tgt := 174) d_Rules_value_96 (by decide) ?_
                  refine j_iinc (pc := 174) C (v := nI (i + 1)) (lv' := [(7, .int (nI (i + 1))), (6, .int (nI (t + 1))), (8, .int ((d.2 20) (nI i).toNatClampNeg)), (0, .ref (ad 3)), (1, .int v1), (2, .int v2), (3, .int v3), (4, .int v4), (5, .int v5)]) d_Rules_value_174 8 rfl (nI_1 _) (by decide) rfl ?_
                  refine j_goto (pc := 177) C (tgt := 10) d_Rules_value_177 (by decide) ?_
                  refine j_locs (lv' := [(0, .ref (ad 3)), (1, .int v1), (2, .int v2), (3, .int v3), (4, .int v4), (5, .int v5), (6, .int (nI (t + 1))), (7, .int (nI (i + 1)))]) [3, 4, 5, 6, 7, 8, 1, 0] rfl ?_
                  exact ih (i + 1) (t + 1) _ (by omega) (by omega) (by omega)
                · refine j_iload (pc := 85) C d_Rules_value_85 5 rfl ?_
                  refine j_goto (pc := 87) C (tgt := 92) d_Rules_value_87 (by decide) ?_
                  refine j_iast (pc := 92) C 2 rfl (ws' := [(ad 3, .inr (6, [.int (d.1 11), .int (d.1 12), .ref (ad 20), .ref (ad 21), .ref (ad 22), .ref (ad 23), .ref (ad 24), .ref (ad 25)])), (ad 24, .inl (y 0, 1600, .inl (d.2 20))), (ad 25, .inl (y 0, 40, .inl (upd f (nI t).toNatClampNeg v4)))]) (vp_in_nI (by omega) (by decide)) rfl d_Rules_value_92 ?_
                  refine j_iinc (pc := 93) C (v := nI (t + 1)) (lv' := [(6, .int (nI (t + 1))), (8, .int ((d.2 20) (nI i).toNatClampNeg)), (0, .ref (ad 3)), (1, .int v1), (2, .int v2), (3, .int v3), (4, .int v4), (5, .int v5), (7, .int (nI i))]) d_Rules_value_93 7 rfl (nI_1 _) (by decide) rfl ?_
                  refine j_goto (pc := 96) C (tgt := 174) d_Rules_value_96 (by decide) ?_
                  refine j_iinc (pc := 174) C (v := nI (i + 1)) (lv' := [(7, .int (nI (i + 1))), (6, .int (nI (t + 1))), (8, .int ((d.2 20) (nI i).toNatClampNeg)), (0, .ref (ad 3)), (1, .int v1), (2, .int v2), (3, .int v3), (4, .int v4), (5, .int v5)]) d_Rules_value_174 8 rfl (nI_1 _) (by decide) rfl ?_
                  refine j_goto (pc := 177) C (tgt := 10) d_Rules_value_177 (by decide) ?_
                  refine j_locs (lv' := [(0, .ref (ad 3)), (1, .int v1), (2, .int v2), (3, .int v3), (4, .int v4), (5, .int v5), (6, .int (nI (t + 1))), (7, .int (nI (i + 1)))]) [3, 4, 5, 6, 7, 8, 1, 0] rfl ?_
                  exact ih (i + 1) (t + 1) _ (by omega) (by omega) (by omega)
              · refine j_iload_n (pc := 74) C d_Rules_value_74 rfl 4 rfl ?_
                refine j_goto (pc := 75) C (tgt := 92) d_Rules_value_75 (by decide) ?_
                refine j_iast (pc := 92) C 2 rfl (ws' := [(ad 3, .inr (6, [.int (d.1 11), .int (d.1 12), .ref (ad 20), .ref (ad 21), .ref (ad 22), .ref (ad 23), .ref (ad 24), .ref (ad 25)])), (ad 24, .inl (y 0, 1600, .inl (d.2 20))), (ad 25, .inl (y 0, 40, .inl (upd f (nI t).toNatClampNeg v3)))]) (vp_in_nI (by omega) (by decide)) rfl d_Rules_value_92 ?_
                refine j_iinc (pc := 93) C (v := nI (t + 1)) (lv' := [(6, .int (nI (t + 1))), (8, .int ((d.2 20) (nI i).toNatClampNeg)), (0, .ref (ad 3)), (1, .int v1), (2, .int v2), (3, .int v3), (4, .int v4), (5, .int v5), (7, .int (nI i))]) d_Rules_value_93 7 rfl (nI_1 _) (by decide) rfl ?_
                refine j_goto (pc := 96) C (tgt := 174) d_Rules_value_96 (by decide) ?_
                refine j_iinc (pc := 174) C (v := nI (i + 1)) (lv' := [(7, .int (nI (i + 1))), (6, .int (nI (t + 1))), (8, .int ((d.2 20) (nI i).toNatClampNeg)), (0, .ref (ad 3)), (1, .int v1), (2, .int v2), (3, .int v3), (4, .int v4), (5, .int v5)]) d_Rules_value_174 8 rfl (nI_1 _) (by decide) rfl ?_
                refine j_goto (pc := 177) C (tgt := 10) d_Rules_value_177 (by decide) ?_
                refine j_locs (lv' := [(0, .ref (ad 3)), (1, .int v1), (2, .int v2), (3, .int v3), (4, .int v4), (5, .int v5), (6, .int (nI (t + 1))), (7, .int (nI (i + 1)))]) [3, 4, 5, 6, 7, 8, 1, 0] rfl ?_
                exact ih (i + 1) (t + 1) _ (by omega) (by omega) (by omega)
            · refine j_iload (pc := 63) C d_Rules_value_63 0 rfl ?_
              refine j_goto (pc := 65) C (tgt := 92) d_Rules_value_65 (by decide) ?_
              refine j_iast (pc := 92) C 2 rfl (ws' := [(ad 3, .inr (6, [.int (d.1 11), .int (d.1 12), .ref (ad 20), .ref (ad 21), .ref (ad 22), .ref (ad 23), .ref (ad 24), .ref (ad 25)])), (ad 24, .inl (y 0, 1600, .inl (d.2 20))), (ad 25, .inl (y 0, 40, .inl (upd f (nI t).toNatClampNeg ((d.2 20) (nI i).toNatClampNeg))))]) (vp_in_nI (by omega) (by decide)) rfl d_Rules_value_92 ?_
              refine j_iinc (pc := 93) C (v := nI (t + 1)) (lv' := [(6, .int (nI (t + 1))), (8, .int ((d.2 20) (nI i).toNatClampNeg)), (0, .ref (ad 3)), (1, .int v1), (2, .int v2), (3, .int v3), (4, .int v4), (5, .int v5), (7, .int (nI i))]) d_Rules_value_93 7 rfl (nI_1 _) (by decide) rfl ?_
              refine j_goto (pc := 96) C (tgt := 174) d_Rules_value_96 (by decide) ?_
              refine j_iinc (pc := 174) C (v := nI (i + 1)) (lv' := [(7, .int (nI (i + 1))), (6, .int (nI (t + 1))), (8, .int ((d.2 20) (nI i).toNatClampNeg)), (0, .ref (ad 3)), (1, .int v1), (2, .int v2), (3, .int v3), (4, .int v4), (5, .int v5)]) d_Rules_value_174 8 rfl (nI_1 _) (by decide) rfl ?_
              refine j_goto (pc := 177) C (tgt := 10) d_Rules_value_177 (by decide) ?_
              refine j_locs (lv' := [(0, .ref (ad 3)), (1, .int v1), (2, .int v2), (3, .int v3), (4, .int v4), (5, .int v5), (6, .int (nI (t + 1))), (7, .int (nI (i + 1)))]) [3, 4, 5, 6, 7, 8, 1, 0] rfl ?_
              exact ih (i + 1) (t + 1) _ (by omega) (by omega) (by omega)
          · refine j_iload (pc := 42) C d_Rules_value_42 7 rfl ?_
            refine j_aload_n (pc := 44) C d_Rules_value_44 rfl 1 rfl ?_
            refine j_get (pc := 45) C gf_Rules_27 0 rfl rfl d_Rules_value_45 ?_
            refine j_alen (pc := 48) C 2 0 rfl rfl (v := 40) rfl d_Rules_value_48 ?_
            refine j_icmp_geT (pc := 49) C (tgt := 174) d_Rules_value_49 (by decide) (show nI 40 ≤ nI t from nI_le (by omega) (by omega)) ?_
            refine j_iinc (pc := 174) C (v := nI (i + 1)) (lv' := [(7, .int (nI (i + 1))), (8, .int ((d.2 20) (nI i).toNatClampNeg)), (0, .ref (ad 3)), (1, .int v1), (2, .int v2), (3, .int v3), (4, .int v4), (5, .int v5), (6, .int (nI t))]) d_Rules_value_174 8 rfl (nI_1 _) (by decide) rfl ?_
            refine j_goto (pc := 177) C (tgt := 10) d_Rules_value_177 (by decide) ?_
            refine j_locs (lv' := [(0, .ref (ad 3)), (1, .int v1), (2, .int v2), (3, .int v3), (4, .int v4), (5, .int v5), (6, .int (nI t)), (7, .int (nI (i + 1)))]) [2, 3, 4, 5, 6, 7, 8, 0] rfl ?_
            exact ih (i + 1) t _ (by omega) (by omega) (by omega)
      · refine j_iload (pc := 16) C d_Rules_value_16 7 rfl ?_
        refine j_aload_n (pc := 18) C d_Rules_value_18 rfl 0 rfl ?_
        refine j_get (pc := 19) C gf_Rules_24 0 rfl rfl d_Rules_value_19 ?_
        refine j_alen (pc := 22) C 1 0 rfl rfl (v := 1600) rfl d_Rules_value_22 ?_
        refine j_icmp_geT (pc := 23) C (tgt := 180) d_Rules_value_23 (by decide) (show nI 1600 ≤ nI i from nI_le (by omega) hi) ?_
        exact kx _ _ _ (by omega)
set_option maxHeartbeats 4000000 in
set_option maxRecDepth 100000 in
theorem c_value (l : Launch) (D : va_G) (y : Nat → ClassId) (ad : Nat → Nat) (d : LD) (v1 : Int32) (v2 : Int32) (v3 : Int32) (v4 : Int32) (v5 : Int32) (g : Nat → Int32)  : CT l D y ⟨"NineBoards$Rules", "value", "(IIIII)I"⟩ prog_9_method_4_code 9 (some .int) ({ frames := 2, cells := 0, slots := 0, locals := 44 } : Room) [.ref (ad 3), .int v1, .int v2, .int v3, .int v4, .int v5] [(ad 3, .inr (6, [.int (d.1 11), .int (d.1 12), .ref (ad 20), .ref (ad 21), .ref (ad 22), .ref (ad 23), .ref (ad 24), .ref (ad 25)])), (ad 24, .inl (y 0, 1600, .inl (d.2 20))), (ad 25, .inl (y 0, 40, .inl g))] (QI D [(ad 3, .inr (6, [.int (d.1 11), .int (d.1 12), .ref (ad 20), .ref (ad 21), .ref (ad 22), .ref (ad 23), .ref (ad 24), .ref (ad 25)])), (ad 24, .inl (y 0, 1600, .inl (d.2 20))), (ad 25, .inl (y 0, 40, .inl g))] (fun (r : Int32) (u : Nat → Int32) => True) (fun u => [(ad 3, .inr (6, [.int (d.1 11), .int (d.1 12), .ref (ad 20), .ref (ad 21), .ref (ad 22), .ref (ad 23), .ref (ad 24), .ref (ad 25)])), (ad 24, .inl (y 0, 1600, .inl (d.2 20))), (ad 25, .inl (y 0, 40, .inl u))])) := by
  refine CT.of (by decide) (nb rfl) ?_
  intro p e s m args below meth c C hr
  refine j_lv (lv' := [(0, .ref (ad 3)), (1, .int v1), (2, .int v2), (3, .int v3), (4, .int v4), (5, .int v5)]) rfl ?_
  refine j_iconst (pc := 0) C (v := 0) d_Rules_value_0 (by decide) ?_
  refine j_istore (pc := 1) C (lv' := [(6, .int 0), (0, .ref (ad 3)), (1, .int v1), (2, .int v2), (3, .int v3), (4, .int v4), (5, .int v5)]) d_Rules_value_1 (by decide) rfl ?_
  refine j_iconst (pc := 3) C (v := 0) d_Rules_value_3 (by decide) ?_
  refine j_iload_n (pc := 4) C d_Rules_value_4 rfl 2 rfl ?_
  refine j_mmax (pc := 5) C (mt_4 (List.mem_of_getElem? (i := 89) rfl) rfl) (mt_1 (List.mem_of_getElem? (i := 34) rfl) rfl) (mt_1 (List.mem_of_getElem? (i := 3) rfl) rfl) (mt_1 (List.mem_of_getElem? (i := 35) rfl) rfl) (v := if 0 < v1 then v1 else 0) rfl (by decide) (nb rfl) (by decide) (by decide) d_Rules_value_5 ?_
  refine j_istore (pc := 8) C (lv' := [(7, .int (if 0 < v1 then v1 else 0)), (6, .int 0), (0, .ref (ad 3)), (1, .int v1), (2, .int v2), (3, .int v3), (4, .int v4), (5, .int v5)]) d_Rules_value_8 (by decide) rfl ?_
  obtain ⟨i, hi, e⟩ := mx0 v1
  refine j_locs (lv' := [(0, .ref (ad 3)), (1, .int v1), (2, .int v2), (3, .int v3), (4, .int v4), (5, .int v5), (6, .int 0), (7, .int (if 0 < v1 then v1 else 0))]) [2, 3, 4, 5, 6, 7, 1, 0] rfl ?_
  refine j_lv (lv' := [(0, .ref (ad 3)), (1, .int v1), (2, .int v2), (3, .int v3), (4, .int v4), (5, .int v5), (6, .int (nI 0)), (7, .int (nI i))]) (by rw [e]; rfl) ?_
  refine lp_value C ad d v1 v2 v3 v4 v5 (fun t i f ht => ?_) 1600 i 0 _ (by omega) hi (by omega)
  by_cases h1 : t < 1
  · refine j_iload (pc := 180) C d_Rules_value_180 6 rfl ?_
    refine j_iconst (pc := 182) C (v := 1) d_Rules_value_182 (by decide) ?_
    refine j_icmp_ltT (pc := 183) C (tgt := 198) d_Rules_value_183 (by decide) (show nI t < nI 1 from nI_lt h1 (by decide)) ?_
    refine j_iconst (pc := 198) C (v := 0) d_Rules_value_198 (by decide) ?_
    exact j_iret (pc := 199) C hr rfl f trivial [0, 1, 2] rfl (by decide) (by decide) (by decide) d_Rules_value_199
  · refine j_iload (pc := 180) C d_Rules_value_180 6 rfl ?_
    refine j_iconst (pc := 182) C (v := 1) d_Rules_value_182 (by decide) ?_
    refine j_icmp_ltF (pc := 183) C (tgt := 198) d_Rules_value_183 (by decide) (show ¬ nI t < nI 1 from nI_nlt (by omega) (by omega)) ?_
    refine j_aload_n (pc := 186) C d_Rules_value_186 rfl 0 rfl ?_
    refine j_get (pc := 187) C gf_Rules_27 0 rfl rfl d_Rules_value_187 ?_
    refine j_iload (pc := 190) C d_Rules_value_190 6 rfl ?_
    refine j_iconst (pc := 192) C (v := 1) d_Rules_value_192 (by decide) ?_
    refine j_isub (pc := 193) C (v := nI (t - 1)) d_Rules_value_193 (nI_s1 (by omega)) ?_
    refine j_iald (pc := 194) C 2 rfl (v := f (nI (t - 1)).toNatClampNeg) (vp_in_nI (by omega) (by decide)) rfl d_Rules_value_194 ?_
    refine j_goto (pc := 195) C (tgt := 199) d_Rules_value_195 (by decide) ?_
    exact j_iret (pc := 199) C hr rfl f trivial [0, 1, 2] rfl (by decide) (by decide) (by decide) d_Rules_value_199
theorem d_Rules_amount_3 : decode prog_9_method_3_code 3 = .ok (.iload 5, 2) := by decide +kernel
theorem d_Rules_amount_5 : decode prog_9_method_3_code 5 = .ok (.aload_n 0, 1) := by decide +kernel
theorem d_Rules_amount_6 : decode prog_9_method_3_code 6 = .ok (.getfield 34, 3) := by decide +kernel
theorem gf_Rules_34 : GF "NineBoards$Rules" 34 6 0 := ⟨_, _, _, rfl, ci_Rules, by decide, (mt_1 (List.mem_of_getElem? (i := 233) rfl) rfl)⟩
theorem d_Rules_amount_9 : decode prog_9_method_3_code 9 = .ok (.if_icmp .ge 82, 3) := by decide +kernel
theorem d_Rules_amount_12 : decode prog_9_method_3_code 12 = .ok (.aload_n 0, 1) := by decide +kernel
theorem d_Rules_amount_13 : decode prog_9_method_3_code 13 = .ok (.getfield 9, 3) := by decide +kernel
theorem gf_Rules_9 : GF "NineBoards$Rules" 9 6 2 := ⟨_, _, _, rfl, ci_Rules, by decide, (mt_1 (List.mem_of_getElem? (i := 239) rfl) rfl)⟩
theorem d_Rules_amount_16 : decode prog_9_method_3_code 16 = .ok (.iload 5, 2) := by decide +kernel
theorem d_Rules_amount_18 : decode prog_9_method_3_code 18 = .ok (.iaload, 1) := by decide +kernel
theorem d_Rules_amount_19 : decode prog_9_method_3_code 19 = .ok (.iload_n 1, 1) := by decide +kernel
theorem d_Rules_amount_20 : decode prog_9_method_3_code 20 = .ok (.if_icmp .ne 65, 3) := by decide +kernel
theorem d_Rules_amount_85 : decode prog_9_method_3_code 85 = .ok (.iinc 5 1, 3) := by decide +kernel
theorem d_Rules_amount_88 : decode prog_9_method_3_code 88 = .ok (.goto (-85), 3) := by decide +kernel
theorem d_Rules_amount_23 : decode prog_9_method_3_code 23 = .ok (.aload_n 0, 1) := by decide +kernel
theorem d_Rules_amount_24 : decode prog_9_method_3_code 24 = .ok (.aload_n 0, 1) := by decide +kernel
theorem d_Rules_amount_25 : decode prog_9_method_3_code 25 = .ok (.getfield 18, 3) := by decide +kernel
theorem gf_Rules_18 : GF "NineBoards$Rules" 18 6 4 := ⟨_, _, _, rfl, ci_Rules, by decide, (mt_2 (List.mem_of_getElem? (i := 3) rfl) rfl)⟩
theorem d_Rules_amount_28 : decode prog_9_method_3_code 28 = .ok (.iload 5, 2) := by decide +kernel
theorem d_Rules_amount_30 : decode prog_9_method_3_code 30 = .ok (.iaload, 1) := by decide +kernel
theorem d_Rules_amount_31 : decode prog_9_method_3_code 31 = .ok (.aload_n 0, 1) := by decide +kernel
theorem d_Rules_amount_32 : decode prog_9_method_3_code 32 = .ok (.getfield 21, 3) := by decide +kernel
theorem gf_Rules_21 : GF "NineBoards$Rules" 21 6 5 := ⟨_, _, _, rfl, ci_Rules, by decide, (mt_2 (List.mem_of_getElem? (i := 5) rfl) rfl)⟩
theorem d_Rules_amount_35 : decode prog_9_method_3_code 35 = .ok (.iload 5, 2) := by decide +kernel
theorem d_Rules_amount_37 : decode prog_9_method_3_code 37 = .ok (.iaload, 1) := by decide +kernel
theorem d_Rules_amount_38 : decode prog_9_method_3_code 38 = .ok (.iload_n 2, 1) := by decide +kernel
theorem d_Rules_amount_39 : decode prog_9_method_3_code 39 = .ok (.iload_n 3, 1) := by decide +kernel
theorem d_Rules_amount_40 : decode prog_9_method_3_code 40 = .ok (.iload 4, 2) := by decide +kernel
theorem d_Rules_amount_42 : decode prog_9_method_3_code 42 = .ok (.invokevirtual 37, 3) := by decide +kernel
theorem kw_Rules_37 : KW "NineBoards$Rules" 37 ⟨"NineBoards$Rules", "value", "(IIIII)I"⟩ prog_9_method_4_code 9 (some .int) 5 := ⟨(mt_4 (List.mem_of_getElem? (i := 85) rfl) rfl), (mt_1 (List.mem_of_getElem? (i := 9) rfl) rfl), (mt_4 (List.mem_of_getElem? (i := 88) rfl) rfl), by decide +kernel⟩
theorem kv_Rules_value : Cond.instanceMethod ⟨"NineBoards$Rules", "value", "(IIIII)I"⟩ ∈ TB ∧ Cond.selects "NineBoards$Rules" ⟨"NineBoards$Rules", "value", "(IIIII)I"⟩ ⟨"NineBoards$Rules", "value", "(IIIII)I"⟩ ∈ TB := ⟨(mt_4 (List.mem_of_getElem? (i := 87) rfl) rfl), (ms_0 (List.mem_map.mpr ⟨(⟨"NineBoards$Rules", "value", "(IIIII)I"⟩, 8), List.mem_of_getElem? (i := 33) (by decide +kernel), rfl⟩) rfl)⟩
theorem d_Rules_amount_45 : decode prog_9_method_3_code 45 = .ok (.ifCond .eq 40, 3) := by decide +kernel
theorem d_Rules_amount_0 : decode prog_9_method_3_code 0 = .ok (.iconst 0, 1) := by decide +kernel
theorem d_Rules_amount_1 : decode prog_9_method_3_code 1 = .ok (.istore 5, 2) := by decide +kernel
theorem d_Rules_amount_91 : decode prog_9_method_3_code 91 = .ok (.iconst 0, 1) := by decide +kernel
theorem d_Rules_amount_92 : decode prog_9_method_3_code 92 = .ok (.ireturn, 1) := by decide +kernel
theorem d_Rules_amount_48 : decode prog_9_method_3_code 48 = .ok (.aload_n 0, 1) := by decide +kernel
theorem d_Rules_amount_49 : decode prog_9_method_3_code 49 = .ok (.aload_n 0, 1) := by decide +kernel
theorem d_Rules_amount_50 : decode prog_9_method_3_code 50 = .ok (.getfield 15, 3) := by decide +kernel
theorem gf_Rules_15 : GF "NineBoards$Rules" 15 6 3 := ⟨_, _, _, rfl, ci_Rules, by decide, (mt_2 (List.mem_of_getElem? (i := 1) rfl) rfl)⟩
theorem d_Rules_amount_53 : decode prog_9_method_3_code 53 = .ok (.iload 5, 2) := by decide +kernel
theorem d_Rules_amount_55 : decode prog_9_method_3_code 55 = .ok (.iaload, 1) := by decide +kernel
theorem d_Rules_amount_56 : decode prog_9_method_3_code 56 = .ok (.aload_n 0, 1) := by decide +kernel
theorem d_Rules_amount_57 : decode prog_9_method_3_code 57 = .ok (.getfield 18, 3) := by decide +kernel
theorem d_Rules_amount_60 : decode prog_9_method_3_code 60 = .ok (.iload 5, 2) := by decide +kernel
theorem d_Rules_amount_62 : decode prog_9_method_3_code 62 = .ok (.iaload, 1) := by decide +kernel
theorem d_Rules_amount_63 : decode prog_9_method_3_code 63 = .ok (.iload_n 2, 1) := by decide +kernel
theorem d_Rules_amount_64 : decode prog_9_method_3_code 64 = .ok (.iload_n 3, 1) := by decide +kernel
theorem d_Rules_amount_65 : decode prog_9_method_3_code 65 = .ok (.iload 4, 2) := by decide +kernel
theorem d_Rules_amount_67 : decode prog_9_method_3_code 67 = .ok (.invokevirtual 37, 3) := by decide +kernel
theorem d_Rules_amount_70 : decode prog_9_method_3_code 70 = .ok (.istore 6, 2) := by decide +kernel
theorem d_Rules_amount_72 : decode prog_9_method_3_code 72 = .ok (.iconst 0, 1) := by decide +kernel
theorem d_Rules_amount_73 : decode prog_9_method_3_code 73 = .ok (.sipush 9999, 3) := by decide +kernel
theorem d_Rules_amount_76 : decode prog_9_method_3_code 76 = .ok (.iload 6, 2) := by decide +kernel
theorem d_Rules_amount_78 : decode prog_9_method_3_code 78 = .ok (.invokestatic 41, 3) := by decide +kernel
theorem d_Rules_amount_81 : decode prog_9_method_3_code 81 = .ok (.invokestatic 47, 3) := by decide +kernel
theorem d_Rules_amount_84 : decode prog_9_method_3_code 84 = .ok (.ireturn, 1) := by decide +kernel
set_option maxHeartbeats 4000000 in
set_option maxRecDepth 100000 in
theorem lp_amount {p : Program} {l : Launch} {e : Env} {s : State} {m : MethodId} {args : Array Value} {below : List Frame} {meth : Method} {c : Code} {Q : State → Prop} {D : va_G} {y : Nat → ClassId} {A : Nat → Prop} (C : Cx p s m args meth c D y A prog_9_method_3_code 7 "NineBoards$Rules" "amount") (ad : Nat → Nat) (d : LD) (n11 : Nat) (v1 : Int32) (v2 : Int32) (v3 : Int32) (v4 : Int32) (h11 : d.1 11 = nI n11) (b11 : n11 ≤ 8) (kx : ∀ f : Nat → Int32, J p l e ({ frames := 3, cells := 0, slots := 0, locals := 72 } : Room) s m args below meth c Q D A 7 [(ad 3, .inr (6, [.int (d.1 11), .int (d.1 12), .ref (ad 20), .ref (ad 21), .ref (ad 22), .ref (ad 23), .ref (ad 24), .ref (ad 25)])), (ad 20, .inl (y 0, 8, .inl (d.2 16))), (ad 21, .inl (y 0, 8, .inl (d.2 17))), (ad 22, .inl (y 0, 8, .inl (d.2 18))), (ad 23, .inl (y 0, 8, .inl (d.2 19))), (ad 24, .inl (y 0, 1600, .inl (d.2 20))), (ad 25, .inl (y 0, 40, .inl f))] [(0, .ref (ad 3)), (1, .int v1), (2, .int v2), (3, .int v3), (4, .int v4), (5, .int (nI n11))] 0 0 91 []) (kr : ∀ (i : Nat) (f : Nat → Int32), i < n11 → J p l e ({ frames := 3, cells := 0, slots := 0, locals := 72 } : Room) s m args below meth c Q D A 7 [(ad 3, .inr (6, [.int (d.1 11), .int (d.1 12), .ref (ad 20), .ref (ad 21), .ref (ad 22), .ref (ad 23), .ref (ad 24), .ref (ad 25)])), (ad 20, .inl (y 0, 8, .inl (d.2 16))), (ad 21, .inl (y 0, 8, .inl (d.2 17))), (ad 22, .inl (y 0, 8, .inl (d.2 18))), (ad 23, .inl (y 0, 8, .inl (d.2 19))), (ad 24, .inl (y 0, 1600, .inl (d.2 20))), (ad 25, .inl (y 0, 40, .inl f))] [(0, .ref (ad 3)), (1, .int v1), (2, .int v2), (3, .int v3), (4, .int v4), (5, .int (nI i))] 0 0 48 []) : ∀ (n : Nat) (i : Nat) (f : Nat → Int32), (i + n = n11) → J p l e ({ frames := 3, cells := 0, slots := 0, locals := 72 } : Room) s m args below meth c Q D A 7 [(ad 3, .inr (6, [.int (d.1 11), .int (d.1 12), .ref (ad 20), .ref (ad 21), .ref (ad 22), .ref (ad 23), .ref (ad 24), .ref (ad 25)])), (ad 20, .inl (y 0, 8, .inl (d.2 16))), (ad 21, .inl (y 0, 8, .inl (d.2 17))), (ad 22, .inl (y 0, 8, .inl (d.2 18))), (ad 23, .inl (y 0, 8, .inl (d.2 19))), (ad 24, .inl (y 0, 1600, .inl (d.2 20))), (ad 25, .inl (y 0, 40, .inl f))] [(0, .ref (ad 3)), (1, .int v1), (2, .int v2), (3, .int v3), (4, .int v4), (5, .int (nI i))] 0 0 3 [] := by
  intro n
  induction n with
  | zero =>
    intro i f hi
    obtain rfl : i = n11 := by omega
    refine j_iload (pc := 3) C d_Rules_amount_3 5 rfl ?_
    refine j_aload_n (pc := 5) C d_Rules_amount_5 rfl 0 rfl ?_
    refine j_get (pc := 6) C gf_Rules_34 0 rfl rfl d_Rules_amount_6 ?_
    refine j_icmp_geT (pc := 9) C (tgt := 91) d_Rules_amount_9 (by decide) (by rw [h11]; exact Int32.le_refl _) ?_
    exact kx _
  | succ n ih =>
    intro i f hi
    refine j_iload (pc := 3) C d_Rules_amount_3 5 rfl ?_
    refine j_aload_n (pc := 5) C d_Rules_amount_5 rfl 0 rfl ?_
    refine j_get (pc := 6) C gf_Rules_34 0 rfl rfl d_Rules_amount_6 ?_
    refine j_icmp_geF (pc := 9) C (tgt := 91) d_Rules_amount_9 (by decide) (by rw [h11]; exact nI_ge (by omega) (by omega)) ?_
    refine j_aload_n (pc := 12) C d_Rules_amount_12 rfl 0 rfl ?_
    refine j_get (pc := 13) C gf_Rules_9 0 rfl rfl d_Rules_amount_13 ?_
    refine j_iload (pc := 16) C d_Rules_amount_16 5 rfl ?_
    refine j_iald (pc := 18) C 1 rfl (v := (d.2 16) (nI i).toNatClampNeg) (vp_in_nI (by omega) (by decide)) rfl d_Rules_amount_18 ?_
    refine j_iload_n (pc := 19) C d_Rules_amount_19 rfl 1 rfl ?_
    refine j_icmp_ne (pc := 20) C (tgt := 85) d_Rules_amount_20 (by decide) (fun c1 => ?_) (fun c1 => ?_)
    · refine j_iinc (pc := 85) C (v := nI (i + 1)) (lv' := [(5, .int (nI (i + 1))), (0, .ref (ad 3)), (1, .int v1), (2, .int v2), (3, .int v3), (4, .int v4)]) d_Rules_amount_85 5 rfl (nI_1 _) (by decide) rfl ?_
      refine j_goto (pc := 88) C (tgt := 3) d_Rules_amount_88 (by decide) ?_
      refine j_locs (lv' := [(0, .ref (ad 3)), (1, .int v1), (2, .int v2), (3, .int v3), (4, .int v4), (5, .int (nI (i + 1)))]) [1, 2, 3, 4, 5, 0] rfl ?_
      exact ih (i + 1) _ (by omega)
    · refine j_aload_n (pc := 23) C d_Rules_amount_23 rfl 0 rfl ?_
      refine j_aload_n (pc := 24) C d_Rules_amount_24 rfl 0 rfl ?_
      refine j_get (pc := 25) C gf_Rules_18 0 rfl rfl d_Rules_amount_25 ?_
      refine j_iload (pc := 28) C d_Rules_amount_28 5 rfl ?_
      refine j_iald (pc := 30) C 3 rfl (v := (d.2 18) (nI i).toNatClampNeg) (vp_in_nI (by omega) (by decide)) rfl d_Rules_amount_30 ?_
      refine j_aload_n (pc := 31) C d_Rules_amount_31 rfl 0 rfl ?_
      refine j_get (pc := 32) C gf_Rules_21 0 rfl rfl d_Rules_amount_32 ?_
      refine j_iload (pc := 35) C d_Rules_amount_35 5 rfl ?_
      refine j_iald (pc := 37) C 4 rfl (v := (d.2 19) (nI i).toNatClampNeg) (vp_in_nI (by omega) (by decide)) rfl d_Rules_amount_37 ?_
      refine j_iload_n (pc := 38) C d_Rules_amount_38 rfl 2 rfl ?_
      refine j_iload_n (pc := 39) C d_Rules_amount_39 rfl 3 rfl ?_
      refine j_iload (pc := 40) C d_Rules_amount_40 4 rfl ?_
      refine j_callVi (pc := 42) C (c_value l D y ad d ((d.2 18) (nI i).toNatClampNeg) ((d.2 19) (nI i).toNatClampNeg) v2 v3 v4 f) kw_Rules_37 kv_Rules_value 0 6 rfl rfl ⟨by decide, by decide⟩ ⟨by decide, by decide⟩ (wr := [(ad 20, .inl (y 0, 8, .inl (d.2 16))), (ad 21, .inl (y 0, 8, .inl (d.2 17))), (ad 22, .inl (y 0, 8, .inl (d.2 18))), (ad 23, .inl (y 0, 8, .inl (d.2 19)))]) [0, 5, 6] [1, 2, 3, 4] rfl rfl (by decide) (by decide) (by decide) (As := [.int ((d.2 18) (nI i).toNatClampNeg), .int ((d.2 19) (nI i).toNatClampNeg), .int v2, .int v3, .int v4]) (rest := []) rfl (nb rfl) rfl d_Rules_amount_42 (fun r2 u3 hr2 => ?_)
      refine j_ws (ws' := [(ad 20, .inl (y 0, 8, .inl (d.2 16))), (ad 21, .inl (y 0, 8, .inl (d.2 17))), (ad 22, .inl (y 0, 8, .inl (d.2 18))), (ad 23, .inl (y 0, 8, .inl (d.2 19))), (ad 3, .inr (6, [.int (d.1 11), .int (d.1 12), .ref (ad 20), .ref (ad 21), .ref (ad 22), .ref (ad 23), .ref (ad 24), .ref (ad 25)])), (ad 24, .inl (y 0, 1600, .inl (d.2 20))), (ad 25, .inl (y 0, 40, .inl u3))]) rfl ?_
      refine j_if_eq (pc := 45) C (tgt := 85) d_Rules_amount_45 (by decide) (fun c4 => ?_) (fun c4 => ?_)
      · refine j_iinc (pc := 85) C (v := nI (i + 1)) (lv' := [(5, .int (nI (i + 1))), (0, .ref (ad 3)), (1, .int v1), (2, .int v2), (3, .int v3), (4, .int v4)]) d_Rules_amount_85 5 rfl (nI_1 _) (by decide) rfl ?_
        refine j_goto (pc := 88) C (tgt := 3) d_Rules_amount_88 (by decide) ?_
        refine j_sub (ws' := [(ad 3, .inr (6, [.int (d.1 11), .int (d.1 12), .ref (ad 20), .ref (ad 21), .ref (ad 22), .ref (ad 23), .ref (ad 24), .ref (ad 25)])), (ad 20, .inl (y 0, 8, .inl (d.2 16))), (ad 21, .inl (y 0, 8, .inl (d.2 17))), (ad 22, .inl (y 0, 8, .inl (d.2 18))), (ad 23, .inl (y 0, 8, .inl (d.2 19))), (ad 24, .inl (y 0, 1600, .inl (d.2 20))), (ad 25, .inl (y 0, 40, .inl u3))]) [4, 0, 1, 2, 3, 5, 6] rfl (by decide) ?_
        refine j_locs (lv' := [(0, .ref (ad 3)), (1, .int v1), (2, .int v2), (3, .int v3), (4, .int v4), (5, .int (nI (i + 1)))]) [1, 2, 3, 4, 5, 0] rfl ?_
        exact ih (i + 1) _ (by omega)
      · refine j_sub (ws' := [(ad 3, .inr (6, [.int (d.1 11), .int (d.1 12), .ref (ad 20), .ref (ad 21), .ref (ad 22), .ref (ad 23), .ref (ad 24), .ref (ad 25)])), (ad 20, .inl (y 0, 8, .inl (d.2 16))), (ad 21, .inl (y 0, 8, .inl (d.2 17))), (ad 22, .inl (y 0, 8, .inl (d.2 18))), (ad 23, .inl (y 0, 8, .inl (d.2 19))), (ad 24, .inl (y 0, 1600, .inl (d.2 20))), (ad 25, .inl (y 0, 40, .inl u3))]) [4, 0, 1, 2, 3, 5, 6] rfl (by decide) ?_
        exact kr i _ (by omega)
set_option maxHeartbeats 4000000 in
set_option maxRecDepth 100000 in
theorem c_amount (l : Launch) (D : va_G) (y : Nat → ClassId) (ad : Nat → Nat) (d : LD) (n11 : Nat) (v1 : Int32) (v2 : Int32) (v3 : Int32) (v4 : Int32) (g : Nat → Int32) (h11 : d.1 11 = nI n11) (b11 : n11 ≤ 8) : CT l D y ⟨"NineBoards$Rules", "amount", "(IIII)I"⟩ prog_9_method_3_code 7 (some .int) ({ frames := 3, cells := 0, slots := 0, locals := 72 } : Room) [.ref (ad 3), .int v1, .int v2, .int v3, .int v4] [(ad 3, .inr (6, [.int (d.1 11), .int (d.1 12), .ref (ad 20), .ref (ad 21), .ref (ad 22), .ref (ad 23), .ref (ad 24), .ref (ad 25)])), (ad 20, .inl (y 0, 8, .inl (d.2 16))), (ad 21, .inl (y 0, 8, .inl (d.2 17))), (ad 22, .inl (y 0, 8, .inl (d.2 18))), (ad 23, .inl (y 0, 8, .inl (d.2 19))), (ad 24, .inl (y 0, 1600, .inl (d.2 20))), (ad 25, .inl (y 0, 40, .inl g))] (QI D [(ad 3, .inr (6, [.int (d.1 11), .int (d.1 12), .ref (ad 20), .ref (ad 21), .ref (ad 22), .ref (ad 23), .ref (ad 24), .ref (ad 25)])), (ad 20, .inl (y 0, 8, .inl (d.2 16))), (ad 21, .inl (y 0, 8, .inl (d.2 17))), (ad 22, .inl (y 0, 8, .inl (d.2 18))), (ad 23, .inl (y 0, 8, .inl (d.2 19))), (ad 24, .inl (y 0, 1600, .inl (d.2 20))), (ad 25, .inl (y 0, 40, .inl g))] (fun (r : Int32) (u : Nat → Int32) => True) (fun u => [(ad 3, .inr (6, [.int (d.1 11), .int (d.1 12), .ref (ad 20), .ref (ad 21), .ref (ad 22), .ref (ad 23), .ref (ad 24), .ref (ad 25)])), (ad 20, .inl (y 0, 8, .inl (d.2 16))), (ad 21, .inl (y 0, 8, .inl (d.2 17))), (ad 22, .inl (y 0, 8, .inl (d.2 18))), (ad 23, .inl (y 0, 8, .inl (d.2 19))), (ad 24, .inl (y 0, 1600, .inl (d.2 20))), (ad 25, .inl (y 0, 40, .inl u))])) := by
  refine CT.of (by decide) (nb rfl) ?_
  intro p e s m args below meth c C hr
  refine j_lv (lv' := [(0, .ref (ad 3)), (1, .int v1), (2, .int v2), (3, .int v3), (4, .int v4)]) rfl ?_
  refine j_iconst (pc := 0) C (v := 0) d_Rules_amount_0 (by decide) ?_
  refine j_istore (pc := 1) C (lv' := [(5, .int 0), (0, .ref (ad 3)), (1, .int v1), (2, .int v2), (3, .int v3), (4, .int v4)]) d_Rules_amount_1 (by decide) rfl ?_
  refine j_locs (lv' := [(0, .ref (ad 3)), (1, .int v1), (2, .int v2), (3, .int v3), (4, .int v4), (5, .int 0)]) [1, 2, 3, 4, 5, 0] rfl ?_
  refine j_lv (lv' := [(0, .ref (ad 3)), (1, .int v1), (2, .int v2), (3, .int v3), (4, .int v4), (5, .int (nI 0))]) rfl ?_
  refine lp_amount C ad d n11 v1 v2 v3 v4 h11 b11 (fun f => ?_) (fun i f hx => ?_) n11 0 _ (by omega)
  · refine j_iconst (pc := 91) C (v := 0) d_Rules_amount_91 (by decide) ?_
    exact j_iret (pc := 92) C hr rfl f trivial [0, 1, 2, 3, 4, 5, 6] rfl (by decide) (by decide) (by decide) d_Rules_amount_92
  · refine j_aload_n (pc := 48) C d_Rules_amount_48 rfl 0 rfl ?_
    refine j_aload_n (pc := 49) C d_Rules_amount_49 rfl 0 rfl ?_
    refine j_get (pc := 50) C gf_Rules_15 0 rfl rfl d_Rules_amount_50 ?_
    refine j_iload (pc := 53) C d_Rules_amount_53 5 rfl ?_
    refine j_iald (pc := 55) C 2 rfl (v := (d.2 17) (nI i).toNatClampNeg) (vp_in_nI (by omega) (by decide)) rfl d_Rules_amount_55 ?_
    refine j_aload_n (pc := 56) C d_Rules_amount_56 rfl 0 rfl ?_
    refine j_get (pc := 57) C gf_Rules_18 0 rfl rfl d_Rules_amount_57 ?_
    refine j_iload (pc := 60) C d_Rules_amount_60 5 rfl ?_
    refine j_iald (pc := 62) C 3 rfl (v := (d.2 18) (nI i).toNatClampNeg) (vp_in_nI (by omega) (by decide)) rfl d_Rules_amount_62 ?_
    refine j_iload_n (pc := 63) C d_Rules_amount_63 rfl 2 rfl ?_
    refine j_iload_n (pc := 64) C d_Rules_amount_64 rfl 3 rfl ?_
    refine j_iload (pc := 65) C d_Rules_amount_65 4 rfl ?_
    refine j_callVi (pc := 67) C (c_value l D y ad d ((d.2 17) (nI i).toNatClampNeg) ((d.2 18) (nI i).toNatClampNeg) v2 v3 v4 f) kw_Rules_37 kv_Rules_value 0 6 rfl rfl ⟨by decide, by decide⟩ ⟨by decide, by decide⟩ (wr := [(ad 20, .inl (y 0, 8, .inl (d.2 16))), (ad 21, .inl (y 0, 8, .inl (d.2 17))), (ad 22, .inl (y 0, 8, .inl (d.2 18))), (ad 23, .inl (y 0, 8, .inl (d.2 19)))]) [0, 5, 6] [1, 2, 3, 4] rfl rfl (by decide) (by decide) (by decide) (As := [.int ((d.2 17) (nI i).toNatClampNeg), .int ((d.2 18) (nI i).toNatClampNeg), .int v2, .int v3, .int v4]) (rest := []) rfl (nb rfl) rfl d_Rules_amount_67 (fun r1 u2 hr1 => ?_)
    refine j_ws (ws' := [(ad 20, .inl (y 0, 8, .inl (d.2 16))), (ad 21, .inl (y 0, 8, .inl (d.2 17))), (ad 22, .inl (y 0, 8, .inl (d.2 18))), (ad 23, .inl (y 0, 8, .inl (d.2 19))), (ad 3, .inr (6, [.int (d.1 11), .int (d.1 12), .ref (ad 20), .ref (ad 21), .ref (ad 22), .ref (ad 23), .ref (ad 24), .ref (ad 25)])), (ad 24, .inl (y 0, 1600, .inl (d.2 20))), (ad 25, .inl (y 0, 40, .inl u2))]) rfl ?_
    refine j_istore (pc := 70) C (lv' := [(6, .int r1), (0, .ref (ad 3)), (1, .int v1), (2, .int v2), (3, .int v3), (4, .int v4), (5, .int (nI i))]) d_Rules_amount_70 (by decide) rfl ?_
    refine j_iconst (pc := 72) C (v := 0) d_Rules_amount_72 (by decide) ?_
    refine j_sipush (pc := 73) C (v := 9999) d_Rules_amount_73 (by decide) ?_
    refine j_iload (pc := 76) C d_Rules_amount_76 0 rfl ?_
    refine j_mmin (pc := 78) C (mt_4 (List.mem_of_getElem? (i := 101) rfl) rfl) (mt_3 (List.mem_of_getElem? (i := 56) rfl) rfl) (mt_1 (List.mem_of_getElem? (i := 3) rfl) rfl) (mt_3 (List.mem_of_getElem? (i := 57) rfl) rfl) (v := if r1 < 9999 then r1 else 9999) rfl (by decide) (nb rfl) (by decide) (by decide) d_Rules_amount_78 ?_
    refine j_mmax (pc := 81) C (mt_4 (List.mem_of_getElem? (i := 89) rfl) rfl) (mt_1 (List.mem_of_getElem? (i := 34) rfl) rfl) (mt_1 (List.mem_of_getElem? (i := 3) rfl) rfl) (mt_1 (List.mem_of_getElem? (i := 35) rfl) rfl) (v := if 0 < if r1 < 9999 then r1 else 9999 then if r1 < 9999 then r1 else 9999 else 0) rfl (by decide) (nb rfl) (by decide) (by decide) d_Rules_amount_81 ?_
    exact j_iret (pc := 84) C hr rfl u2 trivial [4, 0, 1, 2, 3, 5, 6] rfl (by decide) (by decide) (by decide) d_Rules_amount_84
end
section
theorem nI_nm1 {n : Nat} (h : n < 2 ^ 31) : ¬ nI n = -1 := fun e => absurd (e ▸ nI_pos h : ¬ (-1 : Int32) < 0) (by decide)
theorem d_Days_fits_0 : decode prog_3_method_3_code 0 = .ok (.iload_n 2, 1) := by decide +kernel
theorem d_Days_fits_1 : decode prog_3_method_3_code 1 = .ok (.iconst 2, 1) := by decide +kernel
theorem d_Days_fits_2 : decode prog_3_method_3_code 2 = .ok (.if_icmp .ne 7, 3) := by decide +kernel
theorem d_Days_fits_9 : decode prog_3_method_3_code 9 = .ok (.iconst 0, 1) := by decide +kernel
theorem d_Days_fits_10 : decode prog_3_method_3_code 10 = .ok (.istore_n 3, 1) := by decide +kernel
theorem d_Days_fits_11 : decode prog_3_method_3_code 11 = .ok (.iload_n 2, 1) := by decide +kernel
theorem d_Days_fits_12 : decode prog_3_method_3_code 12 = .ok (.iconst 2, 1) := by decide +kernel
theorem d_Days_fits_13 : decode prog_3_method_3_code 13 = .ok (.if_icmp .ne 8, 3) := by decide +kernel
theorem d_Days_fits_21 : decode prog_3_method_3_code 21 = .ok (.bipush 20, 2) := by decide +kernel
theorem d_Days_fits_23 : decode prog_3_method_3_code 23 = .ok (.istore 4, 2) := by decide +kernel
theorem d_Days_fits_25 : decode prog_3_method_3_code 25 = .ok (.iload_n 1, 1) := by decide +kernel
theorem d_Days_fits_26 : decode prog_3_method_3_code 26 = .ok (.iconst 1, 1) := by decide +kernel
theorem d_Days_fits_27 : decode prog_3_method_3_code 27 = .ok (.if_icmp .ne 18, 3) := by decide +kernel
theorem d_Days_fits_45 : decode prog_3_method_3_code 45 = .ok (.iload_n 0, 1) := by decide +kernel
theorem d_Days_fits_46 : decode prog_3_method_3_code 46 = .ok (.iconst 1, 1) := by decide +kernel
theorem d_Days_fits_47 : decode prog_3_method_3_code 47 = .ok (.iadd, 1) := by decide +kernel
theorem d_Days_fits_48 : decode prog_3_method_3_code 48 = .ok (.iload 4, 2) := by decide +kernel
theorem d_Days_fits_50 : decode prog_3_method_3_code 50 = .ok (.if_icmp .gt 7, 3) := by decide +kernel
theorem d_Days_fits_57 : decode prog_3_method_3_code 57 = .ok (.iconst 0, 1) := by decide +kernel
theorem d_Days_fits_58 : decode prog_3_method_3_code 58 = .ok (.ireturn, 1) := by decide +kernel
theorem d_Days_fits_53 : decode prog_3_method_3_code 53 = .ok (.iconst 1, 1) := by decide +kernel
theorem d_Days_fits_54 : decode prog_3_method_3_code 54 = .ok (.goto 4, 3) := by decide +kernel
theorem d_Days_fits_30 : decode prog_3_method_3_code 30 = .ok (.iload_n 0, 1) := by decide +kernel
theorem d_Days_fits_31 : decode prog_3_method_3_code 31 = .ok (.iconst 1, 1) := by decide +kernel
theorem d_Days_fits_32 : decode prog_3_method_3_code 32 = .ok (.isub, 1) := by decide +kernel
theorem d_Days_fits_33 : decode prog_3_method_3_code 33 = .ok (.iload_n 3, 1) := by decide +kernel
theorem d_Days_fits_34 : decode prog_3_method_3_code 34 = .ok (.if_icmp .lt 7, 3) := by decide +kernel
theorem d_Days_fits_41 : decode prog_3_method_3_code 41 = .ok (.iconst 0, 1) := by decide +kernel
theorem d_Days_fits_42 : decode prog_3_method_3_code 42 = .ok (.goto 16, 3) := by decide +kernel
theorem d_Days_fits_37 : decode prog_3_method_3_code 37 = .ok (.iconst 1, 1) := by decide +kernel
theorem d_Days_fits_38 : decode prog_3_method_3_code 38 = .ok (.goto 20, 3) := by decide +kernel
theorem d_Days_fits_16 : decode prog_3_method_3_code 16 = .ok (.bipush 9, 2) := by decide +kernel
theorem d_Days_fits_18 : decode prog_3_method_3_code 18 = .ok (.goto 5, 3) := by decide +kernel
theorem d_Days_fits_5 : decode prog_3_method_3_code 5 = .ok (.iconst 1, 1) := by decide +kernel
theorem d_Days_fits_6 : decode prog_3_method_3_code 6 = .ok (.goto 4, 3) := by decide +kernel
set_option maxHeartbeats 4000000 in
set_option maxRecDepth 100000 in
theorem c_fits (l : Launch) (D : va_G) (y : Nat → ClassId) (va : Int32) (vb : Int32) (vc : Int32)  : CT l D y ⟨"NineBoards$Days", "fits", "(III)Z"⟩ prog_3_method_3_code 5 (some .boolean) ({ frames := 0, cells := 0, slots := 0, locals := 0 } : Room) [.int va, .int vb, .int vc] [] (QI D [] (fun (r : Int32) (u : Unit) => r = 0 ∨ r = 1) (fun _ => [])) := by
  refine CT.of (by decide) (nb rfl) ?_
  intro p e s m args below meth c C hr
  refine j_lv (lv' := [(0, .int va), (1, .int vb), (2, .int vc)]) rfl ?_
  refine j_iload_n (pc := 0) C d_Days_fits_0 rfl 2 rfl ?_
  refine j_iconst (pc := 1) C (v := 2) d_Days_fits_1 (by decide) ?_
  refine j_icmp_ne (pc := 2) C (tgt := 9) d_Days_fits_2 (by decide) (fun c1 => ?_) (fun c1 => ?_)
  · refine j_iconst (pc := 9) C (v := 0) d_Days_fits_9 (by decide) ?_
    refine j_istore_n (pc := 10) C (lv' := [(3, .int 0), (0, .int va), (1, .int vb), (2, .int vc)]) d_Days_fits_10 rfl (by decide) rfl ?_
    refine j_iload_n (pc := 11) C d_Days_fits_11 rfl 3 rfl ?_
    refine j_iconst (pc := 12) C (v := 2) d_Days_fits_12 (by decide) ?_
    refine j_icmp_ne (pc := 13) C (tgt := 21) d_Days_fits_13 (by decide) (fun c2 => ?_) (fun c2 => ?_)
    · refine j_bipush (pc := 21) C (v := 20) d_Days_fits_21 (by decide) ?_
      refine j_istore (pc := 23) C (lv' := [(4, .int 20), (3, .int 0), (0, .int va), (1, .int vb), (2, .int vc)]) d_Days_fits_23 (by decide) rfl ?_
      refine j_iload_n (pc := 25) C d_Days_fits_25 rfl 3 rfl ?_
      refine j_iconst (pc := 26) C (v := 1) d_Days_fits_26 (by decide) ?_
      refine j_icmp_ne (pc := 27) C (tgt := 45) d_Days_fits_27 (by decide) (fun c3 => ?_) (fun c3 => ?_)
      · refine j_iload_n (pc := 45) C d_Days_fits_45 rfl 2 rfl ?_
        refine j_iconst (pc := 46) C (v := 1) d_Days_fits_46 (by decide) ?_
        refine j_iadd (pc := 47) C (v := va + 1) d_Days_fits_47 rfl ?_
        refine j_iload (pc := 48) C d_Days_fits_48 0 rfl ?_
        refine j_icmp_gt (pc := 50) C (tgt := 57) d_Days_fits_50 (by decide) (fun c4 => ?_) (fun c4 => ?_)
        · refine j_iconst (pc := 57) C (v := 0) d_Days_fits_57 (by decide) ?_
          exact j_iret (pc := 58) C hr (by decide) () (by decide) [] rfl (by decide) (by decide) (by decide) d_Days_fits_58
        · refine j_iconst (pc := 53) C (v := 1) d_Days_fits_53 (by decide) ?_
          refine j_goto (pc := 54) C (tgt := 58) d_Days_fits_54 (by decide) ?_
          exact j_iret (pc := 58) C hr (by decide) () (by decide) [] rfl (by decide) (by decide) (by decide) d_Days_fits_58
      · refine j_iload_n (pc := 30) C d_Days_fits_30 rfl 2 rfl ?_
        refine j_iconst (pc := 31) C (v := 1) d_Days_fits_31 (by decide) ?_
        refine j_isub (pc := 32) C (v := va - 1) d_Days_fits_32 rfl ?_
        refine j_iload_n (pc := 33) C d_Days_fits_33 rfl 1 rfl ?_
        refine j_icmp_lt (pc := 34) C (tgt := 41) d_Days_fits_34 (by decide) (fun c5 => ?_) (fun c5 => ?_)
        · refine j_iconst (pc := 41) C (v := 0) d_Days_fits_41 (by decide) ?_
          refine j_goto (pc := 42) C (tgt := 58) d_Days_fits_42 (by decide) ?_
          exact j_iret (pc := 58) C hr (by decide) () (by decide) [] rfl (by decide) (by decide) (by decide) d_Days_fits_58
        · refine j_iconst (pc := 37) C (v := 1) d_Days_fits_37 (by decide) ?_
          refine j_goto (pc := 38) C (tgt := 58) d_Days_fits_38 (by decide) ?_
          exact j_iret (pc := 58) C hr (by decide) () (by decide) [] rfl (by decide) (by decide) (by decide) d_Days_fits_58
    · refine j_bipush (pc := 16) C (v := 9) d_Days_fits_16 (by decide) ?_
      refine j_goto (pc := 18) C (tgt := 23) d_Days_fits_18 (by decide) ?_
      refine j_istore (pc := 23) C (lv' := [(4, .int 9), (3, .int 0), (0, .int va), (1, .int vb), (2, .int vc)]) d_Days_fits_23 (by decide) rfl ?_
      refine j_iload_n (pc := 25) C d_Days_fits_25 rfl 3 rfl ?_
      refine j_iconst (pc := 26) C (v := 1) d_Days_fits_26 (by decide) ?_
      refine j_icmp_ne (pc := 27) C (tgt := 45) d_Days_fits_27 (by decide) (fun c6 => ?_) (fun c6 => ?_)
      · refine j_iload_n (pc := 45) C d_Days_fits_45 rfl 2 rfl ?_
        refine j_iconst (pc := 46) C (v := 1) d_Days_fits_46 (by decide) ?_
        refine j_iadd (pc := 47) C (v := va + 1) d_Days_fits_47 rfl ?_
        refine j_iload (pc := 48) C d_Days_fits_48 0 rfl ?_
        refine j_icmp_gt (pc := 50) C (tgt := 57) d_Days_fits_50 (by decide) (fun c7 => ?_) (fun c7 => ?_)
        · refine j_iconst (pc := 57) C (v := 0) d_Days_fits_57 (by decide) ?_
          exact j_iret (pc := 58) C hr (by decide) () (by decide) [] rfl (by decide) (by decide) (by decide) d_Days_fits_58
        · refine j_iconst (pc := 53) C (v := 1) d_Days_fits_53 (by decide) ?_
          refine j_goto (pc := 54) C (tgt := 58) d_Days_fits_54 (by decide) ?_
          exact j_iret (pc := 58) C hr (by decide) () (by decide) [] rfl (by decide) (by decide) (by decide) d_Days_fits_58
      · refine j_iload_n (pc := 30) C d_Days_fits_30 rfl 2 rfl ?_
        refine j_iconst (pc := 31) C (v := 1) d_Days_fits_31 (by decide) ?_
        refine j_isub (pc := 32) C (v := va - 1) d_Days_fits_32 rfl ?_
        refine j_iload_n (pc := 33) C d_Days_fits_33 rfl 1 rfl ?_
        refine j_icmp_lt (pc := 34) C (tgt := 41) d_Days_fits_34 (by decide) (fun c8 => ?_) (fun c8 => ?_)
        · refine j_iconst (pc := 41) C (v := 0) d_Days_fits_41 (by decide) ?_
          refine j_goto (pc := 42) C (tgt := 58) d_Days_fits_42 (by decide) ?_
          exact j_iret (pc := 58) C hr (by decide) () (by decide) [] rfl (by decide) (by decide) (by decide) d_Days_fits_58
        · refine j_iconst (pc := 37) C (v := 1) d_Days_fits_37 (by decide) ?_
          refine j_goto (pc := 38) C (tgt := 58) d_Days_fits_38 (by decide) ?_
          exact j_iret (pc := 58) C hr (by decide) () (by decide) [] rfl (by decide) (by decide) (by decide) d_Days_fits_58
  · refine j_iconst (pc := 5) C (v := 1) d_Days_fits_5 (by decide) ?_
    refine j_goto (pc := 6) C (tgt := 10) d_Days_fits_6 (by decide) ?_
    refine j_istore_n (pc := 10) C (lv' := [(3, .int 1), (0, .int va), (1, .int vb), (2, .int vc)]) d_Days_fits_10 rfl (by decide) rfl ?_
    refine j_iload_n (pc := 11) C d_Days_fits_11 rfl 3 rfl ?_
    refine j_iconst (pc := 12) C (v := 2) d_Days_fits_12 (by decide) ?_
    refine j_icmp_ne (pc := 13) C (tgt := 21) d_Days_fits_13 (by decide) (fun c9 => ?_) (fun c9 => ?_)
    · refine j_bipush (pc := 21) C (v := 20) d_Days_fits_21 (by decide) ?_
      refine j_istore (pc := 23) C (lv' := [(4, .int 20), (3, .int 1), (0, .int va), (1, .int vb), (2, .int vc)]) d_Days_fits_23 (by decide) rfl ?_
      refine j_iload_n (pc := 25) C d_Days_fits_25 rfl 3 rfl ?_
      refine j_iconst (pc := 26) C (v := 1) d_Days_fits_26 (by decide) ?_
      refine j_icmp_ne (pc := 27) C (tgt := 45) d_Days_fits_27 (by decide) (fun c10 => ?_) (fun c10 => ?_)
      · refine j_iload_n (pc := 45) C d_Days_fits_45 rfl 2 rfl ?_
        refine j_iconst (pc := 46) C (v := 1) d_Days_fits_46 (by decide) ?_
        refine j_iadd (pc := 47) C (v := va + 1) d_Days_fits_47 rfl ?_
        refine j_iload (pc := 48) C d_Days_fits_48 0 rfl ?_
        refine j_icmp_gt (pc := 50) C (tgt := 57) d_Days_fits_50 (by decide) (fun c11 => ?_) (fun c11 => ?_)
        · refine j_iconst (pc := 57) C (v := 0) d_Days_fits_57 (by decide) ?_
          exact j_iret (pc := 58) C hr (by decide) () (by decide) [] rfl (by decide) (by decide) (by decide) d_Days_fits_58
        · refine j_iconst (pc := 53) C (v := 1) d_Days_fits_53 (by decide) ?_
          refine j_goto (pc := 54) C (tgt := 58) d_Days_fits_54 (by decide) ?_
          exact j_iret (pc := 58) C hr (by decide) () (by decide) [] rfl (by decide) (by decide) (by decide) d_Days_fits_58
      · refine j_iload_n (pc := 30) C d_Days_fits_30 rfl 2 rfl ?_
        refine j_iconst (pc := 31) C (v := 1) d_Days_fits_31 (by decide) ?_
        refine j_isub (pc := 32) C (v := va - 1) d_Days_fits_32 rfl ?_
        refine j_iload_n (pc := 33) C d_Days_fits_33 rfl 1 rfl ?_
        refine j_icmp_lt (pc := 34) C (tgt := 41) d_Days_fits_34 (by decide) (fun c12 => ?_) (fun c12 => ?_)
        · refine j_iconst (pc := 41) C (v := 0) d_Days_fits_41 (by decide) ?_
          refine j_goto (pc := 42) C (tgt := 58) d_Days_fits_42 (by decide) ?_
          exact j_iret (pc := 58) C hr (by decide) () (by decide) [] rfl (by decide) (by decide) (by decide) d_Days_fits_58
        · refine j_iconst (pc := 37) C (v := 1) d_Days_fits_37 (by decide) ?_
          refine j_goto (pc := 38) C (tgt := 58) d_Days_fits_38 (by decide) ?_
          exact j_iret (pc := 58) C hr (by decide) () (by decide) [] rfl (by decide) (by decide) (by decide) d_Days_fits_58
    · refine j_bipush (pc := 16) C (v := 9) d_Days_fits_16 (by decide) ?_
      refine j_goto (pc := 18) C (tgt := 23) d_Days_fits_18 (by decide) ?_
      refine j_istore (pc := 23) C (lv' := [(4, .int 9), (3, .int 1), (0, .int va), (1, .int vb), (2, .int vc)]) d_Days_fits_23 (by decide) rfl ?_
      refine j_iload_n (pc := 25) C d_Days_fits_25 rfl 3 rfl ?_
      refine j_iconst (pc := 26) C (v := 1) d_Days_fits_26 (by decide) ?_
      refine j_icmp_ne (pc := 27) C (tgt := 45) d_Days_fits_27 (by decide) (fun c13 => ?_) (fun c13 => ?_)
      · refine j_iload_n (pc := 45) C d_Days_fits_45 rfl 2 rfl ?_
        refine j_iconst (pc := 46) C (v := 1) d_Days_fits_46 (by decide) ?_
        refine j_iadd (pc := 47) C (v := va + 1) d_Days_fits_47 rfl ?_
        refine j_iload (pc := 48) C d_Days_fits_48 0 rfl ?_
        refine j_icmp_gt (pc := 50) C (tgt := 57) d_Days_fits_50 (by decide) (fun c14 => ?_) (fun c14 => ?_)
        · refine j_iconst (pc := 57) C (v := 0) d_Days_fits_57 (by decide) ?_
          exact j_iret (pc := 58) C hr (by decide) () (by decide) [] rfl (by decide) (by decide) (by decide) d_Days_fits_58
        · refine j_iconst (pc := 53) C (v := 1) d_Days_fits_53 (by decide) ?_
          refine j_goto (pc := 54) C (tgt := 58) d_Days_fits_54 (by decide) ?_
          exact j_iret (pc := 58) C hr (by decide) () (by decide) [] rfl (by decide) (by decide) (by decide) d_Days_fits_58
      · refine j_iload_n (pc := 30) C d_Days_fits_30 rfl 2 rfl ?_
        refine j_iconst (pc := 31) C (v := 1) d_Days_fits_31 (by decide) ?_
        refine j_isub (pc := 32) C (v := va - 1) d_Days_fits_32 rfl ?_
        refine j_iload_n (pc := 33) C d_Days_fits_33 rfl 1 rfl ?_
        refine j_icmp_lt (pc := 34) C (tgt := 41) d_Days_fits_34 (by decide) (fun c15 => ?_) (fun c15 => ?_)
        · refine j_iconst (pc := 41) C (v := 0) d_Days_fits_41 (by decide) ?_
          refine j_goto (pc := 42) C (tgt := 58) d_Days_fits_42 (by decide) ?_
          exact j_iret (pc := 58) C hr (by decide) () (by decide) [] rfl (by decide) (by decide) (by decide) d_Days_fits_58
        · refine j_iconst (pc := 37) C (v := 1) d_Days_fits_37 (by decide) ?_
          refine j_goto (pc := 38) C (tgt := 58) d_Days_fits_38 (by decide) ?_
          exact j_iret (pc := 58) C hr (by decide) () (by decide) [] rfl (by decide) (by decide) (by decide) d_Days_fits_58
theorem d_Days_allows_0 : decode prog_3_method_2_code 0 = .ok (.iload_n 3, 1) := by decide +kernel
theorem d_Days_allows_1 : decode prog_3_method_2_code 1 = .ok (.ifCond .ne 5, 3) := by decide +kernel
theorem d_Days_allows_6 : decode prog_3_method_2_code 6 = .ok (.iload_n 3, 1) := by decide +kernel
theorem d_Days_allows_7 : decode prog_3_method_2_code 7 = .ok (.iconst 1, 1) := by decide +kernel
theorem d_Days_allows_8 : decode prog_3_method_2_code 8 = .ok (.if_icmp .eq 8, 3) := by decide +kernel
theorem d_Days_allows_16 : decode prog_3_method_2_code 16 = .ok (.aload_n 0, 1) := by decide +kernel
theorem d_Days_allows_17 : decode prog_3_method_2_code 17 = .ok (.iload_n 2, 1) := by decide +kernel
theorem d_Days_allows_18 : decode prog_3_method_2_code 18 = .ok (.invokevirtual 9, 3) := by decide +kernel
theorem kw_Days_9 : KW "NineBoards$Days" 9 ⟨"NineBoards$Lake", "hasVillage", "(I)Z"⟩ prog_5_method_4_code 2 (some .boolean) 1 := ⟨(mt_4 (List.mem_of_getElem? (i := 40) rfl) rfl), (mt_1 (List.mem_of_getElem? (i := 6) rfl) rfl), (mt_3 (List.mem_of_getElem? (i := 231) rfl) rfl), by decide +kernel⟩
theorem kv_Lake_hasVillage : Cond.instanceMethod ⟨"NineBoards$Lake", "hasVillage", "(I)Z"⟩ ∈ TB ∧ Cond.selects "NineBoards$Lake" ⟨"NineBoards$Lake", "hasVillage", "(I)Z"⟩ ⟨"NineBoards$Lake", "hasVillage", "(I)Z"⟩ ∈ TB := ⟨(mt_3 (List.mem_of_getElem? (i := 229) rfl) rfl), (mt_3 (List.mem_of_getElem? (i := 230) rfl) rfl)⟩
theorem d_Days_allows_21 : decode prog_3_method_2_code 21 = .ok (.ifCond .eq 9, 3) := by decide +kernel
theorem d_Days_allows_30 : decode prog_3_method_2_code 30 = .ok (.iconst 0, 1) := by decide +kernel
theorem d_Days_allows_31 : decode prog_3_method_2_code 31 = .ok (.ireturn, 1) := by decide +kernel
theorem d_Days_allows_24 : decode prog_3_method_2_code 24 = .ok (.iload 4, 2) := by decide +kernel
theorem d_Days_allows_26 : decode prog_3_method_2_code 26 = .ok (.iconst 3, 1) := by decide +kernel
theorem d_Days_allows_27 : decode prog_3_method_2_code 27 = .ok (.if_icmp .ne 5, 3) := by decide +kernel
theorem d_Days_allows_32 : decode prog_3_method_2_code 32 = .ok (.iload 4, 2) := by decide +kernel
theorem d_Days_allows_34 : decode prog_3_method_2_code 34 = .ok (.ifCond .ne 13, 3) := by decide +kernel
theorem d_Days_allows_47 : decode prog_3_method_2_code 47 = .ok (.aload_n 0, 1) := by decide +kernel
theorem d_Days_allows_48 : decode prog_3_method_2_code 48 = .ok (.getfield 21, 3) := by decide +kernel
theorem gf_Days_21 : GF "NineBoards$Days" 21 2 7 := ⟨_, _, _, rfl, ci_Lake, by decide, (mt_2 (List.mem_of_getElem? (i := 55) rfl) rfl)⟩
theorem d_Days_allows_51 : decode prog_3_method_2_code 51 = .ok (.iload_n 2, 1) := by decide +kernel
theorem d_Days_allows_52 : decode prog_3_method_2_code 52 = .ok (.iaload, 1) := by decide +kernel
theorem d_Days_allows_53 : decode prog_3_method_2_code 53 = .ok (.istore 5, 2) := by decide +kernel
theorem d_Days_allows_55 : decode prog_3_method_2_code 55 = .ok (.aload_n 0, 1) := by decide +kernel
theorem d_Days_allows_56 : decode prog_3_method_2_code 56 = .ok (.getfield 25, 3) := by decide +kernel
theorem gf_Days_25 : GF "NineBoards$Days" 25 2 4 := ⟨_, _, _, rfl, ci_Lake, by decide, (mt_2 (List.mem_of_getElem? (i := 43) rfl) rfl)⟩
theorem d_Days_allows_59 : decode prog_3_method_2_code 59 = .ok (.getfield 29, 3) := by decide +kernel
theorem gf_Days_29 : GF "NineBoards$Days" 29 1 7 := ⟨_, _, _, rfl, ci_Gates, by decide, (mt_1 (List.mem_of_getElem? (i := 161) rfl) rfl)⟩
theorem d_Days_allows_62 : decode prog_3_method_2_code 62 = .ok (.iload 5, 2) := by decide +kernel
theorem d_Days_allows_64 : decode prog_3_method_2_code 64 = .ok (.iaload, 1) := by decide +kernel
theorem d_Days_allows_65 : decode prog_3_method_2_code 65 = .ok (.istore 6, 2) := by decide +kernel
theorem d_Days_allows_67 : decode prog_3_method_2_code 67 = .ok (.aload_n 1, 1) := by decide +kernel
theorem d_Days_allows_68 : decode prog_3_method_2_code 68 = .ok (.getfield 34, 3) := by decide +kernel
theorem gf_Days_34 : GF "NineBoards$Days" 34 7 3 := ⟨_, _, _, rfl, ci_State, by decide, (mt_1 (List.mem_of_getElem? (i := 64) rfl) rfl)⟩
theorem d_Days_allows_71 : decode prog_3_method_2_code 71 = .ok (.iload 5, 2) := by decide +kernel
theorem d_Days_allows_73 : decode prog_3_method_2_code 73 = .ok (.iaload, 1) := by decide +kernel
theorem d_Days_allows_74 : decode prog_3_method_2_code 74 = .ok (.iload_n 3, 1) := by decide +kernel
theorem d_Days_allows_75 : decode prog_3_method_2_code 75 = .ok (.iload 4, 2) := by decide +kernel
theorem d_Days_allows_77 : decode prog_3_method_2_code 77 = .ok (.invokestatic 37, 3) := by decide +kernel
theorem kw_Days_37 : KW "NineBoards$Days" 37 ⟨"NineBoards$Days", "fits", "(III)Z"⟩ prog_3_method_3_code 5 (some .boolean) 3 := ⟨(mt_4 (List.mem_of_getElem? (i := 41) rfl) rfl), (mt_1 (List.mem_of_getElem? (i := 18) rfl) rfl), (mt_4 (List.mem_of_getElem? (i := 43) rfl) rfl), by decide +kernel⟩
theorem ks_Days_fits : Cond.static ⟨"NineBoards$Days", "fits", "(III)Z"⟩ ∈ TB := (mt_4 (List.mem_of_getElem? (i := 42) rfl) rfl)
theorem d_Days_allows_80 : decode prog_3_method_2_code 80 = .ok (.ifCond .eq 29, 3) := by decide +kernel
theorem d_Days_allows_109 : decode prog_3_method_2_code 109 = .ok (.iconst 0, 1) := by decide +kernel
theorem d_Days_allows_110 : decode prog_3_method_2_code 110 = .ok (.ireturn, 1) := by decide +kernel
theorem d_Days_allows_83 : decode prog_3_method_2_code 83 = .ok (.iload 6, 2) := by decide +kernel
theorem d_Days_allows_85 : decode prog_3_method_2_code 85 = .ok (.iconst (-1), 1) := by decide +kernel
theorem d_Days_allows_86 : decode prog_3_method_2_code 86 = .ok (.if_icmp .eq 19, 3) := by decide +kernel
theorem d_Days_allows_105 : decode prog_3_method_2_code 105 = .ok (.iconst 1, 1) := by decide +kernel
theorem d_Days_allows_106 : decode prog_3_method_2_code 106 = .ok (.goto 4, 3) := by decide +kernel
theorem d_Days_allows_89 : decode prog_3_method_2_code 89 = .ok (.aload_n 1, 1) := by decide +kernel
theorem d_Days_allows_90 : decode prog_3_method_2_code 90 = .ok (.getfield 34, 3) := by decide +kernel
theorem d_Days_allows_93 : decode prog_3_method_2_code 93 = .ok (.iload 6, 2) := by decide +kernel
theorem d_Days_allows_95 : decode prog_3_method_2_code 95 = .ok (.iaload, 1) := by decide +kernel
theorem d_Days_allows_96 : decode prog_3_method_2_code 96 = .ok (.iload_n 3, 1) := by decide +kernel
theorem d_Days_allows_97 : decode prog_3_method_2_code 97 = .ok (.iload 4, 2) := by decide +kernel
theorem d_Days_allows_99 : decode prog_3_method_2_code 99 = .ok (.invokestatic 37, 3) := by decide +kernel
theorem d_Days_allows_102 : decode prog_3_method_2_code 102 = .ok (.ifCond .eq 7, 3) := by decide +kernel
theorem d_Days_allows_37 : decode prog_3_method_2_code 37 = .ok (.iload_n 3, 1) := by decide +kernel
theorem d_Days_allows_38 : decode prog_3_method_2_code 38 = .ok (.aload_n 1, 1) := by decide +kernel
theorem d_Days_allows_39 : decode prog_3_method_2_code 39 = .ok (.getfield 15, 3) := by decide +kernel
theorem gf_Days_15 : GF "NineBoards$Days" 15 7 2 := ⟨_, _, _, rfl, ci_State, by decide, (mt_1 (List.mem_of_getElem? (i := 61) rfl) rfl)⟩
theorem d_Days_allows_42 : decode prog_3_method_2_code 42 = .ok (.if_icmp .ne 5, 3) := by decide +kernel
theorem d_Days_allows_45 : decode prog_3_method_2_code 45 = .ok (.iconst 0, 1) := by decide +kernel
theorem d_Days_allows_46 : decode prog_3_method_2_code 46 = .ok (.ireturn, 1) := by decide +kernel
theorem d_Days_allows_11 : decode prog_3_method_2_code 11 = .ok (.iload_n 3, 1) := by decide +kernel
theorem d_Days_allows_12 : decode prog_3_method_2_code 12 = .ok (.iconst 2, 1) := by decide +kernel
theorem d_Days_allows_13 : decode prog_3_method_2_code 13 = .ok (.if_icmp .ne 17, 3) := by decide +kernel
theorem d_Days_allows_4 : decode prog_3_method_2_code 4 = .ok (.iconst 1, 1) := by decide +kernel
theorem d_Days_allows_5 : decode prog_3_method_2_code 5 = .ok (.ireturn, 1) := by decide +kernel
set_option maxHeartbeats 4000000 in
set_option maxRecDepth 100000 in
theorem c_allows (l : Launch) (D : va_G) (y : Nat → ClassId) (ad : Nat → Nat) (d : LD) (n4 : Nat) (h : Nat) (sa : Nat → Nat) (sd : Int32) (sw : Int32) (sl : Int32) (f0 : Nat → Int32) (va : Int32) (v : Int32) (vc : Int32) (h4 : d.1 4 = nI n4) (b4 : n4 ≤ 6) (hJ : ∀ j, j < 9 → d.2 6 j = -1 ∨ ∃ q, q < 9 ∧ d.2 6 j = nI q) (hV : ∀ j, j < n4 → ∃ q, q < 9 ∧ d.2 8 j = nI q) : CT l D y ⟨"NineBoards$Days", "allows", "(LNineBoards$Lake;LNineBoards$State;III)Z"⟩ prog_3_method_2_code 7 (some .boolean) ({ frames := 1, cells := 0, slots := 0, locals := 24 } : Room) [.ref (ad 0), .ref h, .int va, .int v, .int vc] [(ad 0, .inr (2, [.int (d.1 0), .int (d.1 1), .int (d.1 2), .int (d.1 3), .ref (ad 1), .int (d.1 4), .ref (ad 11), .ref (ad 12), .ref (ad 2), .ref (ad 3), .int (d.1 5), .int (d.1 6), .int (d.1 7), .int (d.1 8)])), (ad 1, .inr (1, [.int (d.1 9), .ref (ad 4), .ref (ad 5), .ref (ad 6), .ref (ad 7), .ref (ad 8), .ref (ad 9), .ref (ad 10)])), (ad 10, .inl (y 0, 9, .inl (d.2 6))), (ad 12, .inl (y 0, 6, .inl (d.2 8))), (h, .inr (7, [.int sd, .int sw, .int sl, .ref (sa 0), .ref (sa 1), .ref (sa 2), .ref (sa 3), .ref (sa 4), .ref (sa 5), .ref (sa 6)])), (sa 0, .inl (y 0, 9, .inl f0))] (QI D [(ad 0, .inr (2, [.int (d.1 0), .int (d.1 1), .int (d.1 2), .int (d.1 3), .ref (ad 1), .int (d.1 4), .ref (ad 11), .ref (ad 12), .ref (ad 2), .ref (ad 3), .int (d.1 5), .int (d.1 6), .int (d.1 7), .int (d.1 8)])), (ad 1, .inr (1, [.int (d.1 9), .ref (ad 4), .ref (ad 5), .ref (ad 6), .ref (ad 7), .ref (ad 8), .ref (ad 9), .ref (ad 10)])), (ad 10, .inl (y 0, 9, .inl (d.2 6))), (ad 12, .inl (y 0, 6, .inl (d.2 8))), (h, .inr (7, [.int sd, .int sw, .int sl, .ref (sa 0), .ref (sa 1), .ref (sa 2), .ref (sa 3), .ref (sa 4), .ref (sa 5), .ref (sa 6)])), (sa 0, .inl (y 0, 9, .inl f0))] (fun (r : Int32) (u : Unit) => r = 0 ∨ r = 1) (fun _ => [(ad 0, .inr (2, [.int (d.1 0), .int (d.1 1), .int (d.1 2), .int (d.1 3), .ref (ad 1), .int (d.1 4), .ref (ad 11), .ref (ad 12), .ref (ad 2), .ref (ad 3), .int (d.1 5), .int (d.1 6), .int (d.1 7), .int (d.1 8)])), (ad 1, .inr (1, [.int (d.1 9), .ref (ad 4), .ref (ad 5), .ref (ad 6), .ref (ad 7), .ref (ad 8), .ref (ad 9), .ref (ad 10)])), (ad 10, .inl (y 0, 9, .inl (d.2 6))), (ad 12, .inl (y 0, 6, .inl (d.2 8))), (h, .inr (7, [.int sd, .int sw, .int sl, .ref (sa 0), .ref (sa 1), .ref (sa 2), .ref (sa 3), .ref (sa 4), .ref (sa 5), .ref (sa 6)])), (sa 0, .inl (y 0, 9, .inl f0))])) := by
  refine CT.of (by decide) (nb rfl) ?_
  intro p e s m args below meth c C hr
  refine j_lv (lv' := [(0, .ref (ad 0)), (1, .ref h), (2, .int va), (3, .int v), (4, .int vc)]) rfl ?_
  refine j_iload_n (pc := 0) C d_Days_allows_0 rfl 3 rfl ?_
  refine j_if_ne (pc := 1) C (tgt := 6) d_Days_allows_1 (by decide) (fun c1 => ?_) (fun c1 => ?_)
  · refine j_iload_n (pc := 6) C d_Days_allows_6 rfl 3 rfl ?_
    refine j_iconst (pc := 7) C (v := 1) d_Days_allows_7 (by decide) ?_
    refine j_icmp_eq (pc := 8) C (tgt := 16) d_Days_allows_8 (by decide) (fun c2 => ?_) (fun c2 => ?_)
    · refine j_aload_n (pc := 16) C d_Days_allows_16 rfl 0 rfl ?_
      refine j_iload_n (pc := 17) C d_Days_allows_17 rfl 2 rfl ?_
      refine j_callVi (pc := 18) C (c_hasVillage l D y ad d n4 va h4 b4) kw_Days_9 kv_Lake_hasVillage 0 2 rfl rfl ⟨by decide, by decide⟩ ⟨by decide, by decide⟩ (wr := [(ad 1, .inr (1, [.int (d.1 9), .ref (ad 4), .ref (ad 5), .ref (ad 6), .ref (ad 7), .ref (ad 8), .ref (ad 9), .ref (ad 10)])), (ad 10, .inl (y 0, 9, .inl (d.2 6))), (ad 12, .inl (y 0, 6, .inl (d.2 8))), (h, .inr (7, [.int sd, .int sw, .int sl, .ref (sa 0), .ref (sa 1), .ref (sa 2), .ref (sa 3), .ref (sa 4), .ref (sa 5), .ref (sa 6)])), (sa 0, .inl (y 0, 9, .inl f0))]) [0] [1, 2, 3, 4, 5] rfl rfl (by decide) (by decide) (by decide) (As := [.int va]) (rest := []) rfl (nb rfl) rfl d_Days_allows_18 (fun r3 _ hr3 => ?_)
      refine j_ws (ws' := [(ad 1, .inr (1, [.int (d.1 9), .ref (ad 4), .ref (ad 5), .ref (ad 6), .ref (ad 7), .ref (ad 8), .ref (ad 9), .ref (ad 10)])), (ad 10, .inl (y 0, 9, .inl (d.2 6))), (ad 12, .inl (y 0, 6, .inl (d.2 8))), (h, .inr (7, [.int sd, .int sw, .int sl, .ref (sa 0), .ref (sa 1), .ref (sa 2), .ref (sa 3), .ref (sa 4), .ref (sa 5), .ref (sa 6)])), (sa 0, .inl (y 0, 9, .inl f0)), (ad 0, .inr (2, [.int (d.1 0), .int (d.1 1), .int (d.1 2), .int (d.1 3), .ref (ad 1), .int (d.1 4), .ref (ad 11), .ref (ad 12), .ref (ad 2), .ref (ad 3), .int (d.1 5), .int (d.1 6), .int (d.1 7), .int (d.1 8)]))]) rfl ?_
      rcases hr3 with rfl | ⟨rfl, j4, h5, rfl⟩
      · refine j_if_eqT (pc := 21) C (tgt := 30) d_Days_allows_21 (by decide) (by decide) ?_
        refine j_iconst (pc := 30) C (v := 0) d_Days_allows_30 (by decide) ?_
        exact j_iret (pc := 31) C hr (by decide) () (by decide) [5, 0, 1, 2, 3, 4] rfl (by decide) (by decide) (by decide) d_Days_allows_31
      · refine j_if_eqF (pc := 21) C (tgt := 30) d_Days_allows_21 (by decide) (by decide) ?_
        refine j_iload (pc := 24) C d_Days_allows_24 4 rfl ?_
        refine j_iconst (pc := 26) C (v := 3) d_Days_allows_26 (by decide) ?_
        refine j_icmp_ne (pc := 27) C (tgt := 32) d_Days_allows_27 (by decide) (fun c6 => ?_) (fun c6 => ?_)
        · refine j_iload (pc := 32) C d_Days_allows_32 4 rfl ?_
          refine j_if_ne (pc := 34) C (tgt := 47) d_Days_allows_34 (by decide) (fun c7 => ?_) (fun c7 => ?_)
          · refine j_aload_n (pc := 47) C d_Days_allows_47 rfl 0 rfl ?_
            refine j_get (pc := 48) C gf_Days_21 5 rfl rfl d_Days_allows_48 ?_
            refine j_iload_n (pc := 51) C d_Days_allows_51 rfl 2 rfl ?_
            obtain ⟨q8, h9, e10⟩ := hV j4 (by omega)
            refine j_iald (pc := 52) C 2 rfl (v := nI q8) (vp_in_nI (by omega) (by decide)) (by rw [nI_clamp (by omega)]; exact e10) d_Days_allows_52 ?_
            refine j_istore (pc := 53) C (lv' := [(5, .int (nI q8)), (0, .ref (ad 0)), (1, .ref h), (2, .int (nI j4)), (3, .int v), (4, .int vc)]) d_Days_allows_53 (by decide) rfl ?_
            refine j_aload_n (pc := 55) C d_Days_allows_55 rfl 1 rfl ?_
            refine j_get (pc := 56) C gf_Days_25 5 rfl rfl d_Days_allows_56 ?_
            refine j_get (pc := 59) C gf_Days_29 0 rfl rfl d_Days_allows_59 ?_
            refine j_iload (pc := 62) C d_Days_allows_62 0 rfl ?_
            rcases hJ q8 (by omega) with e13 | ⟨q11, h12, e13⟩
            · refine j_iald (pc := 64) C 1 rfl (v := (-1)) (vp_in_nI (by omega) (by decide)) (by rw [nI_clamp (by omega)]; exact e13) d_Days_allows_64 ?_
              refine j_istore (pc := 65) C (lv' := [(6, .int (-1)), (5, .int (nI q8)), (0, .ref (ad 0)), (1, .ref h), (2, .int (nI j4)), (3, .int v), (4, .int vc)]) d_Days_allows_65 (by decide) rfl ?_
              refine j_aload_n (pc := 67) C d_Days_allows_67 rfl 3 rfl ?_
              refine j_get (pc := 68) C gf_Days_34 3 rfl rfl d_Days_allows_68 ?_
              refine j_iload (pc := 71) C d_Days_allows_71 1 rfl ?_
              refine j_iald (pc := 73) C 4 rfl (v := f0 (nI q8).toNatClampNeg) (vp_in_nI (by omega) (by decide)) rfl d_Days_allows_73 ?_
              refine j_iload_n (pc := 74) C d_Days_allows_74 rfl 5 rfl ?_
              refine j_iload (pc := 75) C d_Days_allows_75 6 rfl ?_
              refine j_callSi (pc := 77) C (c_fits l D y (f0 (nI q8).toNatClampNeg) v vc) kw_Days_37 ks_Days_fits ⟨by decide, by decide⟩ ⟨by decide, by decide⟩ (wr := [(ad 1, .inr (1, [.int (d.1 9), .ref (ad 4), .ref (ad 5), .ref (ad 6), .ref (ad 7), .ref (ad 8), .ref (ad 9), .ref (ad 10)])), (ad 10, .inl (y 0, 9, .inl (d.2 6))), (ad 12, .inl (y 0, 6, .inl (d.2 8))), (h, .inr (7, [.int sd, .int sw, .int sl, .ref (sa 0), .ref (sa 1), .ref (sa 2), .ref (sa 3), .ref (sa 4), .ref (sa 5), .ref (sa 6)])), (sa 0, .inl (y 0, 9, .inl f0)), (ad 0, .inr (2, [.int (d.1 0), .int (d.1 1), .int (d.1 2), .int (d.1 3), .ref (ad 1), .int (d.1 4), .ref (ad 11), .ref (ad 12), .ref (ad 2), .ref (ad 3), .int (d.1 5), .int (d.1 6), .int (d.1 7), .int (d.1 8)]))]) [] [0, 1, 2, 3, 4, 5] rfl rfl (by decide) (by decide) (by decide) (As := [.int (f0 (nI q8).toNatClampNeg), .int v, .int vc]) (rest := []) rfl (nb rfl) rfl d_Days_allows_77 (fun r14 _ hr14 => ?_)
              refine j_ws (ws' := [(ad 1, .inr (1, [.int (d.1 9), .ref (ad 4), .ref (ad 5), .ref (ad 6), .ref (ad 7), .ref (ad 8), .ref (ad 9), .ref (ad 10)])), (ad 10, .inl (y 0, 9, .inl (d.2 6))), (ad 12, .inl (y 0, 6, .inl (d.2 8))), (h, .inr (7, [.int sd, .int sw, .int sl, .ref (sa 0), .ref (sa 1), .ref (sa 2), .ref (sa 3), .ref (sa 4), .ref (sa 5), .ref (sa 6)])), (sa 0, .inl (y 0, 9, .inl f0)), (ad 0, .inr (2, [.int (d.1 0), .int (d.1 1), .int (d.1 2), .int (d.1 3), .ref (ad 1), .int (d.1 4), .ref (ad 11), .ref (ad 12), .ref (ad 2), .ref (ad 3), .int (d.1 5), .int (d.1 6), .int (d.1 7), .int (d.1 8)]))]) rfl ?_
              refine j_if_eq (pc := 80) C (tgt := 109) d_Days_allows_80 (by decide) (fun c15 => ?_) (fun c15 => ?_)
              · refine j_iconst (pc := 109) C (v := 0) d_Days_allows_109 (by decide) ?_
                exact j_iret (pc := 110) C hr (by decide) () (by decide) [5, 0, 1, 2, 3, 4] rfl (by decide) (by decide) (by decide) d_Days_allows_110
              · refine j_iload (pc := 83) C d_Days_allows_83 0 rfl ?_
                refine j_iconst (pc := 85) C (v := (-1)) d_Days_allows_85 (by decide) ?_
                refine j_icmp_eqT (pc := 86) C (tgt := 105) d_Days_allows_86 (by decide) (by decide) ?_
                refine j_iconst (pc := 105) C (v := 1) d_Days_allows_105 (by decide) ?_
                refine j_goto (pc := 106) C (tgt := 110) d_Days_allows_106 (by decide) ?_
                exact j_iret (pc := 110) C hr (by decide) () (by decide) [5, 0, 1, 2, 3, 4] rfl (by decide) (by decide) (by decide) d_Days_allows_110
            · refine j_iald (pc := 64) C 1 rfl (v := nI q11) (vp_in_nI (by omega) (by decide)) (by rw [nI_clamp (by omega)]; exact e13) d_Days_allows_64 ?_
              refine j_istore (pc := 65) C (lv' := [(6, .int (nI q11)), (5, .int (nI q8)), (0, .ref (ad 0)), (1, .ref h), (2, .int (nI j4)), (3, .int v), (4, .int vc)]) d_Days_allows_65 (by decide) rfl ?_
              refine j_aload_n (pc := 67) C d_Days_allows_67 rfl 3 rfl ?_
              refine j_get (pc := 68) C gf_Days_34 3 rfl rfl d_Days_allows_68 ?_
              refine j_iload (pc := 71) C d_Days_allows_71 1 rfl ?_
              refine j_iald (pc := 73) C 4 rfl (v := f0 (nI q8).toNatClampNeg) (vp_in_nI (by omega) (by decide)) rfl d_Days_allows_73 ?_
              refine j_iload_n (pc := 74) C d_Days_allows_74 rfl 5 rfl ?_
              refine j_iload (pc := 75) C d_Days_allows_75 6 rfl ?_
              refine j_callSi (pc := 77) C (c_fits l D y (f0 (nI q8).toNatClampNeg) v vc) kw_Days_37 ks_Days_fits ⟨by decide, by decide⟩ ⟨by decide, by decide⟩ (wr := [(ad 1, .inr (1, [.int (d.1 9), .ref (ad 4), .ref (ad 5), .ref (ad 6), .ref (ad 7), .ref (ad 8), .ref (ad 9), .ref (ad 10)])), (ad 10, .inl (y 0, 9, .inl (d.2 6))), (ad 12, .inl (y 0, 6, .inl (d.2 8))), (h, .inr (7, [.int sd, .int sw, .int sl, .ref (sa 0), .ref (sa 1), .ref (sa 2), .ref (sa 3), .ref (sa 4), .ref (sa 5), .ref (sa 6)])), (sa 0, .inl (y 0, 9, .inl f0)), (ad 0, .inr (2, [.int (d.1 0), .int (d.1 1), .int (d.1 2), .int (d.1 3), .ref (ad 1), .int (d.1 4), .ref (ad 11), .ref (ad 12), .ref (ad 2), .ref (ad 3), .int (d.1 5), .int (d.1 6), .int (d.1 7), .int (d.1 8)]))]) [] [0, 1, 2, 3, 4, 5] rfl rfl (by decide) (by decide) (by decide) (As := [.int (f0 (nI q8).toNatClampNeg), .int v, .int vc]) (rest := []) rfl (nb rfl) rfl d_Days_allows_77 (fun r16 _ hr16 => ?_)
              refine j_ws (ws' := [(ad 1, .inr (1, [.int (d.1 9), .ref (ad 4), .ref (ad 5), .ref (ad 6), .ref (ad 7), .ref (ad 8), .ref (ad 9), .ref (ad 10)])), (ad 10, .inl (y 0, 9, .inl (d.2 6))), (ad 12, .inl (y 0, 6, .inl (d.2 8))), (h, .inr (7, [.int sd, .int sw, .int sl, .ref (sa 0), .ref (sa 1), .ref (sa 2), .ref (sa 3), .ref (sa 4), .ref (sa 5), .ref (sa 6)])), (sa 0, .inl (y 0, 9, .inl f0)), (ad 0, .inr (2, [.int (d.1 0), .int (d.1 1), .int (d.1 2), .int (d.1 3), .ref (ad 1), .int (d.1 4), .ref (ad 11), .ref (ad 12), .ref (ad 2), .ref (ad 3), .int (d.1 5), .int (d.1 6), .int (d.1 7), .int (d.1 8)]))]) rfl ?_
              refine j_if_eq (pc := 80) C (tgt := 109) d_Days_allows_80 (by decide) (fun c17 => ?_) (fun c17 => ?_)
              · refine j_iconst (pc := 109) C (v := 0) d_Days_allows_109 (by decide) ?_
                exact j_iret (pc := 110) C hr (by decide) () (by decide) [5, 0, 1, 2, 3, 4] rfl (by decide) (by decide) (by decide) d_Days_allows_110
              · refine j_iload (pc := 83) C d_Days_allows_83 0 rfl ?_
                refine j_iconst (pc := 85) C (v := (-1)) d_Days_allows_85 (by decide) ?_
                refine j_icmp_eqF (pc := 86) C (tgt := 105) d_Days_allows_86 (by decide) (nI_nm1 (by omega)) ?_
                refine j_aload_n (pc := 89) C d_Days_allows_89 rfl 3 rfl ?_
                refine j_get (pc := 90) C gf_Days_34 3 rfl rfl d_Days_allows_90 ?_
                refine j_iload (pc := 93) C d_Days_allows_93 0 rfl ?_
                refine j_iald (pc := 95) C 4 rfl (v := f0 (nI q11).toNatClampNeg) (vp_in_nI (by omega) (by decide)) rfl d_Days_allows_95 ?_
                refine j_iload_n (pc := 96) C d_Days_allows_96 rfl 5 rfl ?_
                refine j_iload (pc := 97) C d_Days_allows_97 6 rfl ?_
                refine j_callSi (pc := 99) C (c_fits l D y (f0 (nI q11).toNatClampNeg) v vc) kw_Days_37 ks_Days_fits ⟨by decide, by decide⟩ ⟨by decide, by decide⟩ (wr := [(ad 1, .inr (1, [.int (d.1 9), .ref (ad 4), .ref (ad 5), .ref (ad 6), .ref (ad 7), .ref (ad 8), .ref (ad 9), .ref (ad 10)])), (ad 10, .inl (y 0, 9, .inl (d.2 6))), (ad 12, .inl (y 0, 6, .inl (d.2 8))), (h, .inr (7, [.int sd, .int sw, .int sl, .ref (sa 0), .ref (sa 1), .ref (sa 2), .ref (sa 3), .ref (sa 4), .ref (sa 5), .ref (sa 6)])), (sa 0, .inl (y 0, 9, .inl f0)), (ad 0, .inr (2, [.int (d.1 0), .int (d.1 1), .int (d.1 2), .int (d.1 3), .ref (ad 1), .int (d.1 4), .ref (ad 11), .ref (ad 12), .ref (ad 2), .ref (ad 3), .int (d.1 5), .int (d.1 6), .int (d.1 7), .int (d.1 8)]))]) [] [0, 1, 2, 3, 4, 5] rfl rfl (by decide) (by decide) (by decide) (As := [.int (f0 (nI q11).toNatClampNeg), .int v, .int vc]) (rest := []) rfl (nb rfl) rfl d_Days_allows_99 (fun r18 _ hr18 => ?_)
                refine j_ws (ws' := [(ad 1, .inr (1, [.int (d.1 9), .ref (ad 4), .ref (ad 5), .ref (ad 6), .ref (ad 7), .ref (ad 8), .ref (ad 9), .ref (ad 10)])), (ad 10, .inl (y 0, 9, .inl (d.2 6))), (ad 12, .inl (y 0, 6, .inl (d.2 8))), (h, .inr (7, [.int sd, .int sw, .int sl, .ref (sa 0), .ref (sa 1), .ref (sa 2), .ref (sa 3), .ref (sa 4), .ref (sa 5), .ref (sa 6)])), (sa 0, .inl (y 0, 9, .inl f0)), (ad 0, .inr (2, [.int (d.1 0), .int (d.1 1), .int (d.1 2), .int (d.1 3), .ref (ad 1), .int (d.1 4), .ref (ad 11), .ref (ad 12), .ref (ad 2), .ref (ad 3), .int (d.1 5), .int (d.1 6), .int (d.1 7), .int (d.1 8)]))]) rfl ?_
                refine j_if_eq (pc := 102) C (tgt := 109) d_Days_allows_102 (by decide) (fun c19 => ?_) (fun c19 => ?_)
                · refine j_iconst (pc := 109) C (v := 0) d_Days_allows_109 (by decide) ?_
                  exact j_iret (pc := 110) C hr (by decide) () (by decide) [5, 0, 1, 2, 3, 4] rfl (by decide) (by decide) (by decide) d_Days_allows_110
                · refine j_iconst (pc := 105) C (v := 1) d_Days_allows_105 (by decide) ?_
                  refine j_goto (pc := 106) C (tgt := 110) d_Days_allows_106 (by decide) ?_
                  exact j_iret (pc := 110) C hr (by decide) () (by decide) [5, 0, 1, 2, 3, 4] rfl (by decide) (by decide) (by decide) d_Days_allows_110
          · refine j_iload_n (pc := 37) C d_Days_allows_37 rfl 3 rfl ?_
            refine j_aload_n (pc := 38) C d_Days_allows_38 rfl 1 rfl ?_
            refine j_get (pc := 39) C gf_Days_15 3 rfl rfl d_Days_allows_39 ?_
            refine j_icmp_ne (pc := 42) C (tgt := 47) d_Days_allows_42 (by decide) (fun c20 => ?_) (fun c20 => ?_)
            · refine j_aload_n (pc := 47) C d_Days_allows_47 rfl 0 rfl ?_
              refine j_get (pc := 48) C gf_Days_21 5 rfl rfl d_Days_allows_48 ?_
              refine j_iload_n (pc := 51) C d_Days_allows_51 rfl 2 rfl ?_
              obtain ⟨q21, h22, e23⟩ := hV j4 (by omega)
              refine j_iald (pc := 52) C 2 rfl (v := nI q21) (vp_in_nI (by omega) (by decide)) (by rw [nI_clamp (by omega)]; exact e23) d_Days_allows_52 ?_
              refine j_istore (pc := 53) C (lv' := [(5, .int (nI q21)), (0, .ref (ad 0)), (1, .ref h), (2, .int (nI j4)), (3, .int v), (4, .int vc)]) d_Days_allows_53 (by decide) rfl ?_
              refine j_aload_n (pc := 55) C d_Days_allows_55 rfl 1 rfl ?_
              refine j_get (pc := 56) C gf_Days_25 5 rfl rfl d_Days_allows_56 ?_
              refine j_get (pc := 59) C gf_Days_29 0 rfl rfl d_Days_allows_59 ?_
              refine j_iload (pc := 62) C d_Days_allows_62 0 rfl ?_
              rcases hJ q21 (by omega) with e26 | ⟨q24, h25, e26⟩
              · refine j_iald (pc := 64) C 1 rfl (v := (-1)) (vp_in_nI (by omega) (by decide)) (by rw [nI_clamp (by omega)]; exact e26) d_Days_allows_64 ?_
                refine j_istore (pc := 65) C (lv' := [(6, .int (-1)), (5, .int (nI q21)), (0, .ref (ad 0)), (1, .ref h), (2, .int (nI j4)), (3, .int v), (4, .int vc)]) d_Days_allows_65 (by decide) rfl ?_
                refine j_aload_n (pc := 67) C d_Days_allows_67 rfl 3 rfl ?_
                refine j_get (pc := 68) C gf_Days_34 3 rfl rfl d_Days_allows_68 ?_
                refine j_iload (pc := 71) C d_Days_allows_71 1 rfl ?_
                refine j_iald (pc := 73) C 4 rfl (v := f0 (nI q21).toNatClampNeg) (vp_in_nI (by omega) (by decide)) rfl d_Days_allows_73 ?_
                refine j_iload_n (pc := 74) C d_Days_allows_74 rfl 5 rfl ?_
                refine j_iload (pc := 75) C d_Days_allows_75 6 rfl ?_
                refine j_callSi (pc := 77) C (c_fits l D y (f0 (nI q21).toNatClampNeg) v vc) kw_Days_37 ks_Days_fits ⟨by decide, by decide⟩ ⟨by decide, by decide⟩ (wr := [(ad 1, .inr (1, [.int (d.1 9), .ref (ad 4), .ref (ad 5), .ref (ad 6), .ref (ad 7), .ref (ad 8), .ref (ad 9), .ref (ad 10)])), (ad 10, .inl (y 0, 9, .inl (d.2 6))), (ad 12, .inl (y 0, 6, .inl (d.2 8))), (h, .inr (7, [.int sd, .int sw, .int sl, .ref (sa 0), .ref (sa 1), .ref (sa 2), .ref (sa 3), .ref (sa 4), .ref (sa 5), .ref (sa 6)])), (sa 0, .inl (y 0, 9, .inl f0)), (ad 0, .inr (2, [.int (d.1 0), .int (d.1 1), .int (d.1 2), .int (d.1 3), .ref (ad 1), .int (d.1 4), .ref (ad 11), .ref (ad 12), .ref (ad 2), .ref (ad 3), .int (d.1 5), .int (d.1 6), .int (d.1 7), .int (d.1 8)]))]) [] [0, 1, 2, 3, 4, 5] rfl rfl (by decide) (by decide) (by decide) (As := [.int (f0 (nI q21).toNatClampNeg), .int v, .int vc]) (rest := []) rfl (nb rfl) rfl d_Days_allows_77 (fun r27 _ hr27 => ?_)
                refine j_ws (ws' := [(ad 1, .inr (1, [.int (d.1 9), .ref (ad 4), .ref (ad 5), .ref (ad 6), .ref (ad 7), .ref (ad 8), .ref (ad 9), .ref (ad 10)])), (ad 10, .inl (y 0, 9, .inl (d.2 6))), (ad 12, .inl (y 0, 6, .inl (d.2 8))), (h, .inr (7, [.int sd, .int sw, .int sl, .ref (sa 0), .ref (sa 1), .ref (sa 2), .ref (sa 3), .ref (sa 4), .ref (sa 5), .ref (sa 6)])), (sa 0, .inl (y 0, 9, .inl f0)), (ad 0, .inr (2, [.int (d.1 0), .int (d.1 1), .int (d.1 2), .int (d.1 3), .ref (ad 1), .int (d.1 4), .ref (ad 11), .ref (ad 12), .ref (ad 2), .ref (ad 3), .int (d.1 5), .int (d.1 6), .int (d.1 7), .int (d.1 8)]))]) rfl ?_
                refine j_if_eq (pc := 80) C (tgt := 109) d_Days_allows_80 (by decide) (fun c28 => ?_) (fun c28 => ?_)
                · refine j_iconst (pc := 109) C (v := 0) d_Days_allows_109 (by decide) ?_
                  exact j_iret (pc := 110) C hr (by decide) () (by decide) [5, 0, 1, 2, 3, 4] rfl (by decide) (by decide) (by decide) d_Days_allows_110
                · refine j_iload (pc := 83) C d_Days_allows_83 0 rfl ?_
                  refine j_iconst (pc := 85) C (v := (-1)) d_Days_allows_85 (by decide) ?_
                  refine j_icmp_eqT (pc := 86) C (tgt := 105) d_Days_allows_86 (by decide) (by decide) ?_
                  refine j_iconst (pc := 105) C (v := 1) d_Days_allows_105 (by decide) ?_
                  refine j_goto (pc := 106) C (tgt := 110) d_Days_allows_106 (by decide) ?_
                  exact j_iret (pc := 110) C hr (by decide) () (by decide) [5, 0, 1, 2, 3, 4] rfl (by decide) (by decide) (by decide) d_Days_allows_110
              · refine j_iald (pc := 64) C 1 rfl (v := nI q24) (vp_in_nI (by omega) (by decide)) (by rw [nI_clamp (by omega)]; exact e26) d_Days_allows_64 ?_
                refine j_istore (pc := 65) C (lv' := [(6, .int (nI q24)), (5, .int (nI q21)), (0, .ref (ad 0)), (1, .ref h), (2, .int (nI j4)), (3, .int v), (4, .int vc)]) d_Days_allows_65 (by decide) rfl ?_
                refine j_aload_n (pc := 67) C d_Days_allows_67 rfl 3 rfl ?_
                refine j_get (pc := 68) C gf_Days_34 3 rfl rfl d_Days_allows_68 ?_
                refine j_iload (pc := 71) C d_Days_allows_71 1 rfl ?_
                refine j_iald (pc := 73) C 4 rfl (v := f0 (nI q21).toNatClampNeg) (vp_in_nI (by omega) (by decide)) rfl d_Days_allows_73 ?_
                refine j_iload_n (pc := 74) C d_Days_allows_74 rfl 5 rfl ?_
                refine j_iload (pc := 75) C d_Days_allows_75 6 rfl ?_
                refine j_callSi (pc := 77) C (c_fits l D y (f0 (nI q21).toNatClampNeg) v vc) kw_Days_37 ks_Days_fits ⟨by decide, by decide⟩ ⟨by decide, by decide⟩ (wr := [(ad 1, .inr (1, [.int (d.1 9), .ref (ad 4), .ref (ad 5), .ref (ad 6), .ref (ad 7), .ref (ad 8), .ref (ad 9), .ref (ad 10)])), (ad 10, .inl (y 0, 9, .inl (d.2 6))), (ad 12, .inl (y 0, 6, .inl (d.2 8))), (h, .inr (7, [.int sd, .int sw, .int sl, .ref (sa 0), .ref (sa 1), .ref (sa 2), .ref (sa 3), .ref (sa 4), .ref (sa 5), .ref (sa 6)])), (sa 0, .inl (y 0, 9, .inl f0)), (ad 0, .inr (2, [.int (d.1 0), .int (d.1 1), .int (d.1 2), .int (d.1 3), .ref (ad 1), .int (d.1 4), .ref (ad 11), .ref (ad 12), .ref (ad 2), .ref (ad 3), .int (d.1 5), .int (d.1 6), .int (d.1 7), .int (d.1 8)]))]) [] [0, 1, 2, 3, 4, 5] rfl rfl (by decide) (by decide) (by decide) (As := [.int (f0 (nI q21).toNatClampNeg), .int v, .int vc]) (rest := []) rfl (nb rfl) rfl d_Days_allows_77 (fun r29 _ hr29 => ?_)
                refine j_ws (ws' := [(ad 1, .inr (1, [.int (d.1 9), .ref (ad 4), .ref (ad 5), .ref (ad 6), .ref (ad 7), .ref (ad 8), .ref (ad 9), .ref (ad 10)])), (ad 10, .inl (y 0, 9, .inl (d.2 6))), (ad 12, .inl (y 0, 6, .inl (d.2 8))), (h, .inr (7, [.int sd, .int sw, .int sl, .ref (sa 0), .ref (sa 1), .ref (sa 2), .ref (sa 3), .ref (sa 4), .ref (sa 5), .ref (sa 6)])), (sa 0, .inl (y 0, 9, .inl f0)), (ad 0, .inr (2, [.int (d.1 0), .int (d.1 1), .int (d.1 2), .int (d.1 3), .ref (ad 1), .int (d.1 4), .ref (ad 11), .ref (ad 12), .ref (ad 2), .ref (ad 3), .int (d.1 5), .int (d.1 6), .int (d.1 7), .int (d.1 8)]))]) rfl ?_
                refine j_if_eq (pc := 80) C (tgt := 109) d_Days_allows_80 (by decide) (fun c30 => ?_) (fun c30 => ?_)
                · refine j_iconst (pc := 109) C (v := 0) d_Days_allows_109 (by decide) ?_
                  exact j_iret (pc := 110) C hr (by decide) () (by decide) [5, 0, 1, 2, 3, 4] rfl (by decide) (by decide) (by decide) d_Days_allows_110
                · refine j_iload (pc := 83) C d_Days_allows_83 0 rfl ?_
                  refine j_iconst (pc := 85) C (v := (-1)) d_Days_allows_85 (by decide) ?_
                  refine j_icmp_eqF (pc := 86) C (tgt := 105) d_Days_allows_86 (by decide) (nI_nm1 (by omega)) ?_
                  refine j_aload_n (pc := 89) C d_Days_allows_89 rfl 3 rfl ?_
                  refine j_get (pc := 90) C gf_Days_34 3 rfl rfl d_Days_allows_90 ?_
                  refine j_iload (pc := 93) C d_Days_allows_93 0 rfl ?_
                  refine j_iald (pc := 95) C 4 rfl (v := f0 (nI q24).toNatClampNeg) (vp_in_nI (by omega) (by decide)) rfl d_Days_allows_95 ?_
                  refine j_iload_n (pc := 96) C d_Days_allows_96 rfl 5 rfl ?_
                  refine j_iload (pc := 97) C d_Days_allows_97 6 rfl ?_
                  refine j_callSi (pc := 99) C (c_fits l D y (f0 (nI q24).toNatClampNeg) v vc) kw_Days_37 ks_Days_fits ⟨by decide, by decide⟩ ⟨by decide, by decide⟩ (wr := [(ad 1, .inr (1, [.int (d.1 9), .ref (ad 4), .ref (ad 5), .ref (ad 6), .ref (ad 7), .ref (ad 8), .ref (ad 9), .ref (ad 10)])), (ad 10, .inl (y 0, 9, .inl (d.2 6))), (ad 12, .inl (y 0, 6, .inl (d.2 8))), (h, .inr (7, [.int sd, .int sw, .int sl, .ref (sa 0), .ref (sa 1), .ref (sa 2), .ref (sa 3), .ref (sa 4), .ref (sa 5), .ref (sa 6)])), (sa 0, .inl (y 0, 9, .inl f0)), (ad 0, .inr (2, [.int (d.1 0), .int (d.1 1), .int (d.1 2), .int (d.1 3), .ref (ad 1), .int (d.1 4), .ref (ad 11), .ref (ad 12), .ref (ad 2), .ref (ad 3), .int (d.1 5), .int (d.1 6), .int (d.1 7), .int (d.1 8)]))]) [] [0, 1, 2, 3, 4, 5] rfl rfl (by decide) (by decide) (by decide) (As := [.int (f0 (nI q24).toNatClampNeg), .int v, .int vc]) (rest := []) rfl (nb rfl) rfl d_Days_allows_99 (fun r31 _ hr31 => ?_)
                  refine j_ws (ws' := [(ad 1, .inr (1, [.int (d.1 9), .ref (ad 4), .ref (ad 5), .ref (ad 6), .ref (ad 7), .ref (ad 8), .ref (ad 9), .ref (ad 10)])), (ad 10, .inl (y 0, 9, .inl (d.2 6))), (ad 12, .inl (y 0, 6, .inl (d.2 8))), (h, .inr (7, [.int sd, .int sw, .int sl, .ref (sa 0), .ref (sa 1), .ref (sa 2), .ref (sa 3), .ref (sa 4), .ref (sa 5), .ref (sa 6)])), (sa 0, .inl (y 0, 9, .inl f0)), (ad 0, .inr (2, [.int (d.1 0), .int (d.1 1), .int (d.1 2), .int (d.1 3), .ref (ad 1), .int (d.1 4), .ref (ad 11), .ref (ad 12), .ref (ad 2), .ref (ad 3), .int (d.1 5), .int (d.1 6), .int (d.1 7), .int (d.1 8)]))]) rfl ?_
                  refine j_if_eq (pc := 102) C (tgt := 109) d_Days_allows_102 (by decide) (fun c32 => ?_) (fun c32 => ?_)
                  · refine j_iconst (pc := 109) C (v := 0) d_Days_allows_109 (by decide) ?_
                    exact j_iret (pc := 110) C hr (by decide) () (by decide) [5, 0, 1, 2, 3, 4] rfl (by decide) (by decide) (by decide) d_Days_allows_110
                  · refine j_iconst (pc := 105) C (v := 1) d_Days_allows_105 (by decide) ?_
                    refine j_goto (pc := 106) C (tgt := 110) d_Days_allows_106 (by decide) ?_
                    exact j_iret (pc := 110) C hr (by decide) () (by decide) [5, 0, 1, 2, 3, 4] rfl (by decide) (by decide) (by decide) d_Days_allows_110
            · refine j_iconst (pc := 45) C (v := 0) d_Days_allows_45 (by decide) ?_
              exact j_iret (pc := 46) C hr (by decide) () (by decide) [5, 0, 1, 2, 3, 4] rfl (by decide) (by decide) (by decide) d_Days_allows_46
        · refine j_iconst (pc := 30) C (v := 0) d_Days_allows_30 (by decide) ?_
          exact j_iret (pc := 31) C hr (by decide) () (by decide) [5, 0, 1, 2, 3, 4] rfl (by decide) (by decide) (by decide) d_Days_allows_31
    · refine j_iload_n (pc := 11) C d_Days_allows_11 rfl 3 rfl ?_
      refine j_iconst (pc := 12) C (v := 2) d_Days_allows_12 (by decide) ?_
      refine j_icmp_ne (pc := 13) C (tgt := 30) d_Days_allows_13 (by decide) (fun c33 => ?_) (fun c33 => ?_)
      · refine j_iconst (pc := 30) C (v := 0) d_Days_allows_30 (by decide) ?_
        exact j_iret (pc := 31) C hr (by decide) () (by decide) [0, 1, 2, 3, 4, 5] rfl (by decide) (by decide) (by decide) d_Days_allows_31
      · refine j_aload_n (pc := 16) C d_Days_allows_16 rfl 0 rfl ?_
        refine j_iload_n (pc := 17) C d_Days_allows_17 rfl 2 rfl ?_
        refine j_callVi (pc := 18) C (c_hasVillage l D y ad d n4 va h4 b4) kw_Days_9 kv_Lake_hasVillage 0 2 rfl rfl ⟨by decide, by decide⟩ ⟨by decide, by decide⟩ (wr := [(ad 1, .inr (1, [.int (d.1 9), .ref (ad 4), .ref (ad 5), .ref (ad 6), .ref (ad 7), .ref (ad 8), .ref (ad 9), .ref (ad 10)])), (ad 10, .inl (y 0, 9, .inl (d.2 6))), (ad 12, .inl (y 0, 6, .inl (d.2 8))), (h, .inr (7, [.int sd, .int sw, .int sl, .ref (sa 0), .ref (sa 1), .ref (sa 2), .ref (sa 3), .ref (sa 4), .ref (sa 5), .ref (sa 6)])), (sa 0, .inl (y 0, 9, .inl f0))]) [0] [1, 2, 3, 4, 5] rfl rfl (by decide) (by decide) (by decide) (As := [.int va]) (rest := []) rfl (nb rfl) rfl d_Days_allows_18 (fun r34 _ hr34 => ?_)
        refine j_ws (ws' := [(ad 1, .inr (1, [.int (d.1 9), .ref (ad 4), .ref (ad 5), .ref (ad 6), .ref (ad 7), .ref (ad 8), .ref (ad 9), .ref (ad 10)])), (ad 10, .inl (y 0, 9, .inl (d.2 6))), (ad 12, .inl (y 0, 6, .inl (d.2 8))), (h, .inr (7, [.int sd, .int sw, .int sl, .ref (sa 0), .ref (sa 1), .ref (sa 2), .ref (sa 3), .ref (sa 4), .ref (sa 5), .ref (sa 6)])), (sa 0, .inl (y 0, 9, .inl f0)), (ad 0, .inr (2, [.int (d.1 0), .int (d.1 1), .int (d.1 2), .int (d.1 3), .ref (ad 1), .int (d.1 4), .ref (ad 11), .ref (ad 12), .ref (ad 2), .ref (ad 3), .int (d.1 5), .int (d.1 6), .int (d.1 7), .int (d.1 8)]))]) rfl ?_
        rcases hr34 with rfl | ⟨rfl, j35, h36, rfl⟩
        · refine j_if_eqT (pc := 21) C (tgt := 30) d_Days_allows_21 (by decide) (by decide) ?_
          refine j_iconst (pc := 30) C (v := 0) d_Days_allows_30 (by decide) ?_
          exact j_iret (pc := 31) C hr (by decide) () (by decide) [5, 0, 1, 2, 3, 4] rfl (by decide) (by decide) (by decide) d_Days_allows_31
        · refine j_if_eqF (pc := 21) C (tgt := 30) d_Days_allows_21 (by decide) (by decide) ?_
          refine j_iload (pc := 24) C d_Days_allows_24 4 rfl ?_
          refine j_iconst (pc := 26) C (v := 3) d_Days_allows_26 (by decide) ?_
          refine j_icmp_ne (pc := 27) C (tgt := 32) d_Days_allows_27 (by decide) (fun c37 => ?_) (fun c37 => ?_)
          · refine j_iload (pc := 32) C d_Days_allows_32 4 rfl ?_
            refine j_if_ne (pc := 34) C (tgt := 47) d_Days_allows_34 (by decide) (fun c38 => ?_) (fun c38 => ?_)
            · refine j_aload_n (pc := 47) C d_Days_allows_47 rfl 0 rfl ?_
              refine j_get (pc := 48) C gf_Days_21 5 rfl rfl d_Days_allows_48 ?_
              refine j_iload_n (pc := 51) C d_Days_allows_51 rfl 2 rfl ?_
              obtain ⟨q39, h40, e41⟩ := hV j35 (by omega)
              refine j_iald (pc := 52) C 2 rfl (v := nI q39) (vp_in_nI (by omega) (by decide)) (by rw [nI_clamp (by omega)]; exact e41) d_Days_allows_52 ?_
              refine j_istore (pc := 53) C (lv' := [(5, .int (nI q39)), (0, .ref (ad 0)), (1, .ref h), (2, .int (nI j35)), (3, .int v), (4, .int vc)]) d_Days_allows_53 (by decide) rfl ?_
              refine j_aload_n (pc := 55) C d_Days_allows_55 rfl 1 rfl ?_
              refine j_get (pc := 56) C gf_Days_25 5 rfl rfl d_Days_allows_56 ?_
              refine j_get (pc := 59) C gf_Days_29 0 rfl rfl d_Days_allows_59 ?_
              refine j_iload (pc := 62) C d_Days_allows_62 0 rfl ?_
              rcases hJ q39 (by omega) with e44 | ⟨q42, h43, e44⟩
              · refine j_iald (pc := 64) C 1 rfl (v := (-1)) (vp_in_nI (by omega) (by decide)) (by rw [nI_clamp (by omega)]; exact e44) d_Days_allows_64 ?_
                refine j_istore (pc := 65) C (lv' := [(6, .int (-1)), (5, .int (nI q39)), (0, .ref (ad 0)), (1, .ref h), (2, .int (nI j35)), (3, .int v), (4, .int vc)]) d_Days_allows_65 (by decide) rfl ?_
                refine j_aload_n (pc := 67) C d_Days_allows_67 rfl 3 rfl ?_
                refine j_get (pc := 68) C gf_Days_34 3 rfl rfl d_Days_allows_68 ?_
                refine j_iload (pc := 71) C d_Days_allows_71 1 rfl ?_
                refine j_iald (pc := 73) C 4 rfl (v := f0 (nI q39).toNatClampNeg) (vp_in_nI (by omega) (by decide)) rfl d_Days_allows_73 ?_
                refine j_iload_n (pc := 74) C d_Days_allows_74 rfl 5 rfl ?_
                refine j_iload (pc := 75) C d_Days_allows_75 6 rfl ?_
                refine j_callSi (pc := 77) C (c_fits l D y (f0 (nI q39).toNatClampNeg) v vc) kw_Days_37 ks_Days_fits ⟨by decide, by decide⟩ ⟨by decide, by decide⟩ (wr := [(ad 1, .inr (1, [.int (d.1 9), .ref (ad 4), .ref (ad 5), .ref (ad 6), .ref (ad 7), .ref (ad 8), .ref (ad 9), .ref (ad 10)])), (ad 10, .inl (y 0, 9, .inl (d.2 6))), (ad 12, .inl (y 0, 6, .inl (d.2 8))), (h, .inr (7, [.int sd, .int sw, .int sl, .ref (sa 0), .ref (sa 1), .ref (sa 2), .ref (sa 3), .ref (sa 4), .ref (sa 5), .ref (sa 6)])), (sa 0, .inl (y 0, 9, .inl f0)), (ad 0, .inr (2, [.int (d.1 0), .int (d.1 1), .int (d.1 2), .int (d.1 3), .ref (ad 1), .int (d.1 4), .ref (ad 11), .ref (ad 12), .ref (ad 2), .ref (ad 3), .int (d.1 5), .int (d.1 6), .int (d.1 7), .int (d.1 8)]))]) [] [0, 1, 2, 3, 4, 5] rfl rfl (by decide) (by decide) (by decide) (As := [.int (f0 (nI q39).toNatClampNeg), .int v, .int vc]) (rest := []) rfl (nb rfl) rfl d_Days_allows_77 (fun r45 _ hr45 => ?_)
                refine j_ws (ws' := [(ad 1, .inr (1, [.int (d.1 9), .ref (ad 4), .ref (ad 5), .ref (ad 6), .ref (ad 7), .ref (ad 8), .ref (ad 9), .ref (ad 10)])), (ad 10, .inl (y 0, 9, .inl (d.2 6))), (ad 12, .inl (y 0, 6, .inl (d.2 8))), (h, .inr (7, [.int sd, .int sw, .int sl, .ref (sa 0), .ref (sa 1), .ref (sa 2), .ref (sa 3), .ref (sa 4), .ref (sa 5), .ref (sa 6)])), (sa 0, .inl (y 0, 9, .inl f0)), (ad 0, .inr (2, [.int (d.1 0), .int (d.1 1), .int (d.1 2), .int (d.1 3), .ref (ad 1), .int (d.1 4), .ref (ad 11), .ref (ad 12), .ref (ad 2), .ref (ad 3), .int (d.1 5), .int (d.1 6), .int (d.1 7), .int (d.1 8)]))]) rfl ?_
                refine j_if_eq (pc := 80) C (tgt := 109) d_Days_allows_80 (by decide) (fun c46 => ?_) (fun c46 => ?_)
                · refine j_iconst (pc := 109) C (v := 0) d_Days_allows_109 (by decide) ?_
                  exact j_iret (pc := 110) C hr (by decide) () (by decide) [5, 0, 1, 2, 3, 4] rfl (by decide) (by decide) (by decide) d_Days_allows_110
                · refine j_iload (pc := 83) C d_Days_allows_83 0 rfl ?_
                  refine j_iconst (pc := 85) C (v := (-1)) d_Days_allows_85 (by decide) ?_
                  refine j_icmp_eqT (pc := 86) C (tgt := 105) d_Days_allows_86 (by decide) (by decide) ?_
                  refine j_iconst (pc := 105) C (v := 1) d_Days_allows_105 (by decide) ?_
                  refine j_goto (pc := 106) C (tgt := 110) d_Days_allows_106 (by decide) ?_
                  exact j_iret (pc := 110) C hr (by decide) () (by decide) [5, 0, 1, 2, 3, 4] rfl (by decide) (by decide) (by decide) d_Days_allows_110
              · refine j_iald (pc := 64) C 1 rfl (v := nI q42) (vp_in_nI (by omega) (by decide)) (by rw [nI_clamp (by omega)]; exact e44) d_Days_allows_64 ?_
                refine j_istore (pc := 65) C (lv' := [(6, .int (nI q42)), (5, .int (nI q39)), (0, .ref (ad 0)), (1, .ref h), (2, .int (nI j35)), (3, .int v), (4, .int vc)]) d_Days_allows_65 (by decide) rfl ?_
                refine j_aload_n (pc := 67) C d_Days_allows_67 rfl 3 rfl ?_
                refine j_get (pc := 68) C gf_Days_34 3 rfl rfl d_Days_allows_68 ?_
                refine j_iload (pc := 71) C d_Days_allows_71 1 rfl ?_
                refine j_iald (pc := 73) C 4 rfl (v := f0 (nI q39).toNatClampNeg) (vp_in_nI (by omega) (by decide)) rfl d_Days_allows_73 ?_
                refine j_iload_n (pc := 74) C d_Days_allows_74 rfl 5 rfl ?_
                refine j_iload (pc := 75) C d_Days_allows_75 6 rfl ?_
                refine j_callSi (pc := 77) C (c_fits l D y (f0 (nI q39).toNatClampNeg) v vc) kw_Days_37 ks_Days_fits ⟨by decide, by decide⟩ ⟨by decide, by decide⟩ (wr := [(ad 1, .inr (1, [.int (d.1 9), .ref (ad 4), .ref (ad 5), .ref (ad 6), .ref (ad 7), .ref (ad 8), .ref (ad 9), .ref (ad 10)])), (ad 10, .inl (y 0, 9, .inl (d.2 6))), (ad 12, .inl (y 0, 6, .inl (d.2 8))), (h, .inr (7, [.int sd, .int sw, .int sl, .ref (sa 0), .ref (sa 1), .ref (sa 2), .ref (sa 3), .ref (sa 4), .ref (sa 5), .ref (sa 6)])), (sa 0, .inl (y 0, 9, .inl f0)), (ad 0, .inr (2, [.int (d.1 0), .int (d.1 1), .int (d.1 2), .int (d.1 3), .ref (ad 1), .int (d.1 4), .ref (ad 11), .ref (ad 12), .ref (ad 2), .ref (ad 3), .int (d.1 5), .int (d.1 6), .int (d.1 7), .int (d.1 8)]))]) [] [0, 1, 2, 3, 4, 5] rfl rfl (by decide) (by decide) (by decide) (As := [.int (f0 (nI q39).toNatClampNeg), .int v, .int vc]) (rest := []) rfl (nb rfl) rfl d_Days_allows_77 (fun r47 _ hr47 => ?_)
                refine j_ws (ws' := [(ad 1, .inr (1, [.int (d.1 9), .ref (ad 4), .ref (ad 5), .ref (ad 6), .ref (ad 7), .ref (ad 8), .ref (ad 9), .ref (ad 10)])), (ad 10, .inl (y 0, 9, .inl (d.2 6))), (ad 12, .inl (y 0, 6, .inl (d.2 8))), (h, .inr (7, [.int sd, .int sw, .int sl, .ref (sa 0), .ref (sa 1), .ref (sa 2), .ref (sa 3), .ref (sa 4), .ref (sa 5), .ref (sa 6)])), (sa 0, .inl (y 0, 9, .inl f0)), (ad 0, .inr (2, [.int (d.1 0), .int (d.1 1), .int (d.1 2), .int (d.1 3), .ref (ad 1), .int (d.1 4), .ref (ad 11), .ref (ad 12), .ref (ad 2), .ref (ad 3), .int (d.1 5), .int (d.1 6), .int (d.1 7), .int (d.1 8)]))]) rfl ?_
                refine j_if_eq (pc := 80) C (tgt := 109) d_Days_allows_80 (by decide) (fun c48 => ?_) (fun c48 => ?_)
                · refine j_iconst (pc := 109) C (v := 0) d_Days_allows_109 (by decide) ?_
                  exact j_iret (pc := 110) C hr (by decide) () (by decide) [5, 0, 1, 2, 3, 4] rfl (by decide) (by decide) (by decide) d_Days_allows_110
                · refine j_iload (pc := 83) C d_Days_allows_83 0 rfl ?_
                  refine j_iconst (pc := 85) C (v := (-1)) d_Days_allows_85 (by decide) ?_
                  refine j_icmp_eqF (pc := 86) C (tgt := 105) d_Days_allows_86 (by decide) (nI_nm1 (by omega)) ?_
                  refine j_aload_n (pc := 89) C d_Days_allows_89 rfl 3 rfl ?_
                  refine j_get (pc := 90) C gf_Days_34 3 rfl rfl d_Days_allows_90 ?_
                  refine j_iload (pc := 93) C d_Days_allows_93 0 rfl ?_
                  refine j_iald (pc := 95) C 4 rfl (v := f0 (nI q42).toNatClampNeg) (vp_in_nI (by omega) (by decide)) rfl d_Days_allows_95 ?_
                  refine j_iload_n (pc := 96) C d_Days_allows_96 rfl 5 rfl ?_
                  refine j_iload (pc := 97) C d_Days_allows_97 6 rfl ?_
                  refine j_callSi (pc := 99) C (c_fits l D y (f0 (nI q42).toNatClampNeg) v vc) kw_Days_37 ks_Days_fits ⟨by decide, by decide⟩ ⟨by decide, by decide⟩ (wr := [(ad 1, .inr (1, [.int (d.1 9), .ref (ad 4), .ref (ad 5), .ref (ad 6), .ref (ad 7), .ref (ad 8), .ref (ad 9), .ref (ad 10)])), (ad 10, .inl (y 0, 9, .inl (d.2 6))), (ad 12, .inl (y 0, 6, .inl (d.2 8))), (h, .inr (7, [.int sd, .int sw, .int sl, .ref (sa 0), .ref (sa 1), .ref (sa 2), .ref (sa 3), .ref (sa 4), .ref (sa 5), .ref (sa 6)])), (sa 0, .inl (y 0, 9, .inl f0)), (ad 0, .inr (2, [.int (d.1 0), .int (d.1 1), .int (d.1 2), .int (d.1 3), .ref (ad 1), .int (d.1 4), .ref (ad 11), .ref (ad 12), .ref (ad 2), .ref (ad 3), .int (d.1 5), .int (d.1 6), .int (d.1 7), .int (d.1 8)]))]) [] [0, 1, 2, 3, 4, 5] rfl rfl (by decide) (by decide) (by decide) (As := [.int (f0 (nI q42).toNatClampNeg), .int v, .int vc]) (rest := []) rfl (nb rfl) rfl d_Days_allows_99 (fun r49 _ hr49 => ?_)
                  refine j_ws (ws' := [(ad 1, .inr (1, [.int (d.1 9), .ref (ad 4), .ref (ad 5), .ref (ad 6), .ref (ad 7), .ref (ad 8), .ref (ad 9), .ref (ad 10)])), (ad 10, .inl (y 0, 9, .inl (d.2 6))), (ad 12, .inl (y 0, 6, .inl (d.2 8))), (h, .inr (7, [.int sd, .int sw, .int sl, .ref (sa 0), .ref (sa 1), .ref (sa 2), .ref (sa 3), .ref (sa 4), .ref (sa 5), .ref (sa 6)])), (sa 0, .inl (y 0, 9, .inl f0)), (ad 0, .inr (2, [.int (d.1 0), .int (d.1 1), .int (d.1 2), .int (d.1 3), .ref (ad 1), .int (d.1 4), .ref (ad 11), .ref (ad 12), .ref (ad 2), .ref (ad 3), .int (d.1 5), .int (d.1 6), .int (d.1 7), .int (d.1 8)]))]) rfl ?_
                  refine j_if_eq (pc := 102) C (tgt := 109) d_Days_allows_102 (by decide) (fun c50 => ?_) (fun c50 => ?_)
                  · refine j_iconst (pc := 109) C (v := 0) d_Days_allows_109 (by decide) ?_
                    exact j_iret (pc := 110) C hr (by decide) () (by decide) [5, 0, 1, 2, 3, 4] rfl (by decide) (by decide) (by decide) d_Days_allows_110
                  · refine j_iconst (pc := 105) C (v := 1) d_Days_allows_105 (by decide) ?_
                    refine j_goto (pc := 106) C (tgt := 110) d_Days_allows_106 (by decide) ?_
                    exact j_iret (pc := 110) C hr (by decide) () (by decide) [5, 0, 1, 2, 3, 4] rfl (by decide) (by decide) (by decide) d_Days_allows_110
            · refine j_iload_n (pc := 37) C d_Days_allows_37 rfl 3 rfl ?_
              refine j_aload_n (pc := 38) C d_Days_allows_38 rfl 1 rfl ?_
              refine j_get (pc := 39) C gf_Days_15 3 rfl rfl d_Days_allows_39 ?_
              refine j_icmp_ne (pc := 42) C (tgt := 47) d_Days_allows_42 (by decide) (fun c51 => ?_) (fun c51 => ?_)
              · refine j_aload_n (pc := 47) C d_Days_allows_47 rfl 0 rfl ?_
                refine j_get (pc := 48) C gf_Days_21 5 rfl rfl d_Days_allows_48 ?_
                refine j_iload_n (pc := 51) C d_Days_allows_51 rfl 2 rfl ?_
                obtain ⟨q52, h53, e54⟩ := hV j35 (by omega)
                refine j_iald (pc := 52) C 2 rfl (v := nI q52) (vp_in_nI (by omega) (by decide)) (by rw [nI_clamp (by omega)]; exact e54) d_Days_allows_52 ?_
                refine j_istore (pc := 53) C (lv' := [(5, .int (nI q52)), (0, .ref (ad 0)), (1, .ref h), (2, .int (nI j35)), (3, .int v), (4, .int vc)]) d_Days_allows_53 (by decide) rfl ?_
                refine j_aload_n (pc := 55) C d_Days_allows_55 rfl 1 rfl ?_
                refine j_get (pc := 56) C gf_Days_25 5 rfl rfl d_Days_allows_56 ?_
                refine j_get (pc := 59) C gf_Days_29 0 rfl rfl d_Days_allows_59 ?_
                refine j_iload (pc := 62) C d_Days_allows_62 0 rfl ?_
                rcases hJ q52 (by omega) with e57 | ⟨q55, h56, e57⟩
                · refine j_iald (pc := 64) C 1 rfl (v := (-1)) (vp_in_nI (by omega) (by decide)) (by rw [nI_clamp (by omega)]; exact e57) d_Days_allows_64 ?_
                  refine j_istore (pc := 65) C (lv' := [(6, .int (-1)), (5, .int (nI q52)), (0, .ref (ad 0)), (1, .ref h), (2, .int (nI j35)), (3, .int v), (4, .int vc)]) d_Days_allows_65 (by decide) rfl ?_
                  refine j_aload_n (pc := 67) C d_Days_allows_67 rfl 3 rfl ?_
                  refine j_get (pc := 68) C gf_Days_34 3 rfl rfl d_Days_allows_68 ?_
                  refine j_iload (pc := 71) C d_Days_allows_71 1 rfl ?_
                  refine j_iald (pc := 73) C 4 rfl (v := f0 (nI q52).toNatClampNeg) (vp_in_nI (by omega) (by decide)) rfl d_Days_allows_73 ?_
                  refine j_iload_n (pc := 74) C d_Days_allows_74 rfl 5 rfl ?_
                  refine j_iload (pc := 75) C d_Days_allows_75 6 rfl ?_
                  refine j_callSi (pc := 77) C (c_fits l D y (f0 (nI q52).toNatClampNeg) v vc) kw_Days_37 ks_Days_fits ⟨by decide, by decide⟩ ⟨by decide, by decide⟩ (wr := [(ad 1, .inr (1, [.int (d.1 9), .ref (ad 4), .ref (ad 5), .ref (ad 6), .ref (ad 7), .ref (ad 8), .ref (ad 9), .ref (ad 10)])), (ad 10, .inl (y 0, 9, .inl (d.2 6))), (ad 12, .inl (y 0, 6, .inl (d.2 8))), (h, .inr (7, [.int sd, .int sw, .int sl, .ref (sa 0), .ref (sa 1), .ref (sa 2), .ref (sa 3), .ref (sa 4), .ref (sa 5), .ref (sa 6)])), (sa 0, .inl (y 0, 9, .inl f0)), (ad 0, .inr (2, [.int (d.1 0), .int (d.1 1), .int (d.1 2), .int (d.1 3), .ref (ad 1), .int (d.1 4), .ref (ad 11), .ref (ad 12), .ref (ad 2), .ref (ad 3), .int (d.1 5), .int (d.1 6), .int (d.1 7), .int (d.1 8)]))]) [] [0, 1, 2, 3, 4, 5] rfl rfl (by decide) (by decide) (by decide) (As := [.int (f0 (nI q52).toNatClampNeg), .int v, .int vc]) (rest := []) rfl (nb rfl) rfl d_Days_allows_77 (fun r58 _ hr58 => ?_)
                  refine j_ws (ws' := [(ad 1, .inr (1, [.int (d.1 9), .ref (ad 4), .ref (ad 5), .ref (ad 6), .ref (ad 7), .ref (ad 8), .ref (ad 9), .ref (ad 10)])), (ad 10, .inl (y 0, 9, .inl (d.2 6))), (ad 12, .inl (y 0, 6, .inl (d.2 8))), (h, .inr (7, [.int sd, .int sw, .int sl, .ref (sa 0), .ref (sa 1), .ref (sa 2), .ref (sa 3), .ref (sa 4), .ref (sa 5), .ref (sa 6)])), (sa 0, .inl (y 0, 9, .inl f0)), (ad 0, .inr (2, [.int (d.1 0), .int (d.1 1), .int (d.1 2), .int (d.1 3), .ref (ad 1), .int (d.1 4), .ref (ad 11), .ref (ad 12), .ref (ad 2), .ref (ad 3), .int (d.1 5), .int (d.1 6), .int (d.1 7), .int (d.1 8)]))]) rfl ?_
                  refine j_if_eq (pc := 80) C (tgt := 109) d_Days_allows_80 (by decide) (fun c59 => ?_) (fun c59 => ?_)
                  · refine j_iconst (pc := 109) C (v := 0) d_Days_allows_109 (by decide) ?_
                    exact j_iret (pc := 110) C hr (by decide) () (by decide) [5, 0, 1, 2, 3, 4] rfl (by decide) (by decide) (by decide) d_Days_allows_110
                  · refine j_iload (pc := 83) C d_Days_allows_83 0 rfl ?_
                    refine j_iconst (pc := 85) C (v := (-1)) d_Days_allows_85 (by decide) ?_
                    refine j_icmp_eqT (pc := 86) C (tgt := 105) d_Days_allows_86 (by decide) (by decide) ?_
                    refine j_iconst (pc := 105) C (v := 1) d_Days_allows_105 (by decide) ?_
                    refine j_goto (pc := 106) C (tgt := 110) d_Days_allows_106 (by decide) ?_
                    exact j_iret (pc := 110) C hr (by decide) () (by decide) [5, 0, 1, 2, 3, 4] rfl (by decide) (by decide) (by decide) d_Days_allows_110
                · refine j_iald (pc := 64) C 1 rfl (v := nI q55) (vp_in_nI (by omega) (by decide)) (by rw [nI_clamp (by omega)]; exact e57) d_Days_allows_64 ?_
                  refine j_istore (pc := 65) C (lv' := [(6, .int (nI q55)), (5, .int (nI q52)), (0, .ref (ad 0)), (1, .ref h), (2, .int (nI j35)), (3, .int v), (4, .int vc)]) d_Days_allows_65 (by decide) rfl ?_
                  refine j_aload_n (pc := 67) C d_Days_allows_67 rfl 3 rfl ?_
                  refine j_get (pc := 68) C gf_Days_34 3 rfl rfl d_Days_allows_68 ?_
                  refine j_iload (pc := 71) C d_Days_allows_71 1 rfl ?_
                  refine j_iald (pc := 73) C 4 rfl (v := f0 (nI q52).toNatClampNeg) (vp_in_nI (by omega) (by decide)) rfl d_Days_allows_73 ?_
                  refine j_iload_n (pc := 74) C d_Days_allows_74 rfl 5 rfl ?_
                  refine j_iload (pc := 75) C d_Days_allows_75 6 rfl ?_
                  refine j_callSi (pc := 77) C (c_fits l D y (f0 (nI q52).toNatClampNeg) v vc) kw_Days_37 ks_Days_fits ⟨by decide, by decide⟩ ⟨by decide, by decide⟩ (wr := [(ad 1, .inr (1, [.int (d.1 9), .ref (ad 4), .ref (ad 5), .ref (ad 6), .ref (ad 7), .ref (ad 8), .ref (ad 9), .ref (ad 10)])), (ad 10, .inl (y 0, 9, .inl (d.2 6))), (ad 12, .inl (y 0, 6, .inl (d.2 8))), (h, .inr (7, [.int sd, .int sw, .int sl, .ref (sa 0), .ref (sa 1), .ref (sa 2), .ref (sa 3), .ref (sa 4), .ref (sa 5), .ref (sa 6)])), (sa 0, .inl (y 0, 9, .inl f0)), (ad 0, .inr (2, [.int (d.1 0), .int (d.1 1), .int (d.1 2), .int (d.1 3), .ref (ad 1), .int (d.1 4), .ref (ad 11), .ref (ad 12), .ref (ad 2), .ref (ad 3), .int (d.1 5), .int (d.1 6), .int (d.1 7), .int (d.1 8)]))]) [] [0, 1, 2, 3, 4, 5] rfl rfl (by decide) (by decide) (by decide) (As := [.int (f0 (nI q52).toNatClampNeg), .int v, .int vc]) (rest := []) rfl (nb rfl) rfl d_Days_allows_77 (fun r60 _ hr60 => ?_)
                  refine j_ws (ws' := [(ad 1, .inr (1, [.int (d.1 9), .ref (ad 4), .ref (ad 5), .ref (ad 6), .ref (ad 7), .ref (ad 8), .ref (ad 9), .ref (ad 10)])), (ad 10, .inl (y 0, 9, .inl (d.2 6))), (ad 12, .inl (y 0, 6, .inl (d.2 8))), (h, .inr (7, [.int sd, .int sw, .int sl, .ref (sa 0), .ref (sa 1), .ref (sa 2), .ref (sa 3), .ref (sa 4), .ref (sa 5), .ref (sa 6)])), (sa 0, .inl (y 0, 9, .inl f0)), (ad 0, .inr (2, [.int (d.1 0), .int (d.1 1), .int (d.1 2), .int (d.1 3), .ref (ad 1), .int (d.1 4), .ref (ad 11), .ref (ad 12), .ref (ad 2), .ref (ad 3), .int (d.1 5), .int (d.1 6), .int (d.1 7), .int (d.1 8)]))]) rfl ?_
                  refine j_if_eq (pc := 80) C (tgt := 109) d_Days_allows_80 (by decide) (fun c61 => ?_) (fun c61 => ?_)
                  · refine j_iconst (pc := 109) C (v := 0) d_Days_allows_109 (by decide) ?_
                    exact j_iret (pc := 110) C hr (by decide) () (by decide) [5, 0, 1, 2, 3, 4] rfl (by decide) (by decide) (by decide) d_Days_allows_110
                  · refine j_iload (pc := 83) C d_Days_allows_83 0 rfl ?_
                    refine j_iconst (pc := 85) C (v := (-1)) d_Days_allows_85 (by decide) ?_
                    refine j_icmp_eqF (pc := 86) C (tgt := 105) d_Days_allows_86 (by decide) (nI_nm1 (by omega)) ?_
                    refine j_aload_n (pc := 89) C d_Days_allows_89 rfl 3 rfl ?_
                    refine j_get (pc := 90) C gf_Days_34 3 rfl rfl d_Days_allows_90 ?_
                    refine j_iload (pc := 93) C d_Days_allows_93 0 rfl ?_
                    refine j_iald (pc := 95) C 4 rfl (v := f0 (nI q55).toNatClampNeg) (vp_in_nI (by omega) (by decide)) rfl d_Days_allows_95 ?_
                    refine j_iload_n (pc := 96) C d_Days_allows_96 rfl 5 rfl ?_
                    refine j_iload (pc := 97) C d_Days_allows_97 6 rfl ?_
                    refine j_callSi (pc := 99) C (c_fits l D y (f0 (nI q55).toNatClampNeg) v vc) kw_Days_37 ks_Days_fits ⟨by decide, by decide⟩ ⟨by decide, by decide⟩ (wr := [(ad 1, .inr (1, [.int (d.1 9), .ref (ad 4), .ref (ad 5), .ref (ad 6), .ref (ad 7), .ref (ad 8), .ref (ad 9), .ref (ad 10)])), (ad 10, .inl (y 0, 9, .inl (d.2 6))), (ad 12, .inl (y 0, 6, .inl (d.2 8))), (h, .inr (7, [.int sd, .int sw, .int sl, .ref (sa 0), .ref (sa 1), .ref (sa 2), .ref (sa 3), .ref (sa 4), .ref (sa 5), .ref (sa 6)])), (sa 0, .inl (y 0, 9, .inl f0)), (ad 0, .inr (2, [.int (d.1 0), .int (d.1 1), .int (d.1 2), .int (d.1 3), .ref (ad 1), .int (d.1 4), .ref (ad 11), .ref (ad 12), .ref (ad 2), .ref (ad 3), .int (d.1 5), .int (d.1 6), .int (d.1 7), .int (d.1 8)]))]) [] [0, 1, 2, 3, 4, 5] rfl rfl (by decide) (by decide) (by decide) (As := [.int (f0 (nI q55).toNatClampNeg), .int v, .int vc]) (rest := []) rfl (nb rfl) rfl d_Days_allows_99 (fun r62 _ hr62 => ?_)
                    refine j_ws (ws' := [(ad 1, .inr (1, [.int (d.1 9), .ref (ad 4), .ref (ad 5), .ref (ad 6), .ref (ad 7), .ref (ad 8), .ref (ad 9), .ref (ad 10)])), (ad 10, .inl (y 0, 9, .inl (d.2 6))), (ad 12, .inl (y 0, 6, .inl (d.2 8))), (h, .inr (7, [.int sd, .int sw, .int sl, .ref (sa 0), .ref (sa 1), .ref (sa 2), .ref (sa 3), .ref (sa 4), .ref (sa 5), .ref (sa 6)])), (sa 0, .inl (y 0, 9, .inl f0)), (ad 0, .inr (2, [.int (d.1 0), .int (d.1 1), .int (d.1 2), .int (d.1 3), .ref (ad 1), .int (d.1 4), .ref (ad 11), .ref (ad 12), .ref (ad 2), .ref (ad 3), .int (d.1 5), .int (d.1 6), .int (d.1 7), .int (d.1 8)]))]) rfl ?_
                    refine j_if_eq (pc := 102) C (tgt := 109) d_Days_allows_102 (by decide) (fun c63 => ?_) (fun c63 => ?_)
                    · refine j_iconst (pc := 109) C (v := 0) d_Days_allows_109 (by decide) ?_
                      exact j_iret (pc := 110) C hr (by decide) () (by decide) [5, 0, 1, 2, 3, 4] rfl (by decide) (by decide) (by decide) d_Days_allows_110
                    · refine j_iconst (pc := 105) C (v := 1) d_Days_allows_105 (by decide) ?_
                      refine j_goto (pc := 106) C (tgt := 110) d_Days_allows_106 (by decide) ?_
                      exact j_iret (pc := 110) C hr (by decide) () (by decide) [5, 0, 1, 2, 3, 4] rfl (by decide) (by decide) (by decide) d_Days_allows_110
              · refine j_iconst (pc := 45) C (v := 0) d_Days_allows_45 (by decide) ?_
                exact j_iret (pc := 46) C hr (by decide) () (by decide) [5, 0, 1, 2, 3, 4] rfl (by decide) (by decide) (by decide) d_Days_allows_46
          · refine j_iconst (pc := 30) C (v := 0) d_Days_allows_30 (by decide) ?_
            exact j_iret (pc := 31) C hr (by decide) () (by decide) [5, 0, 1, 2, 3, 4] rfl (by decide) (by decide) (by decide) d_Days_allows_31
  · refine j_iconst (pc := 4) C (v := 1) d_Days_allows_4 (by decide) ?_
    exact j_iret (pc := 5) C hr (by decide) () (by decide) [0, 1, 2, 3, 4, 5] rfl (by decide) (by decide) (by decide) d_Days_allows_5
theorem d_Days_allowedBits_0 : decode prog_3_method_4_code 0 = .ok (.iconst 0, 1) := by decide +kernel
theorem d_Days_allowedBits_1 : decode prog_3_method_4_code 1 = .ok (.istore_n 3, 1) := by decide +kernel
theorem d_Days_allowedBits_2 : decode prog_3_method_4_code 2 = .ok (.iconst 0, 1) := by decide +kernel
theorem d_Days_allowedBits_3 : decode prog_3_method_4_code 3 = .ok (.istore 4, 2) := by decide +kernel
theorem d_Days_allowedBits_5 : decode prog_3_method_4_code 5 = .ok (.iload 4, 2) := by decide +kernel
theorem d_Days_allowedBits_7 : decode prog_3_method_4_code 7 = .ok (.iconst 3, 1) := by decide +kernel
theorem d_Days_allowedBits_8 : decode prog_3_method_4_code 8 = .ok (.if_icmp .ge 32, 3) := by decide +kernel
theorem d_Days_allowedBits_11 : decode prog_3_method_4_code 11 = .ok (.iload_n 3, 1) := by decide +kernel
theorem d_Days_allowedBits_12 : decode prog_3_method_4_code 12 = .ok (.aload_n 0, 1) := by decide +kernel
theorem d_Days_allowedBits_13 : decode prog_3_method_4_code 13 = .ok (.aload_n 1, 1) := by decide +kernel
theorem d_Days_allowedBits_14 : decode prog_3_method_4_code 14 = .ok (.iload_n 2, 1) := by decide +kernel
theorem d_Days_allowedBits_15 : decode prog_3_method_4_code 15 = .ok (.iload 4, 2) := by decide +kernel
theorem d_Days_allowedBits_17 : decode prog_3_method_4_code 17 = .ok (.iconst 0, 1) := by decide +kernel
theorem d_Days_allowedBits_18 : decode prog_3_method_4_code 18 = .ok (.invokestatic 43, 3) := by decide +kernel
theorem kw_Days_43 : KW "NineBoards$Days" 43 ⟨"NineBoards$Days", "allows", "(LNineBoards$Lake;LNineBoards$State;III)Z"⟩ prog_3_method_2_code 7 (some .boolean) 5 := ⟨(mt_4 (List.mem_of_getElem? (i := 37) rfl) rfl), (mt_1 (List.mem_of_getElem? (i := 18) rfl) rfl), (mt_4 (List.mem_of_getElem? (i := 39) rfl) rfl), by decide +kernel⟩
theorem ks_Days_allows : Cond.static ⟨"NineBoards$Days", "allows", "(LNineBoards$Lake;LNineBoards$State;III)Z"⟩ ∈ TB := (mt_4 (List.mem_of_getElem? (i := 38) rfl) rfl)
theorem d_Days_allowedBits_21 : decode prog_3_method_4_code 21 = .ok (.ifCond .eq 10, 3) := by decide +kernel
theorem d_Days_allowedBits_31 : decode prog_3_method_4_code 31 = .ok (.iconst 0, 1) := by decide +kernel
theorem d_Days_allowedBits_32 : decode prog_3_method_4_code 32 = .ok (.ior, 1) := by decide +kernel
theorem d_Days_allowedBits_33 : decode prog_3_method_4_code 33 = .ok (.istore_n 3, 1) := by decide +kernel
theorem d_Days_allowedBits_34 : decode prog_3_method_4_code 34 = .ok (.iinc 4 1, 3) := by decide +kernel
theorem d_Days_allowedBits_37 : decode prog_3_method_4_code 37 = .ok (.goto (-32), 3) := by decide +kernel
theorem d_Days_allowedBits_40 : decode prog_3_method_4_code 40 = .ok (.iload_n 3, 1) := by decide +kernel
theorem d_Days_allowedBits_41 : decode prog_3_method_4_code 41 = .ok (.ireturn, 1) := by decide +kernel
theorem d_Days_allowedBits_24 : decode prog_3_method_4_code 24 = .ok (.iconst 1, 1) := by decide +kernel
theorem d_Days_allowedBits_25 : decode prog_3_method_4_code 25 = .ok (.iload 4, 2) := by decide +kernel
theorem d_Days_allowedBits_27 : decode prog_3_method_4_code 27 = .ok (.ishl, 1) := by decide +kernel
theorem d_Days_allowedBits_28 : decode prog_3_method_4_code 28 = .ok (.goto 4, 3) := by decide +kernel
set_option maxHeartbeats 4000000 in
set_option maxRecDepth 100000 in
theorem c_allowedBits (l : Launch) (D : va_G) (y : Nat → ClassId) (ad : Nat → Nat) (d : LD) (n4 : Nat) (h : Nat) (sa : Nat → Nat) (sd : Int32) (sw : Int32) (sl : Int32) (f0 : Nat → Int32) (va : Int32) (h4 : d.1 4 = nI n4) (b4 : n4 ≤ 6) (hJ : ∀ j, j < 9 → d.2 6 j = -1 ∨ ∃ q, q < 9 ∧ d.2 6 j = nI q) (hV : ∀ j, j < n4 → ∃ q, q < 9 ∧ d.2 8 j = nI q) : CT l D y ⟨"NineBoards$Days", "allowedBits", "(LNineBoards$Lake;LNineBoards$State;I)I"⟩ prog_3_method_4_code 5 (some .int) ({ frames := 2, cells := 0, slots := 0, locals := 50 } : Room) [.ref (ad 0), .ref h, .int va] [(ad 0, .inr (2, [.int (d.1 0), .int (d.1 1), .int (d.1 2), .int (d.1 3), .ref (ad 1), .int (d.1 4), .ref (ad 11), .ref (ad 12), .ref (ad 2), .ref (ad 3), .int (d.1 5), .int (d.1 6), .int (d.1 7), .int (d.1 8)])), (ad 1, .inr (1, [.int (d.1 9), .ref (ad 4), .ref (ad 5), .ref (ad 6), .ref (ad 7), .ref (ad 8), .ref (ad 9), .ref (ad 10)])), (ad 10, .inl (y 0, 9, .inl (d.2 6))), (ad 12, .inl (y 0, 6, .inl (d.2 8))), (h, .inr (7, [.int sd, .int sw, .int sl, .ref (sa 0), .ref (sa 1), .ref (sa 2), .ref (sa 3), .ref (sa 4), .ref (sa 5), .ref (sa 6)])), (sa 0, .inl (y 0, 9, .inl f0))] (QI D [(ad 0, .inr (2, [.int (d.1 0), .int (d.1 1), .int (d.1 2), .int (d.1 3), .ref (ad 1), .int (d.1 4), .ref (ad 11), .ref (ad 12), .ref (ad 2), .ref (ad 3), .int (d.1 5), .int (d.1 6), .int (d.1 7), .int (d.1 8)])), (ad 1, .inr (1, [.int (d.1 9), .ref (ad 4), .ref (ad 5), .ref (ad 6), .ref (ad 7), .ref (ad 8), .ref (ad 9), .ref (ad 10)])), (ad 10, .inl (y 0, 9, .inl (d.2 6))), (ad 12, .inl (y 0, 6, .inl (d.2 8))), (h, .inr (7, [.int sd, .int sw, .int sl, .ref (sa 0), .ref (sa 1), .ref (sa 2), .ref (sa 3), .ref (sa 4), .ref (sa 5), .ref (sa 6)])), (sa 0, .inl (y 0, 9, .inl f0))] (fun (r : Int32) (u : Unit) => True) (fun _ => [(ad 0, .inr (2, [.int (d.1 0), .int (d.1 1), .int (d.1 2), .int (d.1 3), .ref (ad 1), .int (d.1 4), .ref (ad 11), .ref (ad 12), .ref (ad 2), .ref (ad 3), .int (d.1 5), .int (d.1 6), .int (d.1 7), .int (d.1 8)])), (ad 1, .inr (1, [.int (d.1 9), .ref (ad 4), .ref (ad 5), .ref (ad 6), .ref (ad 7), .ref (ad 8), .ref (ad 9), .ref (ad 10)])), (ad 10, .inl (y 0, 9, .inl (d.2 6))), (ad 12, .inl (y 0, 6, .inl (d.2 8))), (h, .inr (7, [.int sd, .int sw, .int sl, .ref (sa 0), .ref (sa 1), .ref (sa 2), .ref (sa 3), .ref (sa 4), .ref (sa 5), .ref (sa 6)])), (sa 0, .inl (y 0, 9, .inl f0))])) := by
  refine CT.of (by decide) (nb rfl) ?_
  intro p e s m args below meth c C hr
  refine j_lv (lv' := [(0, .ref (ad 0)), (1, .ref h), (2, .int va)]) rfl ?_
  refine j_iconst (pc := 0) C (v := 0) d_Days_allowedBits_0 (by decide) ?_
  refine j_istore_n (pc := 1) C (lv' := [(3, .int 0), (0, .ref (ad 0)), (1, .ref h), (2, .int va)]) d_Days_allowedBits_1 rfl (by decide) rfl ?_
  refine j_iconst (pc := 2) C (v := 0) d_Days_allowedBits_2 (by decide) ?_
  refine j_istore (pc := 3) C (lv' := [(4, .int 0), (3, .int 0), (0, .ref (ad 0)), (1, .ref h), (2, .int va)]) d_Days_allowedBits_3 (by decide) rfl ?_
  refine j_iload (pc := 5) C d_Days_allowedBits_5 0 rfl ?_
  refine j_iconst (pc := 7) C (v := 3) d_Days_allowedBits_7 (by decide) ?_
  refine j_icmp_geF (pc := 8) C (tgt := 40) d_Days_allowedBits_8 (by decide) (by decide) ?_
  refine j_iload_n (pc := 11) C d_Days_allowedBits_11 rfl 1 rfl ?_
  refine j_aload_n (pc := 12) C d_Days_allowedBits_12 rfl 2 rfl ?_
  refine j_aload_n (pc := 13) C d_Days_allowedBits_13 rfl 3 rfl ?_
  refine j_iload_n (pc := 14) C d_Days_allowedBits_14 rfl 4 rfl ?_
  refine j_iload (pc := 15) C d_Days_allowedBits_15 0 rfl ?_
  refine j_iconst (pc := 17) C (v := 0) d_Days_allowedBits_17 (by decide) ?_
  refine j_callSi (pc := 18) C (c_allows l D y ad d n4 h sa sd sw sl f0 va 0 0 h4 b4 hJ hV) kw_Days_43 ks_Days_allows ⟨by decide, by decide⟩ ⟨by decide, by decide⟩ (wr := []) [0, 1, 2, 3, 4, 5] [] rfl rfl (by decide) (by decide) (by decide) (As := [.ref (ad 0), .ref h, .int va, .int 0, .int 0]) (rest := [.int 0]) rfl (nb rfl) rfl d_Days_allowedBits_18 (fun r1 _ hr1 => ?_)
  refine j_ws (ws' := [(ad 0, .inr (2, [.int (d.1 0), .int (d.1 1), .int (d.1 2), .int (d.1 3), .ref (ad 1), .int (d.1 4), .ref (ad 11), .ref (ad 12), .ref (ad 2), .ref (ad 3), .int (d.1 5), .int (d.1 6), .int (d.1 7), .int (d.1 8)])), (ad 1, .inr (1, [.int (d.1 9), .ref (ad 4), .ref (ad 5), .ref (ad 6), .ref (ad 7), .ref (ad 8), .ref (ad 9), .ref (ad 10)])), (ad 10, .inl (y 0, 9, .inl (d.2 6))), (ad 12, .inl (y 0, 6, .inl (d.2 8))), (h, .inr (7, [.int sd, .int sw, .int sl, .ref (sa 0), .ref (sa 1), .ref (sa 2), .ref (sa 3), .ref (sa 4), .ref (sa 5), .ref (sa 6)])), (sa 0, .inl (y 0, 9, .inl f0))]) rfl ?_
  refine j_if_eq (pc := 21) C (tgt := 31) d_Days_allowedBits_21 (by decide) (fun c2 => ?_) (fun c2 => ?_)
  · refine j_iconst (pc := 31) C (v := 0) d_Days_allowedBits_31 (by decide) ?_
    refine j_ior (pc := 32) C (v := 0) d_Days_allowedBits_32 (by decide) ?_
    refine j_istore_n (pc := 33) C (lv' := [(3, .int 0), (4, .int 0), (0, .ref (ad 0)), (1, .ref h), (2, .int va)]) d_Days_allowedBits_33 rfl (by decide) rfl ?_
    refine j_iinc (pc := 34) C (v := 1) (lv' := [(4, .int 1), (3, .int 0), (0, .ref (ad 0)), (1, .ref h), (2, .int va)]) d_Days_allowedBits_34 1 rfl (by decide) (by decide) rfl ?_
    refine j_goto (pc := 37) C (tgt := 5) d_Days_allowedBits_37 (by decide) ?_
    refine j_iload (pc := 5) C d_Days_allowedBits_5 0 rfl ?_
    refine j_iconst (pc := 7) C (v := 3) d_Days_allowedBits_7 (by decide) ?_
    refine j_icmp_geF (pc := 8) C (tgt := 40) d_Days_allowedBits_8 (by decide) (by decide) ?_
    refine j_iload_n (pc := 11) C d_Days_allowedBits_11 rfl 1 rfl ?_
    refine j_aload_n (pc := 12) C d_Days_allowedBits_12 rfl 2 rfl ?_
    refine j_aload_n (pc := 13) C d_Days_allowedBits_13 rfl 3 rfl ?_
    refine j_iload_n (pc := 14) C d_Days_allowedBits_14 rfl 4 rfl ?_
    refine j_iload (pc := 15) C d_Days_allowedBits_15 0 rfl ?_
    refine j_iconst (pc := 17) C (v := 0) d_Days_allowedBits_17 (by decide) ?_
    refine j_callSi (pc := 18) C (c_allows l D y ad d n4 h sa sd sw sl f0 va 1 0 h4 b4 hJ hV) kw_Days_43 ks_Days_allows ⟨by decide, by decide⟩ ⟨by decide, by decide⟩ (wr := []) [0, 1, 2, 3, 4, 5] [] rfl rfl (by decide) (by decide) (by decide) (As := [.ref (ad 0), .ref h, .int va, .int 1, .int 0]) (rest := [.int 0]) rfl (nb rfl) rfl d_Days_allowedBits_18 (fun r3 _ hr3 => ?_)
    refine j_ws (ws' := [(ad 0, .inr (2, [.int (d.1 0), .int (d.1 1), .int (d.1 2), .int (d.1 3), .ref (ad 1), .int (d.1 4), .ref (ad 11), .ref (ad 12), .ref (ad 2), .ref (ad 3), .int (d.1 5), .int (d.1 6), .int (d.1 7), .int (d.1 8)])), (ad 1, .inr (1, [.int (d.1 9), .ref (ad 4), .ref (ad 5), .ref (ad 6), .ref (ad 7), .ref (ad 8), .ref (ad 9), .ref (ad 10)])), (ad 10, .inl (y 0, 9, .inl (d.2 6))), (ad 12, .inl (y 0, 6, .inl (d.2 8))), (h, .inr (7, [.int sd, .int sw, .int sl, .ref (sa 0), .ref (sa 1), .ref (sa 2), .ref (sa 3), .ref (sa 4), .ref (sa 5), .ref (sa 6)])), (sa 0, .inl (y 0, 9, .inl f0))]) rfl ?_
    refine j_if_eq (pc := 21) C (tgt := 31) d_Days_allowedBits_21 (by decide) (fun c4 => ?_) (fun c4 => ?_)
    · refine j_iconst (pc := 31) C (v := 0) d_Days_allowedBits_31 (by decide) ?_
      refine j_ior (pc := 32) C (v := 0) d_Days_allowedBits_32 (by decide) ?_
      refine j_istore_n (pc := 33) C (lv' := [(3, .int 0), (4, .int 1), (0, .ref (ad 0)), (1, .ref h), (2, .int va)]) d_Days_allowedBits_33 rfl (by decide) rfl ?_
      refine j_iinc (pc := 34) C (v := 2) (lv' := [(4, .int 2), (3, .int 0), (0, .ref (ad 0)), (1, .ref h), (2, .int va)]) d_Days_allowedBits_34 1 rfl (by decide) (by decide) rfl ?_
      refine j_goto (pc := 37) C (tgt := 5) d_Days_allowedBits_37 (by decide) ?_
      refine j_iload (pc := 5) C d_Days_allowedBits_5 0 rfl ?_
      refine j_iconst (pc := 7) C (v := 3) d_Days_allowedBits_7 (by decide) ?_
      refine j_icmp_geF (pc := 8) C (tgt := 40) d_Days_allowedBits_8 (by decide) (by decide) ?_
      refine j_iload_n (pc := 11) C d_Days_allowedBits_11 rfl 1 rfl ?_
      refine j_aload_n (pc := 12) C d_Days_allowedBits_12 rfl 2 rfl ?_
      refine j_aload_n (pc := 13) C d_Days_allowedBits_13 rfl 3 rfl ?_
      refine j_iload_n (pc := 14) C d_Days_allowedBits_14 rfl 4 rfl ?_
      refine j_iload (pc := 15) C d_Days_allowedBits_15 0 rfl ?_
      refine j_iconst (pc := 17) C (v := 0) d_Days_allowedBits_17 (by decide) ?_
      refine j_callSi (pc := 18) C (c_allows l D y ad d n4 h sa sd sw sl f0 va 2 0 h4 b4 hJ hV) kw_Days_43 ks_Days_allows ⟨by decide, by decide⟩ ⟨by decide, by decide⟩ (wr := []) [0, 1, 2, 3, 4, 5] [] rfl rfl (by decide) (by decide) (by decide) (As := [.ref (ad 0), .ref h, .int va, .int 2, .int 0]) (rest := [.int 0]) rfl (nb rfl) rfl d_Days_allowedBits_18 (fun r5 _ hr5 => ?_)
      refine j_ws (ws' := [(ad 0, .inr (2, [.int (d.1 0), .int (d.1 1), .int (d.1 2), .int (d.1 3), .ref (ad 1), .int (d.1 4), .ref (ad 11), .ref (ad 12), .ref (ad 2), .ref (ad 3), .int (d.1 5), .int (d.1 6), .int (d.1 7), .int (d.1 8)])), (ad 1, .inr (1, [.int (d.1 9), .ref (ad 4), .ref (ad 5), .ref (ad 6), .ref (ad 7), .ref (ad 8), .ref (ad 9), .ref (ad 10)])), (ad 10, .inl (y 0, 9, .inl (d.2 6))), (ad 12, .inl (y 0, 6, .inl (d.2 8))), (h, .inr (7, [.int sd, .int sw, .int sl, .ref (sa 0), .ref (sa 1), .ref (sa 2), .ref (sa 3), .ref (sa 4), .ref (sa 5), .ref (sa 6)])), (sa 0, .inl (y 0, 9, .inl f0))]) rfl ?_
      refine j_if_eq (pc := 21) C (tgt := 31) d_Days_allowedBits_21 (by decide) (fun c6 => ?_) (fun c6 => ?_)
      · refine j_iconst (pc := 31) C (v := 0) d_Days_allowedBits_31 (by decide) ?_
        refine j_ior (pc := 32) C (v := 0) d_Days_allowedBits_32 (by decide) ?_
        refine j_istore_n (pc := 33) C (lv' := [(3, .int 0), (4, .int 2), (0, .ref (ad 0)), (1, .ref h), (2, .int va)]) d_Days_allowedBits_33 rfl (by decide) rfl ?_
        refine j_iinc (pc := 34) C (v := 3) (lv' := [(4, .int 3), (3, .int 0), (0, .ref (ad 0)), (1, .ref h), (2, .int va)]) d_Days_allowedBits_34 1 rfl (by decide) (by decide) rfl ?_
        refine j_goto (pc := 37) C (tgt := 5) d_Days_allowedBits_37 (by decide) ?_
        refine j_iload (pc := 5) C d_Days_allowedBits_5 0 rfl ?_
        refine j_iconst (pc := 7) C (v := 3) d_Days_allowedBits_7 (by decide) ?_
        refine j_icmp_geT (pc := 8) C (tgt := 40) d_Days_allowedBits_8 (by decide) (by decide) ?_
        refine j_iload_n (pc := 40) C d_Days_allowedBits_40 rfl 1 rfl ?_
        exact j_iret (pc := 41) C hr rfl () trivial [0, 1, 2, 3, 4, 5] rfl (by decide) (by decide) (by decide) d_Days_allowedBits_41
      · refine j_iconst (pc := 24) C (v := 1) d_Days_allowedBits_24 (by decide) ?_
        refine j_iload (pc := 25) C d_Days_allowedBits_25 0 rfl ?_
        refine j_ishl (pc := 27) C (v := 4) d_Days_allowedBits_27 (by decide) ?_
        refine j_goto (pc := 28) C (tgt := 32) d_Days_allowedBits_28 (by decide) ?_
        refine j_ior (pc := 32) C (v := 4) d_Days_allowedBits_32 (by decide) ?_
        refine j_istore_n (pc := 33) C (lv' := [(3, .int 4), (4, .int 2), (0, .ref (ad 0)), (1, .ref h), (2, .int va)]) d_Days_allowedBits_33 rfl (by decide) rfl ?_
        refine j_iinc (pc := 34) C (v := 3) (lv' := [(4, .int 3), (3, .int 4), (0, .ref (ad 0)), (1, .ref h), (2, .int va)]) d_Days_allowedBits_34 1 rfl (by decide) (by decide) rfl ?_
        refine j_goto (pc := 37) C (tgt := 5) d_Days_allowedBits_37 (by decide) ?_
        refine j_iload (pc := 5) C d_Days_allowedBits_5 0 rfl ?_
        refine j_iconst (pc := 7) C (v := 3) d_Days_allowedBits_7 (by decide) ?_
        refine j_icmp_geT (pc := 8) C (tgt := 40) d_Days_allowedBits_8 (by decide) (by decide) ?_
        refine j_iload_n (pc := 40) C d_Days_allowedBits_40 rfl 1 rfl ?_
        exact j_iret (pc := 41) C hr rfl () trivial [0, 1, 2, 3, 4, 5] rfl (by decide) (by decide) (by decide) d_Days_allowedBits_41
    · refine j_iconst (pc := 24) C (v := 1) d_Days_allowedBits_24 (by decide) ?_
      refine j_iload (pc := 25) C d_Days_allowedBits_25 0 rfl ?_
      refine j_ishl (pc := 27) C (v := 2) d_Days_allowedBits_27 (by decide) ?_
      refine j_goto (pc := 28) C (tgt := 32) d_Days_allowedBits_28 (by decide) ?_
      refine j_ior (pc := 32) C (v := 2) d_Days_allowedBits_32 (by decide) ?_
      refine j_istore_n (pc := 33) C (lv' := [(3, .int 2), (4, .int 1), (0, .ref (ad 0)), (1, .ref h), (2, .int va)]) d_Days_allowedBits_33 rfl (by decide) rfl ?_
      refine j_iinc (pc := 34) C (v := 2) (lv' := [(4, .int 2), (3, .int 2), (0, .ref (ad 0)), (1, .ref h), (2, .int va)]) d_Days_allowedBits_34 1 rfl (by decide) (by decide) rfl ?_
      refine j_goto (pc := 37) C (tgt := 5) d_Days_allowedBits_37 (by decide) ?_
      refine j_iload (pc := 5) C d_Days_allowedBits_5 0 rfl ?_
      refine j_iconst (pc := 7) C (v := 3) d_Days_allowedBits_7 (by decide) ?_
      refine j_icmp_geF (pc := 8) C (tgt := 40) d_Days_allowedBits_8 (by decide) (by decide) ?_
      refine j_iload_n (pc := 11) C d_Days_allowedBits_11 rfl 1 rfl ?_
      refine j_aload_n (pc := 12) C d_Days_allowedBits_12 rfl 2 rfl ?_
      refine j_aload_n (pc := 13) C d_Days_allowedBits_13 rfl 3 rfl ?_
      refine j_iload_n (pc := 14) C d_Days_allowedBits_14 rfl 4 rfl ?_
      refine j_iload (pc := 15) C d_Days_allowedBits_15 0 rfl ?_
      refine j_iconst (pc := 17) C (v := 0) d_Days_allowedBits_17 (by decide) ?_
      refine j_callSi (pc := 18) C (c_allows l D y ad d n4 h sa sd sw sl f0 va 2 0 h4 b4 hJ hV) kw_Days_43 ks_Days_allows ⟨by decide, by decide⟩ ⟨by decide, by decide⟩ (wr := []) [0, 1, 2, 3, 4, 5] [] rfl rfl (by decide) (by decide) (by decide) (As := [.ref (ad 0), .ref h, .int va, .int 2, .int 0]) (rest := [.int 2]) rfl (nb rfl) rfl d_Days_allowedBits_18 (fun r7 _ hr7 => ?_)
      refine j_ws (ws' := [(ad 0, .inr (2, [.int (d.1 0), .int (d.1 1), .int (d.1 2), .int (d.1 3), .ref (ad 1), .int (d.1 4), .ref (ad 11), .ref (ad 12), .ref (ad 2), .ref (ad 3), .int (d.1 5), .int (d.1 6), .int (d.1 7), .int (d.1 8)])), (ad 1, .inr (1, [.int (d.1 9), .ref (ad 4), .ref (ad 5), .ref (ad 6), .ref (ad 7), .ref (ad 8), .ref (ad 9), .ref (ad 10)])), (ad 10, .inl (y 0, 9, .inl (d.2 6))), (ad 12, .inl (y 0, 6, .inl (d.2 8))), (h, .inr (7, [.int sd, .int sw, .int sl, .ref (sa 0), .ref (sa 1), .ref (sa 2), .ref (sa 3), .ref (sa 4), .ref (sa 5), .ref (sa 6)])), (sa 0, .inl (y 0, 9, .inl f0))]) rfl ?_
      refine j_if_eq (pc := 21) C (tgt := 31) d_Days_allowedBits_21 (by decide) (fun c8 => ?_) (fun c8 => ?_)
      · refine j_iconst (pc := 31) C (v := 0) d_Days_allowedBits_31 (by decide) ?_
        refine j_ior (pc := 32) C (v := 2) d_Days_allowedBits_32 (by decide) ?_
        refine j_istore_n (pc := 33) C (lv' := [(3, .int 2), (4, .int 2), (0, .ref (ad 0)), (1, .ref h), (2, .int va)]) d_Days_allowedBits_33 rfl (by decide) rfl ?_
        refine j_iinc (pc := 34) C (v := 3) (lv' := [(4, .int 3), (3, .int 2), (0, .ref (ad 0)), (1, .ref h), (2, .int va)]) d_Days_allowedBits_34 1 rfl (by decide) (by decide) rfl ?_
        refine j_goto (pc := 37) C (tgt := 5) d_Days_allowedBits_37 (by decide) ?_
        refine j_iload (pc := 5) C d_Days_allowedBits_5 0 rfl ?_
        refine j_iconst (pc := 7) C (v := 3) d_Days_allowedBits_7 (by decide) ?_
        refine j_icmp_geT (pc := 8) C (tgt := 40) d_Days_allowedBits_8 (by decide) (by decide) ?_
        refine j_iload_n (pc := 40) C d_Days_allowedBits_40 rfl 1 rfl ?_
        exact j_iret (pc := 41) C hr rfl () trivial [0, 1, 2, 3, 4, 5] rfl (by decide) (by decide) (by decide) d_Days_allowedBits_41
      · refine j_iconst (pc := 24) C (v := 1) d_Days_allowedBits_24 (by decide) ?_
        refine j_iload (pc := 25) C d_Days_allowedBits_25 0 rfl ?_
        refine j_ishl (pc := 27) C (v := 4) d_Days_allowedBits_27 (by decide) ?_
        refine j_goto (pc := 28) C (tgt := 32) d_Days_allowedBits_28 (by decide) ?_
        refine j_ior (pc := 32) C (v := 6) d_Days_allowedBits_32 (by decide) ?_
        refine j_istore_n (pc := 33) C (lv' := [(3, .int 6), (4, .int 2), (0, .ref (ad 0)), (1, .ref h), (2, .int va)]) d_Days_allowedBits_33 rfl (by decide) rfl ?_
        refine j_iinc (pc := 34) C (v := 3) (lv' := [(4, .int 3), (3, .int 6), (0, .ref (ad 0)), (1, .ref h), (2, .int va)]) d_Days_allowedBits_34 1 rfl (by decide) (by decide) rfl ?_
        refine j_goto (pc := 37) C (tgt := 5) d_Days_allowedBits_37 (by decide) ?_
        refine j_iload (pc := 5) C d_Days_allowedBits_5 0 rfl ?_
        refine j_iconst (pc := 7) C (v := 3) d_Days_allowedBits_7 (by decide) ?_
        refine j_icmp_geT (pc := 8) C (tgt := 40) d_Days_allowedBits_8 (by decide) (by decide) ?_
        refine j_iload_n (pc := 40) C d_Days_allowedBits_40 rfl 1 rfl ?_
        exact j_iret (pc := 41) C hr rfl () trivial [0, 1, 2, 3, 4, 5] rfl (by decide) (by decide) (by decide) d_Days_allowedBits_41
  · refine j_iconst (pc := 24) C (v := 1) d_Days_allowedBits_24 (by decide) ?_
    refine j_iload (pc := 25) C d_Days_allowedBits_25 0 rfl ?_
    refine j_ishl (pc := 27) C (v := 1) d_Days_allowedBits_27 (by decide) ?_
    refine j_goto (pc := 28) C (tgt := 32) d_Days_allowedBits_28 (by decide) ?_
    refine j_ior (pc := 32) C (v := 1) d_Days_allowedBits_32 (by decide) ?_
    refine j_istore_n (pc := 33) C (lv' := [(3, .int 1), (4, .int 0), (0, .ref (ad 0)), (1, .ref h), (2, .int va)]) d_Days_allowedBits_33 rfl (by decide) rfl ?_
    refine j_iinc (pc := 34) C (v := 1) (lv' := [(4, .int 1), (3, .int 1), (0, .ref (ad 0)), (1, .ref h), (2, .int va)]) d_Days_allowedBits_34 1 rfl (by decide) (by decide) rfl ?_
    refine j_goto (pc := 37) C (tgt := 5) d_Days_allowedBits_37 (by decide) ?_
    refine j_iload (pc := 5) C d_Days_allowedBits_5 0 rfl ?_
    refine j_iconst (pc := 7) C (v := 3) d_Days_allowedBits_7 (by decide) ?_
    refine j_icmp_geF (pc := 8) C (tgt := 40) d_Days_allowedBits_8 (by decide) (by decide) ?_
    refine j_iload_n (pc := 11) C d_Days_allowedBits_11 rfl 1 rfl ?_
    refine j_aload_n (pc := 12) C d_Days_allowedBits_12 rfl 2 rfl ?_
    refine j_aload_n (pc := 13) C d_Days_allowedBits_13 rfl 3 rfl ?_
    refine j_iload_n (pc := 14) C d_Days_allowedBits_14 rfl 4 rfl ?_
    refine j_iload (pc := 15) C d_Days_allowedBits_15 0 rfl ?_
    refine j_iconst (pc := 17) C (v := 0) d_Days_allowedBits_17 (by decide) ?_
    refine j_callSi (pc := 18) C (c_allows l D y ad d n4 h sa sd sw sl f0 va 1 0 h4 b4 hJ hV) kw_Days_43 ks_Days_allows ⟨by decide, by decide⟩ ⟨by decide, by decide⟩ (wr := []) [0, 1, 2, 3, 4, 5] [] rfl rfl (by decide) (by decide) (by decide) (As := [.ref (ad 0), .ref h, .int va, .int 1, .int 0]) (rest := [.int 1]) rfl (nb rfl) rfl d_Days_allowedBits_18 (fun r9 _ hr9 => ?_)
    refine j_ws (ws' := [(ad 0, .inr (2, [.int (d.1 0), .int (d.1 1), .int (d.1 2), .int (d.1 3), .ref (ad 1), .int (d.1 4), .ref (ad 11), .ref (ad 12), .ref (ad 2), .ref (ad 3), .int (d.1 5), .int (d.1 6), .int (d.1 7), .int (d.1 8)])), (ad 1, .inr (1, [.int (d.1 9), .ref (ad 4), .ref (ad 5), .ref (ad 6), .ref (ad 7), .ref (ad 8), .ref (ad 9), .ref (ad 10)])), (ad 10, .inl (y 0, 9, .inl (d.2 6))), (ad 12, .inl (y 0, 6, .inl (d.2 8))), (h, .inr (7, [.int sd, .int sw, .int sl, .ref (sa 0), .ref (sa 1), .ref (sa 2), .ref (sa 3), .ref (sa 4), .ref (sa 5), .ref (sa 6)])), (sa 0, .inl (y 0, 9, .inl f0))]) rfl ?_
    refine j_if_eq (pc := 21) C (tgt := 31) d_Days_allowedBits_21 (by decide) (fun c10 => ?_) (fun c10 => ?_)
    · refine j_iconst (pc := 31) C (v := 0) d_Days_allowedBits_31 (by decide) ?_
      refine j_ior (pc := 32) C (v := 1) d_Days_allowedBits_32 (by decide) ?_
      refine j_istore_n (pc := 33) C (lv' := [(3, .int 1), (4, .int 1), (0, .ref (ad 0)), (1, .ref h), (2, .int va)]) d_Days_allowedBits_33 rfl (by decide) rfl ?_
      refine j_iinc (pc := 34) C (v := 2) (lv' := [(4, .int 2), (3, .int 1), (0, .ref (ad 0)), (1, .ref h), (2, .int va)]) d_Days_allowedBits_34 1 rfl (by decide) (by decide) rfl ?_
      refine j_goto (pc := 37) C (tgt := 5) d_Days_allowedBits_37 (by decide) ?_
      refine j_iload (pc := 5) C d_Days_allowedBits_5 0 rfl ?_
      refine j_iconst (pc := 7) C (v := 3) d_Days_allowedBits_7 (by decide) ?_
      refine j_icmp_geF (pc := 8) C (tgt := 40) d_Days_allowedBits_8 (by decide) (by decide) ?_
      refine j_iload_n (pc := 11) C d_Days_allowedBits_11 rfl 1 rfl ?_
      refine j_aload_n (pc := 12) C d_Days_allowedBits_12 rfl 2 rfl ?_
      refine j_aload_n (pc := 13) C d_Days_allowedBits_13 rfl 3 rfl ?_
      refine j_iload_n (pc := 14) C d_Days_allowedBits_14 rfl 4 rfl ?_
      refine j_iload (pc := 15) C d_Days_allowedBits_15 0 rfl ?_
      refine j_iconst (pc := 17) C (v := 0) d_Days_allowedBits_17 (by decide) ?_
      refine j_callSi (pc := 18) C (c_allows l D y ad d n4 h sa sd sw sl f0 va 2 0 h4 b4 hJ hV) kw_Days_43 ks_Days_allows ⟨by decide, by decide⟩ ⟨by decide, by decide⟩ (wr := []) [0, 1, 2, 3, 4, 5] [] rfl rfl (by decide) (by decide) (by decide) (As := [.ref (ad 0), .ref h, .int va, .int 2, .int 0]) (rest := [.int 1]) rfl (nb rfl) rfl d_Days_allowedBits_18 (fun r11 _ hr11 => ?_)
      refine j_ws (ws' := [(ad 0, .inr (2, [.int (d.1 0), .int (d.1 1), .int (d.1 2), .int (d.1 3), .ref (ad 1), .int (d.1 4), .ref (ad 11), .ref (ad 12), .ref (ad 2), .ref (ad 3), .int (d.1 5), .int (d.1 6), .int (d.1 7), .int (d.1 8)])), (ad 1, .inr (1, [.int (d.1 9), .ref (ad 4), .ref (ad 5), .ref (ad 6), .ref (ad 7), .ref (ad 8), .ref (ad 9), .ref (ad 10)])), (ad 10, .inl (y 0, 9, .inl (d.2 6))), (ad 12, .inl (y 0, 6, .inl (d.2 8))), (h, .inr (7, [.int sd, .int sw, .int sl, .ref (sa 0), .ref (sa 1), .ref (sa 2), .ref (sa 3), .ref (sa 4), .ref (sa 5), .ref (sa 6)])), (sa 0, .inl (y 0, 9, .inl f0))]) rfl ?_
      refine j_if_eq (pc := 21) C (tgt := 31) d_Days_allowedBits_21 (by decide) (fun c12 => ?_) (fun c12 => ?_)
      · refine j_iconst (pc := 31) C (v := 0) d_Days_allowedBits_31 (by decide) ?_
        refine j_ior (pc := 32) C (v := 1) d_Days_allowedBits_32 (by decide) ?_
        refine j_istore_n (pc := 33) C (lv' := [(3, .int 1), (4, .int 2), (0, .ref (ad 0)), (1, .ref h), (2, .int va)]) d_Days_allowedBits_33 rfl (by decide) rfl ?_
        refine j_iinc (pc := 34) C (v := 3) (lv' := [(4, .int 3), (3, .int 1), (0, .ref (ad 0)), (1, .ref h), (2, .int va)]) d_Days_allowedBits_34 1 rfl (by decide) (by decide) rfl ?_
        refine j_goto (pc := 37) C (tgt := 5) d_Days_allowedBits_37 (by decide) ?_
        refine j_iload (pc := 5) C d_Days_allowedBits_5 0 rfl ?_
        refine j_iconst (pc := 7) C (v := 3) d_Days_allowedBits_7 (by decide) ?_
        refine j_icmp_geT (pc := 8) C (tgt := 40) d_Days_allowedBits_8 (by decide) (by decide) ?_
        refine j_iload_n (pc := 40) C d_Days_allowedBits_40 rfl 1 rfl ?_
        exact j_iret (pc := 41) C hr rfl () trivial [0, 1, 2, 3, 4, 5] rfl (by decide) (by decide) (by decide) d_Days_allowedBits_41
      · refine j_iconst (pc := 24) C (v := 1) d_Days_allowedBits_24 (by decide) ?_
        refine j_iload (pc := 25) C d_Days_allowedBits_25 0 rfl ?_
        refine j_ishl (pc := 27) C (v := 4) d_Days_allowedBits_27 (by decide) ?_
        refine j_goto (pc := 28) C (tgt := 32) d_Days_allowedBits_28 (by decide) ?_
        refine j_ior (pc := 32) C (v := 5) d_Days_allowedBits_32 (by decide) ?_
        refine j_istore_n (pc := 33) C (lv' := [(3, .int 5), (4, .int 2), (0, .ref (ad 0)), (1, .ref h), (2, .int va)]) d_Days_allowedBits_33 rfl (by decide) rfl ?_
        refine j_iinc (pc := 34) C (v := 3) (lv' := [(4, .int 3), (3, .int 5), (0, .ref (ad 0)), (1, .ref h), (2, .int va)]) d_Days_allowedBits_34 1 rfl (by decide) (by decide) rfl ?_
        refine j_goto (pc := 37) C (tgt := 5) d_Days_allowedBits_37 (by decide) ?_
        refine j_iload (pc := 5) C d_Days_allowedBits_5 0 rfl ?_
        refine j_iconst (pc := 7) C (v := 3) d_Days_allowedBits_7 (by decide) ?_
        refine j_icmp_geT (pc := 8) C (tgt := 40) d_Days_allowedBits_8 (by decide) (by decide) ?_
        refine j_iload_n (pc := 40) C d_Days_allowedBits_40 rfl 1 rfl ?_
        exact j_iret (pc := 41) C hr rfl () trivial [0, 1, 2, 3, 4, 5] rfl (by decide) (by decide) (by decide) d_Days_allowedBits_41
    · refine j_iconst (pc := 24) C (v := 1) d_Days_allowedBits_24 (by decide) ?_
      refine j_iload (pc := 25) C d_Days_allowedBits_25 0 rfl ?_
      refine j_ishl (pc := 27) C (v := 2) d_Days_allowedBits_27 (by decide) ?_
      refine j_goto (pc := 28) C (tgt := 32) d_Days_allowedBits_28 (by decide) ?_
      refine j_ior (pc := 32) C (v := 3) d_Days_allowedBits_32 (by decide) ?_
      refine j_istore_n (pc := 33) C (lv' := [(3, .int 3), (4, .int 1), (0, .ref (ad 0)), (1, .ref h), (2, .int va)]) d_Days_allowedBits_33 rfl (by decide) rfl ?_
      refine j_iinc (pc := 34) C (v := 2) (lv' := [(4, .int 2), (3, .int 3), (0, .ref (ad 0)), (1, .ref h), (2, .int va)]) d_Days_allowedBits_34 1 rfl (by decide) (by decide) rfl ?_
      refine j_goto (pc := 37) C (tgt := 5) d_Days_allowedBits_37 (by decide) ?_
      refine j_iload (pc := 5) C d_Days_allowedBits_5 0 rfl ?_
      refine j_iconst (pc := 7) C (v := 3) d_Days_allowedBits_7 (by decide) ?_
      refine j_icmp_geF (pc := 8) C (tgt := 40) d_Days_allowedBits_8 (by decide) (by decide) ?_
      refine j_iload_n (pc := 11) C d_Days_allowedBits_11 rfl 1 rfl ?_
      refine j_aload_n (pc := 12) C d_Days_allowedBits_12 rfl 2 rfl ?_
      refine j_aload_n (pc := 13) C d_Days_allowedBits_13 rfl 3 rfl ?_
      refine j_iload_n (pc := 14) C d_Days_allowedBits_14 rfl 4 rfl ?_
      refine j_iload (pc := 15) C d_Days_allowedBits_15 0 rfl ?_
      refine j_iconst (pc := 17) C (v := 0) d_Days_allowedBits_17 (by decide) ?_
      refine j_callSi (pc := 18) C (c_allows l D y ad d n4 h sa sd sw sl f0 va 2 0 h4 b4 hJ hV) kw_Days_43 ks_Days_allows ⟨by decide, by decide⟩ ⟨by decide, by decide⟩ (wr := []) [0, 1, 2, 3, 4, 5] [] rfl rfl (by decide) (by decide) (by decide) (As := [.ref (ad 0), .ref h, .int va, .int 2, .int 0]) (rest := [.int 3]) rfl (nb rfl) rfl d_Days_allowedBits_18 (fun r13 _ hr13 => ?_)
      refine j_ws (ws' := [(ad 0, .inr (2, [.int (d.1 0), .int (d.1 1), .int (d.1 2), .int (d.1 3), .ref (ad 1), .int (d.1 4), .ref (ad 11), .ref (ad 12), .ref (ad 2), .ref (ad 3), .int (d.1 5), .int (d.1 6), .int (d.1 7), .int (d.1 8)])), (ad 1, .inr (1, [.int (d.1 9), .ref (ad 4), .ref (ad 5), .ref (ad 6), .ref (ad 7), .ref (ad 8), .ref (ad 9), .ref (ad 10)])), (ad 10, .inl (y 0, 9, .inl (d.2 6))), (ad 12, .inl (y 0, 6, .inl (d.2 8))), (h, .inr (7, [.int sd, .int sw, .int sl, .ref (sa 0), .ref (sa 1), .ref (sa 2), .ref (sa 3), .ref (sa 4), .ref (sa 5), .ref (sa 6)])), (sa 0, .inl (y 0, 9, .inl f0))]) rfl ?_
      refine j_if_eq (pc := 21) C (tgt := 31) d_Days_allowedBits_21 (by decide) (fun c14 => ?_) (fun c14 => ?_)
      · refine j_iconst (pc := 31) C (v := 0) d_Days_allowedBits_31 (by decide) ?_
        refine j_ior (pc := 32) C (v := 3) d_Days_allowedBits_32 (by decide) ?_
        refine j_istore_n (pc := 33) C (lv' := [(3, .int 3), (4, .int 2), (0, .ref (ad 0)), (1, .ref h), (2, .int va)]) d_Days_allowedBits_33 rfl (by decide) rfl ?_
        refine j_iinc (pc := 34) C (v := 3) (lv' := [(4, .int 3), (3, .int 3), (0, .ref (ad 0)), (1, .ref h), (2, .int va)]) d_Days_allowedBits_34 1 rfl (by decide) (by decide) rfl ?_
        refine j_goto (pc := 37) C (tgt := 5) d_Days_allowedBits_37 (by decide) ?_
        refine j_iload (pc := 5) C d_Days_allowedBits_5 0 rfl ?_
        refine j_iconst (pc := 7) C (v := 3) d_Days_allowedBits_7 (by decide) ?_
        refine j_icmp_geT (pc := 8) C (tgt := 40) d_Days_allowedBits_8 (by decide) (by decide) ?_
        refine j_iload_n (pc := 40) C d_Days_allowedBits_40 rfl 1 rfl ?_
        exact j_iret (pc := 41) C hr rfl () trivial [0, 1, 2, 3, 4, 5] rfl (by decide) (by decide) (by decide) d_Days_allowedBits_41
      · refine j_iconst (pc := 24) C (v := 1) d_Days_allowedBits_24 (by decide) ?_
        refine j_iload (pc := 25) C d_Days_allowedBits_25 0 rfl ?_
        refine j_ishl (pc := 27) C (v := 4) d_Days_allowedBits_27 (by decide) ?_
        refine j_goto (pc := 28) C (tgt := 32) d_Days_allowedBits_28 (by decide) ?_
        refine j_ior (pc := 32) C (v := 7) d_Days_allowedBits_32 (by decide) ?_
        refine j_istore_n (pc := 33) C (lv' := [(3, .int 7), (4, .int 2), (0, .ref (ad 0)), (1, .ref h), (2, .int va)]) d_Days_allowedBits_33 rfl (by decide) rfl ?_
        refine j_iinc (pc := 34) C (v := 3) (lv' := [(4, .int 3), (3, .int 7), (0, .ref (ad 0)), (1, .ref h), (2, .int va)]) d_Days_allowedBits_34 1 rfl (by decide) (by decide) rfl ?_
        refine j_goto (pc := 37) C (tgt := 5) d_Days_allowedBits_37 (by decide) ?_
        refine j_iload (pc := 5) C d_Days_allowedBits_5 0 rfl ?_
        refine j_iconst (pc := 7) C (v := 3) d_Days_allowedBits_7 (by decide) ?_
        refine j_icmp_geT (pc := 8) C (tgt := 40) d_Days_allowedBits_8 (by decide) (by decide) ?_
        refine j_iload_n (pc := 40) C d_Days_allowedBits_40 rfl 1 rfl ?_
        exact j_iret (pc := 41) C hr rfl () trivial [0, 1, 2, 3, 4, 5] rfl (by decide) (by decide) (by decide) d_Days_allowedBits_41
theorem d_Days_moveBoards_0 : decode prog_3_method_7_code 0 = .ok (.aload_n 0, 1) := by decide +kernel
theorem d_Days_moveBoards_1 : decode prog_3_method_7_code 1 = .ok (.aload_n 1, 1) := by decide +kernel
theorem d_Days_moveBoards_2 : decode prog_3_method_7_code 2 = .ok (.getfield 59, 3) := by decide +kernel
theorem gf_Days_59 : GF "NineBoards$Days" 59 7 0 := ⟨_, _, _, rfl, ci_State, by decide, (mt_1 (List.mem_of_getElem? (i := 54) rfl) rfl)⟩
theorem d_Days_moveBoards_5 : decode prog_3_method_7_code 5 = .ok (.invokevirtual 109, 3) := by decide +kernel
theorem kw_Days_109 : KW "NineBoards$Days" 109 ⟨"NineBoards$Lake", "villageOn", "(I)I"⟩ prog_5_method_8_code 2 (some .int) 1 := ⟨(mt_4 (List.mem_of_getElem? (i := 76) rfl) rfl), (mt_1 (List.mem_of_getElem? (i := 6) rfl) rfl), (mt_4 (List.mem_of_getElem? (i := 59) rfl) rfl), by decide +kernel⟩
theorem kv_Lake_villageOn : Cond.instanceMethod ⟨"NineBoards$Lake", "villageOn", "(I)I"⟩ ∈ TB ∧ Cond.selects "NineBoards$Lake" ⟨"NineBoards$Lake", "villageOn", "(I)I"⟩ ⟨"NineBoards$Lake", "villageOn", "(I)I"⟩ ∈ TB := ⟨(mt_4 (List.mem_of_getElem? (i := 57) rfl) rfl), (mt_4 (List.mem_of_getElem? (i := 58) rfl) rfl)⟩
theorem d_Days_moveBoards_8 : decode prog_3_method_7_code 8 = .ok (.istore_n 3, 1) := by decide +kernel
theorem d_Days_moveBoards_9 : decode prog_3_method_7_code 9 = .ok (.iload_n 3, 1) := by decide +kernel
theorem d_Days_moveBoards_10 : decode prog_3_method_7_code 10 = .ok (.iconst (-1), 1) := by decide +kernel
theorem d_Days_moveBoards_11 : decode prog_3_method_7_code 11 = .ok (.if_icmp .ne 4, 3) := by decide +kernel
theorem d_Days_moveBoards_14 : decode prog_3_method_7_code 14 = .ok (.return_, 1) := by decide +kernel
theorem d_Days_moveBoards_15 : decode prog_3_method_7_code 15 = .ok (.aload_n 0, 1) := by decide +kernel
theorem d_Days_moveBoards_16 : decode prog_3_method_7_code 16 = .ok (.getfield 21, 3) := by decide +kernel
theorem d_Days_moveBoards_19 : decode prog_3_method_7_code 19 = .ok (.iload_n 3, 1) := by decide +kernel
theorem d_Days_moveBoards_20 : decode prog_3_method_7_code 20 = .ok (.iaload, 1) := by decide +kernel
theorem d_Days_moveBoards_21 : decode prog_3_method_7_code 21 = .ok (.istore 4, 2) := by decide +kernel
theorem d_Days_moveBoards_23 : decode prog_3_method_7_code 23 = .ok (.aload_n 0, 1) := by decide +kernel
theorem d_Days_moveBoards_24 : decode prog_3_method_7_code 24 = .ok (.getfield 25, 3) := by decide +kernel
theorem d_Days_moveBoards_27 : decode prog_3_method_7_code 27 = .ok (.getfield 29, 3) := by decide +kernel
theorem d_Days_moveBoards_30 : decode prog_3_method_7_code 30 = .ok (.iload 4, 2) := by decide +kernel
theorem d_Days_moveBoards_32 : decode prog_3_method_7_code 32 = .ok (.iaload, 1) := by decide +kernel
theorem d_Days_moveBoards_33 : decode prog_3_method_7_code 33 = .ok (.istore 5, 2) := by decide +kernel
theorem d_Days_moveBoards_35 : decode prog_3_method_7_code 35 = .ok (.aload_n 1, 1) := by decide +kernel
theorem d_Days_moveBoards_36 : decode prog_3_method_7_code 36 = .ok (.getfield 34, 3) := by decide +kernel
theorem d_Days_moveBoards_39 : decode prog_3_method_7_code 39 = .ok (.iload 4, 2) := by decide +kernel
theorem d_Days_moveBoards_41 : decode prog_3_method_7_code 41 = .ok (.dup2, 1) := by decide +kernel
theorem d_Days_moveBoards_42 : decode prog_3_method_7_code 42 = .ok (.iaload, 1) := by decide +kernel
theorem d_Days_moveBoards_43 : decode prog_3_method_7_code 43 = .ok (.iload_n 2, 1) := by decide +kernel
theorem d_Days_moveBoards_44 : decode prog_3_method_7_code 44 = .ok (.iadd, 1) := by decide +kernel
theorem d_Days_moveBoards_45 : decode prog_3_method_7_code 45 = .ok (.iastore, 1) := by decide +kernel
theorem d_Days_moveBoards_46 : decode prog_3_method_7_code 46 = .ok (.iload 5, 2) := by decide +kernel
theorem d_Days_moveBoards_48 : decode prog_3_method_7_code 48 = .ok (.iconst (-1), 1) := by decide +kernel
theorem d_Days_moveBoards_49 : decode prog_3_method_7_code 49 = .ok (.if_icmp .eq 14, 3) := by decide +kernel
theorem d_Days_moveBoards_63 : decode prog_3_method_7_code 63 = .ok (.return_, 1) := by decide +kernel
theorem d_Days_moveBoards_52 : decode prog_3_method_7_code 52 = .ok (.aload_n 1, 1) := by decide +kernel
theorem d_Days_moveBoards_53 : decode prog_3_method_7_code 53 = .ok (.getfield 34, 3) := by decide +kernel
theorem d_Days_moveBoards_56 : decode prog_3_method_7_code 56 = .ok (.iload 5, 2) := by decide +kernel
theorem d_Days_moveBoards_58 : decode prog_3_method_7_code 58 = .ok (.dup2, 1) := by decide +kernel
theorem d_Days_moveBoards_59 : decode prog_3_method_7_code 59 = .ok (.iaload, 1) := by decide +kernel
theorem d_Days_moveBoards_60 : decode prog_3_method_7_code 60 = .ok (.iload_n 2, 1) := by decide +kernel
theorem d_Days_moveBoards_61 : decode prog_3_method_7_code 61 = .ok (.iadd, 1) := by decide +kernel
theorem d_Days_moveBoards_62 : decode prog_3_method_7_code 62 = .ok (.iastore, 1) := by decide +kernel
set_option maxHeartbeats 4000000 in
set_option maxRecDepth 100000 in
theorem c_moveBoards (l : Launch) (D : va_G) (y : Nat → ClassId) (ad : Nat → Nat) (d : LD) (n4 : Nat) (h : Nat) (sa : Nat → Nat) (sd : Int32) (sw : Int32) (sl : Int32) (f0 : Nat → Int32) (va : Int32) (h4 : d.1 4 = nI n4) (b4 : n4 ≤ 6) (hJ : ∀ j, j < 9 → d.2 6 j = -1 ∨ ∃ q, q < 9 ∧ d.2 6 j = nI q) (hV : ∀ j, j < n4 → ∃ q, q < 9 ∧ d.2 8 j = nI q) : CT l D y ⟨"NineBoards$Days", "moveBoards", "(LNineBoards$Lake;LNineBoards$State;I)V"⟩ prog_3_method_7_code 6 none ({ frames := 2, cells := 0, slots := 0, locals := 43 } : Room) [.ref (ad 0), .ref h, .int va] [(ad 0, .inr (2, [.int (d.1 0), .int (d.1 1), .int (d.1 2), .int (d.1 3), .ref (ad 1), .int (d.1 4), .ref (ad 11), .ref (ad 12), .ref (ad 2), .ref (ad 3), .int (d.1 5), .int (d.1 6), .int (d.1 7), .int (d.1 8)])), (ad 1, .inr (1, [.int (d.1 9), .ref (ad 4), .ref (ad 5), .ref (ad 6), .ref (ad 7), .ref (ad 8), .ref (ad 9), .ref (ad 10)])), (ad 10, .inl (y 0, 9, .inl (d.2 6))), (ad 12, .inl (y 0, 6, .inl (d.2 8))), (h, .inr (7, [.int sd, .int sw, .int sl, .ref (sa 0), .ref (sa 1), .ref (sa 2), .ref (sa 3), .ref (sa 4), .ref (sa 5), .ref (sa 6)])), (sa 0, .inl (y 0, 9, .inl f0))] (QV D [(ad 0, .inr (2, [.int (d.1 0), .int (d.1 1), .int (d.1 2), .int (d.1 3), .ref (ad 1), .int (d.1 4), .ref (ad 11), .ref (ad 12), .ref (ad 2), .ref (ad 3), .int (d.1 5), .int (d.1 6), .int (d.1 7), .int (d.1 8)])), (ad 1, .inr (1, [.int (d.1 9), .ref (ad 4), .ref (ad 5), .ref (ad 6), .ref (ad 7), .ref (ad 8), .ref (ad 9), .ref (ad 10)])), (ad 10, .inl (y 0, 9, .inl (d.2 6))), (ad 12, .inl (y 0, 6, .inl (d.2 8))), (h, .inr (7, [.int sd, .int sw, .int sl, .ref (sa 0), .ref (sa 1), .ref (sa 2), .ref (sa 3), .ref (sa 4), .ref (sa 5), .ref (sa 6)])), (sa 0, .inl (y 0, 9, .inl f0))] (fun (_ : Nat → Int32) => True) (fun u => [(ad 0, .inr (2, [.int (d.1 0), .int (d.1 1), .int (d.1 2), .int (d.1 3), .ref (ad 1), .int (d.1 4), .ref (ad 11), .ref (ad 12), .ref (ad 2), .ref (ad 3), .int (d.1 5), .int (d.1 6), .int (d.1 7), .int (d.1 8)])), (ad 1, .inr (1, [.int (d.1 9), .ref (ad 4), .ref (ad 5), .ref (ad 6), .ref (ad 7), .ref (ad 8), .ref (ad 9), .ref (ad 10)])), (ad 10, .inl (y 0, 9, .inl (d.2 6))), (ad 12, .inl (y 0, 6, .inl (d.2 8))), (h, .inr (7, [.int sd, .int sw, .int sl, .ref (sa 0), .ref (sa 1), .ref (sa 2), .ref (sa 3), .ref (sa 4), .ref (sa 5), .ref (sa 6)])), (sa 0, .inl (y 0, 9, .inl u))])) := by
  refine CT.of (by decide) (nb rfl) ?_
  intro p e s m args below meth c C hr
  refine j_lv (lv' := [(0, .ref (ad 0)), (1, .ref h), (2, .int va)]) rfl ?_
  refine j_aload_n (pc := 0) C d_Days_moveBoards_0 rfl 0 rfl ?_
  refine j_aload_n (pc := 1) C d_Days_moveBoards_1 rfl 1 rfl ?_
  refine j_get (pc := 2) C gf_Days_59 4 rfl rfl d_Days_moveBoards_2 ?_
  refine j_callVi (pc := 5) C (c_villageOn l D y ad d n4 sd h4 b4) kw_Days_109 kv_Lake_villageOn 0 2 rfl rfl ⟨by decide, by decide⟩ ⟨by decide, by decide⟩ (wr := [(ad 1, .inr (1, [.int (d.1 9), .ref (ad 4), .ref (ad 5), .ref (ad 6), .ref (ad 7), .ref (ad 8), .ref (ad 9), .ref (ad 10)])), (ad 10, .inl (y 0, 9, .inl (d.2 6))), (ad 12, .inl (y 0, 6, .inl (d.2 8))), (h, .inr (7, [.int sd, .int sw, .int sl, .ref (sa 0), .ref (sa 1), .ref (sa 2), .ref (sa 3), .ref (sa 4), .ref (sa 5), .ref (sa 6)])), (sa 0, .inl (y 0, 9, .inl f0))]) [0] [1, 2, 3, 4, 5] rfl rfl (by decide) (by decide) (by decide) (As := [.int sd]) (rest := []) rfl (nb rfl) rfl d_Days_moveBoards_5 (fun r1 _ hr1 => ?_)
  refine j_ws (ws' := [(ad 1, .inr (1, [.int (d.1 9), .ref (ad 4), .ref (ad 5), .ref (ad 6), .ref (ad 7), .ref (ad 8), .ref (ad 9), .ref (ad 10)])), (ad 10, .inl (y 0, 9, .inl (d.2 6))), (ad 12, .inl (y 0, 6, .inl (d.2 8))), (h, .inr (7, [.int sd, .int sw, .int sl, .ref (sa 0), .ref (sa 1), .ref (sa 2), .ref (sa 3), .ref (sa 4), .ref (sa 5), .ref (sa 6)])), (sa 0, .inl (y 0, 9, .inl f0)), (ad 0, .inr (2, [.int (d.1 0), .int (d.1 1), .int (d.1 2), .int (d.1 3), .ref (ad 1), .int (d.1 4), .ref (ad 11), .ref (ad 12), .ref (ad 2), .ref (ad 3), .int (d.1 5), .int (d.1 6), .int (d.1 7), .int (d.1 8)]))]) rfl ?_
  rcases hr1 with rfl | ⟨j2, h3, rfl⟩
  · refine j_istore_n (pc := 8) C (lv' := [(3, .int (-1)), (0, .ref (ad 0)), (1, .ref h), (2, .int va)]) d_Days_moveBoards_8 rfl (by decide) rfl ?_
    refine j_iload_n (pc := 9) C d_Days_moveBoards_9 rfl 0 rfl ?_
    refine j_iconst (pc := 10) C (v := (-1)) d_Days_moveBoards_10 (by decide) ?_
    refine j_icmp_neF (pc := 11) C (tgt := 15) d_Days_moveBoards_11 (by decide) (by decide) ?_
    exact j_vret (pc := 14) C hr f0 trivial [5, 0, 1, 2, 3, 4] rfl (by decide) (by decide) (by decide) d_Days_moveBoards_14
  · refine j_istore_n (pc := 8) C (lv' := [(3, .int (nI j2)), (0, .ref (ad 0)), (1, .ref h), (2, .int va)]) d_Days_moveBoards_8 rfl (by decide) rfl ?_
    refine j_iload_n (pc := 9) C d_Days_moveBoards_9 rfl 0 rfl ?_
    refine j_iconst (pc := 10) C (v := (-1)) d_Days_moveBoards_10 (by decide) ?_
    refine j_icmp_neT (pc := 11) C (tgt := 15) d_Days_moveBoards_11 (by decide) (nI_nm1 (by omega)) ?_
    refine j_aload_n (pc := 15) C d_Days_moveBoards_15 rfl 1 rfl ?_
    refine j_get (pc := 16) C gf_Days_21 5 rfl rfl d_Days_moveBoards_16 ?_
    refine j_iload_n (pc := 19) C d_Days_moveBoards_19 rfl 0 rfl ?_
    obtain ⟨q4, h5, e6⟩ := hV j2 (by omega)
    refine j_iald (pc := 20) C 2 rfl (v := nI q4) (vp_in_nI (by omega) (by decide)) (by rw [nI_clamp (by omega)]; exact e6) d_Days_moveBoards_20 ?_
    refine j_istore (pc := 21) C (lv' := [(4, .int (nI q4)), (3, .int (nI j2)), (0, .ref (ad 0)), (1, .ref h), (2, .int va)]) d_Days_moveBoards_21 (by decide) rfl ?_
    refine j_aload_n (pc := 23) C d_Days_moveBoards_23 rfl 2 rfl ?_
    refine j_get (pc := 24) C gf_Days_25 5 rfl rfl d_Days_moveBoards_24 ?_
    refine j_get (pc := 27) C gf_Days_29 0 rfl rfl d_Days_moveBoards_27 ?_
    refine j_iload (pc := 30) C d_Days_moveBoards_30 0 rfl ?_
    rcases hJ q4 (by omega) with e9 | ⟨q7, h8, e9⟩
    · refine j_iald (pc := 32) C 1 rfl (v := (-1)) (vp_in_nI (by omega) (by decide)) (by rw [nI_clamp (by omega)]; exact e9) d_Days_moveBoards_32 ?_
      refine j_istore (pc := 33) C (lv' := [(5, .int (-1)), (4, .int (nI q4)), (3, .int (nI j2)), (0, .ref (ad 0)), (1, .ref h), (2, .int va)]) d_Days_moveBoards_33 (by decide) rfl ?_
      refine j_aload_n (pc := 35) C d_Days_moveBoards_35 rfl 4 rfl ?_
      refine j_get (pc := 36) C gf_Days_34 3 rfl rfl d_Days_moveBoards_36 ?_
      refine j_iload (pc := 39) C d_Days_moveBoards_39 1 rfl ?_
      refine j_dup2 (pc := 41) C d_Days_moveBoards_41 rfl rfl ?_
      refine j_iald (pc := 42) C 4 rfl (v := f0 (nI q4).toNatClampNeg) (vp_in_nI (by omega) (by decide)) rfl d_Days_moveBoards_42 ?_
      refine j_iload_n (pc := 43) C d_Days_moveBoards_43 rfl 5 rfl ?_
      refine j_iadd (pc := 44) C (v := (f0 (nI q4).toNatClampNeg) + va) d_Days_moveBoards_44 rfl ?_
      refine j_iast (pc := 45) C 4 rfl (ws' := [(ad 1, .inr (1, [.int (d.1 9), .ref (ad 4), .ref (ad 5), .ref (ad 6), .ref (ad 7), .ref (ad 8), .ref (ad 9), .ref (ad 10)])), (ad 10, .inl (y 0, 9, .inl (d.2 6))), (ad 12, .inl (y 0, 6, .inl (d.2 8))), (h, .inr (7, [.int sd, .int sw, .int sl, .ref (sa 0), .ref (sa 1), .ref (sa 2), .ref (sa 3), .ref (sa 4), .ref (sa 5), .ref (sa 6)])), (sa 0, .inl (y 0, 9, .inl (upd f0 (nI q4).toNatClampNeg ((f0 (nI q4).toNatClampNeg) + va)))), (ad 0, .inr (2, [.int (d.1 0), .int (d.1 1), .int (d.1 2), .int (d.1 3), .ref (ad 1), .int (d.1 4), .ref (ad 11), .ref (ad 12), .ref (ad 2), .ref (ad 3), .int (d.1 5), .int (d.1 6), .int (d.1 7), .int (d.1 8)]))]) (vp_in_nI (by omega) (by decide)) rfl d_Days_moveBoards_45 ?_
      refine j_iload (pc := 46) C d_Days_moveBoards_46 0 rfl ?_
      refine j_iconst (pc := 48) C (v := (-1)) d_Days_moveBoards_48 (by decide) ?_
      refine j_icmp_eqT (pc := 49) C (tgt := 63) d_Days_moveBoards_49 (by decide) (by decide) ?_
      exact j_vret (pc := 63) C hr (upd f0 (nI q4).toNatClampNeg ((f0 (nI q4).toNatClampNeg) + va)) trivial [5, 0, 1, 2, 3, 4] rfl (by decide) (by decide) (by decide) d_Days_moveBoards_63
    · refine j_iald (pc := 32) C 1 rfl (v := nI q7) (vp_in_nI (by omega) (by decide)) (by rw [nI_clamp (by omega)]; exact e9) d_Days_moveBoards_32 ?_
      refine j_istore (pc := 33) C (lv' := [(5, .int (nI q7)), (4, .int (nI q4)), (3, .int (nI j2)), (0, .ref (ad 0)), (1, .ref h), (2, .int va)]) d_Days_moveBoards_33 (by decide) rfl ?_
      refine j_aload_n (pc := 35) C d_Days_moveBoards_35 rfl 4 rfl ?_
      refine j_get (pc := 36) C gf_Days_34 3 rfl rfl d_Days_moveBoards_36 ?_
      refine j_iload (pc := 39) C d_Days_moveBoards_39 1 rfl ?_
      refine j_dup2 (pc := 41) C d_Days_moveBoards_41 rfl rfl ?_
      refine j_iald (pc := 42) C 4 rfl (v := f0 (nI q4).toNatClampNeg) (vp_in_nI (by omega) (by decide)) rfl d_Days_moveBoards_42 ?_
      refine j_iload_n (pc := 43) C d_Days_moveBoards_43 rfl 5 rfl ?_
      refine j_iadd (pc := 44) C (v := (f0 (nI q4).toNatClampNeg) + va) d_Days_moveBoards_44 rfl ?_
      refine j_iast (pc := 45) C 4 rfl (ws' := [(ad 1, .inr (1, [.int (d.1 9), .ref (ad 4), .ref (ad 5), .ref (ad 6), .ref (ad 7), .ref (ad 8), .ref (ad 9), .ref (ad 10)])), (ad 10, .inl (y 0, 9, .inl (d.2 6))), (ad 12, .inl (y 0, 6, .inl (d.2 8))), (h, .inr (7, [.int sd, .int sw, .int sl, .ref (sa 0), .ref (sa 1), .ref (sa 2), .ref (sa 3), .ref (sa 4), .ref (sa 5), .ref (sa 6)])), (sa 0, .inl (y 0, 9, .inl (upd f0 (nI q4).toNatClampNeg ((f0 (nI q4).toNatClampNeg) + va)))), (ad 0, .inr (2, [.int (d.1 0), .int (d.1 1), .int (d.1 2), .int (d.1 3), .ref (ad 1), .int (d.1 4), .ref (ad 11), .ref (ad 12), .ref (ad 2), .ref (ad 3), .int (d.1 5), .int (d.1 6), .int (d.1 7), .int (d.1 8)]))]) (vp_in_nI (by omega) (by decide)) rfl d_Days_moveBoards_45 ?_
      refine j_iload (pc := 46) C d_Days_moveBoards_46 0 rfl ?_
      refine j_iconst (pc := 48) C (v := (-1)) d_Days_moveBoards_48 (by decide) ?_
      refine j_icmp_eqF (pc := 49) C (tgt := 63) d_Days_moveBoards_49 (by decide) (nI_nm1 (by omega)) ?_
      refine j_aload_n (pc := 52) C d_Days_moveBoards_52 rfl 4 rfl ?_
      refine j_get (pc := 53) C gf_Days_34 3 rfl rfl d_Days_moveBoards_53 ?_
      refine j_iload (pc := 56) C d_Days_moveBoards_56 0 rfl ?_
      refine j_dup2 (pc := 58) C d_Days_moveBoards_58 rfl rfl ?_
      refine j_iald (pc := 59) C 4 rfl (v := (upd f0 (nI q4).toNatClampNeg ((f0 (nI q4).toNatClampNeg) + va)) (nI q7).toNatClampNeg) (vp_in_nI (by omega) (by decide)) rfl d_Days_moveBoards_59 ?_
      refine j_iload_n (pc := 60) C d_Days_moveBoards_60 rfl 5 rfl ?_
      refine j_iadd (pc := 61) C (v := ((upd f0 (nI q4).toNatClampNeg ((f0 (nI q4).toNatClampNeg) + va)) (nI q7).toNatClampNeg) + va) d_Days_moveBoards_61 rfl ?_
      refine j_iast (pc := 62) C 4 rfl (ws' := [(ad 1, .inr (1, [.int (d.1 9), .ref (ad 4), .ref (ad 5), .ref (ad 6), .ref (ad 7), .ref (ad 8), .ref (ad 9), .ref (ad 10)])), (ad 10, .inl (y 0, 9, .inl (d.2 6))), (ad 12, .inl (y 0, 6, .inl (d.2 8))), (h, .inr (7, [.int sd, .int sw, .int sl, .ref (sa 0), .ref (sa 1), .ref (sa 2), .ref (sa 3), .ref (sa 4), .ref (sa 5), .ref (sa 6)])), (sa 0, .inl (y 0, 9, .inl (upd (upd f0 (nI q4).toNatClampNeg ((f0 (nI q4).toNatClampNeg) + va)) (nI q7).toNatClampNeg (((upd f0 (nI q4).toNatClampNeg ((f0 (nI q4).toNatClampNeg) + va)) (nI q7).toNatClampNeg) + va)))), (ad 0, .inr (2, [.int (d.1 0), .int (d.1 1), .int (d.1 2), .int (d.1 3), .ref (ad 1), .int (d.1 4), .ref (ad 11), .ref (ad 12), .ref (ad 2), .ref (ad 3), .int (d.1 5), .int (d.1 6), .int (d.1 7), .int (d.1 8)]))]) (vp_in_nI (by omega) (by decide)) rfl d_Days_moveBoards_62 ?_
      exact j_vret (pc := 63) C hr (upd (upd f0 (nI q4).toNatClampNeg ((f0 (nI q4).toNatClampNeg) + va)) (nI q7).toNatClampNeg (((upd f0 (nI q4).toNatClampNeg ((f0 (nI q4).toNatClampNeg) + va)) (nI q7).toNatClampNeg) + va)) trivial [5, 0, 1, 2, 3, 4] rfl (by decide) (by decide) (by decide) d_Days_moveBoards_63
theorem d_Days_doAct_0 : decode prog_3_method_6_code 0 = .ok (.iload_n 2, 1) := by decide +kernel
theorem d_Days_doAct_1 : decode prog_3_method_6_code 1 = .ok (.ifCond .eq 23, 3) := by decide +kernel
theorem d_Days_doAct_24 : decode prog_3_method_6_code 24 = .ok (.return_, 1) := by decide +kernel
theorem d_Days_doAct_4 : decode prog_3_method_6_code 4 = .ok (.aload_n 0, 1) := by decide +kernel
theorem d_Days_doAct_5 : decode prog_3_method_6_code 5 = .ok (.aload_n 1, 1) := by decide +kernel
theorem d_Days_doAct_6 : decode prog_3_method_6_code 6 = .ok (.iload_n 2, 1) := by decide +kernel
theorem d_Days_doAct_7 : decode prog_3_method_6_code 7 = .ok (.iconst 1, 1) := by decide +kernel
theorem d_Days_doAct_8 : decode prog_3_method_6_code 8 = .ok (.if_icmp .ne 7, 3) := by decide +kernel
theorem d_Days_doAct_15 : decode prog_3_method_6_code 15 = .ok (.iconst 1, 1) := by decide +kernel
theorem d_Days_doAct_16 : decode prog_3_method_6_code 16 = .ok (.invokestatic 106, 3) := by decide +kernel
theorem kw_Days_106 : KW "NineBoards$Days" 106 ⟨"NineBoards$Days", "moveBoards", "(LNineBoards$Lake;LNineBoards$State;I)V"⟩ prog_3_method_7_code 6 none 3 := ⟨(mt_4 (List.mem_of_getElem? (i := 73) rfl) rfl), (mt_1 (List.mem_of_getElem? (i := 18) rfl) rfl), (mt_4 (List.mem_of_getElem? (i := 75) rfl) rfl), by decide +kernel⟩
theorem ks_Days_moveBoards : Cond.static ⟨"NineBoards$Days", "moveBoards", "(LNineBoards$Lake;LNineBoards$State;I)V"⟩ ∈ TB := (mt_4 (List.mem_of_getElem? (i := 74) rfl) rfl)
theorem d_Days_doAct_19 : decode prog_3_method_6_code 19 = .ok (.aload_n 1, 1) := by decide +kernel
theorem d_Days_doAct_20 : decode prog_3_method_6_code 20 = .ok (.iload_n 2, 1) := by decide +kernel
theorem d_Days_doAct_21 : decode prog_3_method_6_code 21 = .ok (.putfield 15, 3) := by decide +kernel
theorem pf_Days_15 : PF "NineBoards$Days" 15 7 2 (.int) false := ⟨_, _, _, ct_State, rfl, ci_State, by decide, (mt_1 (List.mem_of_getElem? (i := 61) rfl) rfl), cp_State, cn_State, rfl, by decide +kernel, (fun h => by cases h)⟩
theorem d_Days_doAct_11 : decode prog_3_method_6_code 11 = .ok (.iconst (-1), 1) := by decide +kernel
theorem d_Days_doAct_12 : decode prog_3_method_6_code 12 = .ok (.goto 4, 3) := by decide +kernel
set_option maxHeartbeats 4000000 in
set_option maxRecDepth 100000 in
theorem c_doAct (l : Launch) (D : va_G) (y : Nat → ClassId) (ad : Nat → Nat) (d : LD) (n4 : Nat) (h : Nat) (sa : Nat → Nat) (sd : Int32) (sw : Int32) (sl : Int32) (f0 : Nat → Int32) (va : Int32) (h4 : d.1 4 = nI n4) (b4 : n4 ≤ 6) (hJ : ∀ j, j < 9 → d.2 6 j = -1 ∨ ∃ q, q < 9 ∧ d.2 6 j = nI q) (hV : ∀ j, j < n4 → ∃ q, q < 9 ∧ d.2 8 j = nI q) : CT l D y ⟨"NineBoards$Days", "doAct", "(LNineBoards$Lake;LNineBoards$State;I)V"⟩ prog_3_method_6_code 3 none ({ frames := 3, cells := 0, slots := 0, locals := 68 } : Room) [.ref (ad 0), .ref h, .int va] [(ad 0, .inr (2, [.int (d.1 0), .int (d.1 1), .int (d.1 2), .int (d.1 3), .ref (ad 1), .int (d.1 4), .ref (ad 11), .ref (ad 12), .ref (ad 2), .ref (ad 3), .int (d.1 5), .int (d.1 6), .int (d.1 7), .int (d.1 8)])), (ad 1, .inr (1, [.int (d.1 9), .ref (ad 4), .ref (ad 5), .ref (ad 6), .ref (ad 7), .ref (ad 8), .ref (ad 9), .ref (ad 10)])), (ad 10, .inl (y 0, 9, .inl (d.2 6))), (ad 12, .inl (y 0, 6, .inl (d.2 8))), (h, .inr (7, [.int sd, .int sw, .int sl, .ref (sa 0), .ref (sa 1), .ref (sa 2), .ref (sa 3), .ref (sa 4), .ref (sa 5), .ref (sa 6)])), (sa 0, .inl (y 0, 9, .inl f0))] (QV D [(ad 0, .inr (2, [.int (d.1 0), .int (d.1 1), .int (d.1 2), .int (d.1 3), .ref (ad 1), .int (d.1 4), .ref (ad 11), .ref (ad 12), .ref (ad 2), .ref (ad 3), .int (d.1 5), .int (d.1 6), .int (d.1 7), .int (d.1 8)])), (ad 1, .inr (1, [.int (d.1 9), .ref (ad 4), .ref (ad 5), .ref (ad 6), .ref (ad 7), .ref (ad 8), .ref (ad 9), .ref (ad 10)])), (ad 10, .inl (y 0, 9, .inl (d.2 6))), (ad 12, .inl (y 0, 6, .inl (d.2 8))), (h, .inr (7, [.int sd, .int sw, .int sl, .ref (sa 0), .ref (sa 1), .ref (sa 2), .ref (sa 3), .ref (sa 4), .ref (sa 5), .ref (sa 6)])), (sa 0, .inl (y 0, 9, .inl f0))] (fun (_ : Int32 × (Nat → Int32)) => True) (fun u => [(ad 0, .inr (2, [.int (d.1 0), .int (d.1 1), .int (d.1 2), .int (d.1 3), .ref (ad 1), .int (d.1 4), .ref (ad 11), .ref (ad 12), .ref (ad 2), .ref (ad 3), .int (d.1 5), .int (d.1 6), .int (d.1 7), .int (d.1 8)])), (ad 1, .inr (1, [.int (d.1 9), .ref (ad 4), .ref (ad 5), .ref (ad 6), .ref (ad 7), .ref (ad 8), .ref (ad 9), .ref (ad 10)])), (ad 10, .inl (y 0, 9, .inl (d.2 6))), (ad 12, .inl (y 0, 6, .inl (d.2 8))), (h, .inr (7, [.int sd, .int sw, .int u.1, .ref (sa 0), .ref (sa 1), .ref (sa 2), .ref (sa 3), .ref (sa 4), .ref (sa 5), .ref (sa 6)])), (sa 0, .inl (y 0, 9, .inl u.2))])) := by
  refine CT.of (by decide) (nb rfl) ?_
  intro p e s m args below meth c C hr
  refine j_lv (lv' := [(0, .ref (ad 0)), (1, .ref h), (2, .int va)]) rfl ?_
  refine j_iload_n (pc := 0) C d_Days_doAct_0 rfl 2 rfl ?_
  refine j_if_eq (pc := 1) C (tgt := 24) d_Days_doAct_1 (by decide) (fun c1 => ?_) (fun c1 => ?_)
  · exact j_vret (pc := 24) C hr (sl, f0) trivial [0, 1, 2, 3, 4, 5] rfl (by decide) (by decide) (by decide) d_Days_doAct_24
  · refine j_aload_n (pc := 4) C d_Days_doAct_4 rfl 0 rfl ?_
    refine j_aload_n (pc := 5) C d_Days_doAct_5 rfl 1 rfl ?_
    refine j_iload_n (pc := 6) C d_Days_doAct_6 rfl 2 rfl ?_
    refine j_iconst (pc := 7) C (v := 1) d_Days_doAct_7 (by decide) ?_
    refine j_icmp_ne (pc := 8) C (tgt := 15) d_Days_doAct_8 (by decide) (fun c2 => ?_) (fun c2 => ?_)
    · refine j_iconst (pc := 15) C (v := 1) d_Days_doAct_15 (by decide) ?_
      refine j_callSv (pc := 16) C (c_moveBoards l D y ad d n4 h sa sd sw sl f0 1 h4 b4 hJ hV) kw_Days_106 ks_Days_moveBoards ⟨by decide, by decide⟩ ⟨by decide, by decide⟩ (wr := []) [0, 1, 2, 3, 4, 5] [] rfl rfl (by decide) (by decide) (by decide) (As := [.ref (ad 0), .ref h, .int 1]) (rest := []) rfl (nb rfl) rfl d_Days_doAct_16 (fun u3 _ => ?_)
      refine j_ws (ws' := [(ad 0, .inr (2, [.int (d.1 0), .int (d.1 1), .int (d.1 2), .int (d.1 3), .ref (ad 1), .int (d.1 4), .ref (ad 11), .ref (ad 12), .ref (ad 2), .ref (ad 3), .int (d.1 5), .int (d.1 6), .int (d.1 7), .int (d.1 8)])), (ad 1, .inr (1, [.int (d.1 9), .ref (ad 4), .ref (ad 5), .ref (ad 6), .ref (ad 7), .ref (ad 8), .ref (ad 9), .ref (ad 10)])), (ad 10, .inl (y 0, 9, .inl (d.2 6))), (ad 12, .inl (y 0, 6, .inl (d.2 8))), (h, .inr (7, [.int sd, .int sw, .int sl, .ref (sa 0), .ref (sa 1), .ref (sa 2), .ref (sa 3), .ref (sa 4), .ref (sa 5), .ref (sa 6)])), (sa 0, .inl (y 0, 9, .inl u3))]) rfl ?_
      refine j_aload_n (pc := 19) C d_Days_doAct_19 rfl 1 rfl ?_
      refine j_iload_n (pc := 20) C d_Days_doAct_20 rfl 2 rfl ?_
      refine j_put (pc := 21) C pf_Days_15 4 (ws' := [(ad 0, .inr (2, [.int (d.1 0), .int (d.1 1), .int (d.1 2), .int (d.1 3), .ref (ad 1), .int (d.1 4), .ref (ad 11), .ref (ad 12), .ref (ad 2), .ref (ad 3), .int (d.1 5), .int (d.1 6), .int (d.1 7), .int (d.1 8)])), (ad 1, .inr (1, [.int (d.1 9), .ref (ad 4), .ref (ad 5), .ref (ad 6), .ref (ad 7), .ref (ad 8), .ref (ad 9), .ref (ad 10)])), (ad 10, .inl (y 0, 9, .inl (d.2 6))), (ad 12, .inl (y 0, 6, .inl (d.2 8))), (h, .inr (7, [.int sd, .int sw, .int va, .ref (sa 0), .ref (sa 1), .ref (sa 2), .ref (sa 3), .ref (sa 4), .ref (sa 5), .ref (sa 6)])), (sa 0, .inl (y 0, 9, .inl u3))]) rfl rfl rfl (nl rfl) rfl d_Days_doAct_21 ?_
      exact j_vret (pc := 24) C hr (va, u3) trivial [0, 1, 2, 3, 4, 5] rfl (by decide) (by decide) (by decide) d_Days_doAct_24
    · refine j_iconst (pc := 11) C (v := (-1)) d_Days_doAct_11 (by decide) ?_
      refine j_goto (pc := 12) C (tgt := 16) d_Days_doAct_12 (by decide) ?_
      refine j_callSv (pc := 16) C (c_moveBoards l D y ad d n4 h sa sd sw sl f0 (-1) h4 b4 hJ hV) kw_Days_106 ks_Days_moveBoards ⟨by decide, by decide⟩ ⟨by decide, by decide⟩ (wr := []) [0, 1, 2, 3, 4, 5] [] rfl rfl (by decide) (by decide) (by decide) (As := [.ref (ad 0), .ref h, .int (-1)]) (rest := []) rfl (nb rfl) rfl d_Days_doAct_16 (fun u4 _ => ?_)
      refine j_ws (ws' := [(ad 0, .inr (2, [.int (d.1 0), .int (d.1 1), .int (d.1 2), .int (d.1 3), .ref (ad 1), .int (d.1 4), .ref (ad 11), .ref (ad 12), .ref (ad 2), .ref (ad 3), .int (d.1 5), .int (d.1 6), .int (d.1 7), .int (d.1 8)])), (ad 1, .inr (1, [.int (d.1 9), .ref (ad 4), .ref (ad 5), .ref (ad 6), .ref (ad 7), .ref (ad 8), .ref (ad 9), .ref (ad 10)])), (ad 10, .inl (y 0, 9, .inl (d.2 6))), (ad 12, .inl (y 0, 6, .inl (d.2 8))), (h, .inr (7, [.int sd, .int sw, .int sl, .ref (sa 0), .ref (sa 1), .ref (sa 2), .ref (sa 3), .ref (sa 4), .ref (sa 5), .ref (sa 6)])), (sa 0, .inl (y 0, 9, .inl u4))]) rfl ?_
      refine j_aload_n (pc := 19) C d_Days_doAct_19 rfl 1 rfl ?_
      refine j_iload_n (pc := 20) C d_Days_doAct_20 rfl 2 rfl ?_
      refine j_put (pc := 21) C pf_Days_15 4 (ws' := [(ad 0, .inr (2, [.int (d.1 0), .int (d.1 1), .int (d.1 2), .int (d.1 3), .ref (ad 1), .int (d.1 4), .ref (ad 11), .ref (ad 12), .ref (ad 2), .ref (ad 3), .int (d.1 5), .int (d.1 6), .int (d.1 7), .int (d.1 8)])), (ad 1, .inr (1, [.int (d.1 9), .ref (ad 4), .ref (ad 5), .ref (ad 6), .ref (ad 7), .ref (ad 8), .ref (ad 9), .ref (ad 10)])), (ad 10, .inl (y 0, 9, .inl (d.2 6))), (ad 12, .inl (y 0, 6, .inl (d.2 8))), (h, .inr (7, [.int sd, .int sw, .int va, .ref (sa 0), .ref (sa 1), .ref (sa 2), .ref (sa 3), .ref (sa 4), .ref (sa 5), .ref (sa 6)])), (sa 0, .inl (y 0, 9, .inl u4))]) rfl rfl rfl (nl rfl) rfl d_Days_doAct_21 ?_
      exact j_vret (pc := 24) C hr (va, u4) trivial [0, 1, 2, 3, 4, 5] rfl (by decide) (by decide) (by decide) d_Days_doAct_24
theorem d_Days_canLoseBoard_0 : decode prog_3_method_12_code 0 = .ok (.aload_n 0, 1) := by decide +kernel
theorem d_Days_canLoseBoard_1 : decode prog_3_method_12_code 1 = .ok (.getfield 25, 3) := by decide +kernel
theorem d_Days_canLoseBoard_4 : decode prog_3_method_12_code 4 = .ok (.getfield 29, 3) := by decide +kernel
theorem d_Days_canLoseBoard_7 : decode prog_3_method_12_code 7 = .ok (.iload_n 2, 1) := by decide +kernel
theorem d_Days_canLoseBoard_8 : decode prog_3_method_12_code 8 = .ok (.iaload, 1) := by decide +kernel
theorem d_Days_canLoseBoard_9 : decode prog_3_method_12_code 9 = .ok (.istore_n 3, 1) := by decide +kernel
theorem d_Days_canLoseBoard_10 : decode prog_3_method_12_code 10 = .ok (.aload_n 1, 1) := by decide +kernel
theorem d_Days_canLoseBoard_11 : decode prog_3_method_12_code 11 = .ok (.getfield 34, 3) := by decide +kernel
theorem d_Days_canLoseBoard_14 : decode prog_3_method_12_code 14 = .ok (.iload_n 2, 1) := by decide +kernel
theorem d_Days_canLoseBoard_15 : decode prog_3_method_12_code 15 = .ok (.iaload, 1) := by decide +kernel
theorem d_Days_canLoseBoard_16 : decode prog_3_method_12_code 16 = .ok (.ifCond .le 21, 3) := by decide +kernel
theorem d_Days_canLoseBoard_37 : decode prog_3_method_12_code 37 = .ok (.iconst 0, 1) := by decide +kernel
theorem d_Days_canLoseBoard_38 : decode prog_3_method_12_code 38 = .ok (.ireturn, 1) := by decide +kernel
theorem d_Days_canLoseBoard_19 : decode prog_3_method_12_code 19 = .ok (.iload_n 3, 1) := by decide +kernel
theorem d_Days_canLoseBoard_20 : decode prog_3_method_12_code 20 = .ok (.iconst (-1), 1) := by decide +kernel
theorem d_Days_canLoseBoard_21 : decode prog_3_method_12_code 21 = .ok (.if_icmp .eq 12, 3) := by decide +kernel
theorem d_Days_canLoseBoard_33 : decode prog_3_method_12_code 33 = .ok (.iconst 1, 1) := by decide +kernel
theorem d_Days_canLoseBoard_34 : decode prog_3_method_12_code 34 = .ok (.goto 4, 3) := by decide +kernel
theorem d_Days_canLoseBoard_24 : decode prog_3_method_12_code 24 = .ok (.aload_n 1, 1) := by decide +kernel
theorem d_Days_canLoseBoard_25 : decode prog_3_method_12_code 25 = .ok (.getfield 34, 3) := by decide +kernel
theorem d_Days_canLoseBoard_28 : decode prog_3_method_12_code 28 = .ok (.iload_n 3, 1) := by decide +kernel
theorem d_Days_canLoseBoard_29 : decode prog_3_method_12_code 29 = .ok (.iaload, 1) := by decide +kernel
theorem d_Days_canLoseBoard_30 : decode prog_3_method_12_code 30 = .ok (.ifCond .le 7, 3) := by decide +kernel
set_option maxHeartbeats 4000000 in
set_option maxRecDepth 100000 in
theorem c_canLoseBoard (l : Launch) (D : va_G) (y : Nat → ClassId) (ad : Nat → Nat) (d : LD) (h : Nat) (sa : Nat → Nat) (sd : Int32) (sw : Int32) (sl : Int32) (f0 : Nat → Int32) (j : Nat) (hJ : ∀ j, j < 9 → d.2 6 j = -1 ∨ ∃ q, q < 9 ∧ d.2 6 j = nI q) (hj : j < 9) : CT l D y ⟨"NineBoards$Days", "canLoseBoard", "(LNineBoards$Lake;LNineBoards$State;I)Z"⟩ prog_3_method_12_code 4 (some .boolean) ({ frames := 0, cells := 0, slots := 0, locals := 0 } : Room) [.ref (ad 0), .ref h, .int (nI j)] [(ad 0, .inr (2, [.int (d.1 0), .int (d.1 1), .int (d.1 2), .int (d.1 3), .ref (ad 1), .int (d.1 4), .ref (ad 11), .ref (ad 12), .ref (ad 2), .ref (ad 3), .int (d.1 5), .int (d.1 6), .int (d.1 7), .int (d.1 8)])), (ad 1, .inr (1, [.int (d.1 9), .ref (ad 4), .ref (ad 5), .ref (ad 6), .ref (ad 7), .ref (ad 8), .ref (ad 9), .ref (ad 10)])), (ad 10, .inl (y 0, 9, .inl (d.2 6))), (h, .inr (7, [.int sd, .int sw, .int sl, .ref (sa 0), .ref (sa 1), .ref (sa 2), .ref (sa 3), .ref (sa 4), .ref (sa 5), .ref (sa 6)])), (sa 0, .inl (y 0, 9, .inl f0))] (QI D [(ad 0, .inr (2, [.int (d.1 0), .int (d.1 1), .int (d.1 2), .int (d.1 3), .ref (ad 1), .int (d.1 4), .ref (ad 11), .ref (ad 12), .ref (ad 2), .ref (ad 3), .int (d.1 5), .int (d.1 6), .int (d.1 7), .int (d.1 8)])), (ad 1, .inr (1, [.int (d.1 9), .ref (ad 4), .ref (ad 5), .ref (ad 6), .ref (ad 7), .ref (ad 8), .ref (ad 9), .ref (ad 10)])), (ad 10, .inl (y 0, 9, .inl (d.2 6))), (h, .inr (7, [.int sd, .int sw, .int sl, .ref (sa 0), .ref (sa 1), .ref (sa 2), .ref (sa 3), .ref (sa 4), .ref (sa 5), .ref (sa 6)])), (sa 0, .inl (y 0, 9, .inl f0))] (fun (r : Int32) (u : Unit) => r = 0 ∨ r = 1) (fun _ => [(ad 0, .inr (2, [.int (d.1 0), .int (d.1 1), .int (d.1 2), .int (d.1 3), .ref (ad 1), .int (d.1 4), .ref (ad 11), .ref (ad 12), .ref (ad 2), .ref (ad 3), .int (d.1 5), .int (d.1 6), .int (d.1 7), .int (d.1 8)])), (ad 1, .inr (1, [.int (d.1 9), .ref (ad 4), .ref (ad 5), .ref (ad 6), .ref (ad 7), .ref (ad 8), .ref (ad 9), .ref (ad 10)])), (ad 10, .inl (y 0, 9, .inl (d.2 6))), (h, .inr (7, [.int sd, .int sw, .int sl, .ref (sa 0), .ref (sa 1), .ref (sa 2), .ref (sa 3), .ref (sa 4), .ref (sa 5), .ref (sa 6)])), (sa 0, .inl (y 0, 9, .inl f0))])) := by
  refine CT.of (by decide) (nb rfl) ?_
  intro p e s m args below meth c C hr
  refine j_lv (lv' := [(0, .ref (ad 0)), (1, .ref h), (2, .int (nI j))]) rfl ?_
  refine j_aload_n (pc := 0) C d_Days_canLoseBoard_0 rfl 0 rfl ?_
  refine j_get (pc := 1) C gf_Days_25 0 rfl rfl d_Days_canLoseBoard_1 ?_
  refine j_get (pc := 4) C gf_Days_29 1 rfl rfl d_Days_canLoseBoard_4 ?_
  refine j_iload_n (pc := 7) C d_Days_canLoseBoard_7 rfl 2 rfl ?_
  rcases hJ j (by omega) with e3 | ⟨q1, h2, e3⟩
  · refine j_iald (pc := 8) C 2 rfl (v := (-1)) (vp_in_nI (by omega) (by decide)) (by rw [nI_clamp (by omega)]; exact e3) d_Days_canLoseBoard_8 ?_
    refine j_istore_n (pc := 9) C (lv' := [(3, .int (-1)), (0, .ref (ad 0)), (1, .ref h), (2, .int (nI j))]) d_Days_canLoseBoard_9 rfl (by decide) rfl ?_
    refine j_aload_n (pc := 10) C d_Days_canLoseBoard_10 rfl 2 rfl ?_
    refine j_get (pc := 11) C gf_Days_34 3 rfl rfl d_Days_canLoseBoard_11 ?_
    refine j_iload_n (pc := 14) C d_Days_canLoseBoard_14 rfl 3 rfl ?_
    refine j_iald (pc := 15) C 4 rfl (v := f0 (nI j).toNatClampNeg) (vp_in_nI (by omega) (by decide)) rfl d_Days_canLoseBoard_15 ?_
    refine j_if_le (pc := 16) C (tgt := 37) d_Days_canLoseBoard_16 (by decide) (fun c4 => ?_) (fun c4 => ?_)
    · refine j_iconst (pc := 37) C (v := 0) d_Days_canLoseBoard_37 (by decide) ?_
      exact j_iret (pc := 38) C hr (by decide) () (by decide) [0, 1, 2, 3, 4] rfl (by decide) (by decide) (by decide) d_Days_canLoseBoard_38
    · refine j_iload_n (pc := 19) C d_Days_canLoseBoard_19 rfl 0 rfl ?_
      refine j_iconst (pc := 20) C (v := (-1)) d_Days_canLoseBoard_20 (by decide) ?_
      refine j_icmp_eqT (pc := 21) C (tgt := 33) d_Days_canLoseBoard_21 (by decide) (by decide) ?_
      refine j_iconst (pc := 33) C (v := 1) d_Days_canLoseBoard_33 (by decide) ?_
      refine j_goto (pc := 34) C (tgt := 38) d_Days_canLoseBoard_34 (by decide) ?_
      exact j_iret (pc := 38) C hr (by decide) () (by decide) [0, 1, 2, 3, 4] rfl (by decide) (by decide) (by decide) d_Days_canLoseBoard_38
  · refine j_iald (pc := 8) C 2 rfl (v := nI q1) (vp_in_nI (by omega) (by decide)) (by rw [nI_clamp (by omega)]; exact e3) d_Days_canLoseBoard_8 ?_
    refine j_istore_n (pc := 9) C (lv' := [(3, .int (nI q1)), (0, .ref (ad 0)), (1, .ref h), (2, .int (nI j))]) d_Days_canLoseBoard_9 rfl (by decide) rfl ?_
    refine j_aload_n (pc := 10) C d_Days_canLoseBoard_10 rfl 2 rfl ?_
    refine j_get (pc := 11) C gf_Days_34 3 rfl rfl d_Days_canLoseBoard_11 ?_
    refine j_iload_n (pc := 14) C d_Days_canLoseBoard_14 rfl 3 rfl ?_
    refine j_iald (pc := 15) C 4 rfl (v := f0 (nI j).toNatClampNeg) (vp_in_nI (by omega) (by decide)) rfl d_Days_canLoseBoard_15 ?_
    refine j_if_le (pc := 16) C (tgt := 37) d_Days_canLoseBoard_16 (by decide) (fun c5 => ?_) (fun c5 => ?_)
    · refine j_iconst (pc := 37) C (v := 0) d_Days_canLoseBoard_37 (by decide) ?_
      exact j_iret (pc := 38) C hr (by decide) () (by decide) [0, 1, 2, 3, 4] rfl (by decide) (by decide) (by decide) d_Days_canLoseBoard_38
    · refine j_iload_n (pc := 19) C d_Days_canLoseBoard_19 rfl 0 rfl ?_
      refine j_iconst (pc := 20) C (v := (-1)) d_Days_canLoseBoard_20 (by decide) ?_
      refine j_icmp_eqF (pc := 21) C (tgt := 33) d_Days_canLoseBoard_21 (by decide) (nI_nm1 (by omega)) ?_
      refine j_aload_n (pc := 24) C d_Days_canLoseBoard_24 rfl 2 rfl ?_
      refine j_get (pc := 25) C gf_Days_34 3 rfl rfl d_Days_canLoseBoard_25 ?_
      refine j_iload_n (pc := 28) C d_Days_canLoseBoard_28 rfl 0 rfl ?_
      refine j_iald (pc := 29) C 4 rfl (v := f0 (nI q1).toNatClampNeg) (vp_in_nI (by omega) (by decide)) rfl d_Days_canLoseBoard_29 ?_
      refine j_if_le (pc := 30) C (tgt := 37) d_Days_canLoseBoard_30 (by decide) (fun c6 => ?_) (fun c6 => ?_)
      · refine j_iconst (pc := 37) C (v := 0) d_Days_canLoseBoard_37 (by decide) ?_
        exact j_iret (pc := 38) C hr (by decide) () (by decide) [0, 1, 2, 3, 4] rfl (by decide) (by decide) (by decide) d_Days_canLoseBoard_38
      · refine j_iconst (pc := 33) C (v := 1) d_Days_canLoseBoard_33 (by decide) ?_
        refine j_goto (pc := 34) C (tgt := 38) d_Days_canLoseBoard_34 (by decide) ?_
        exact j_iret (pc := 38) C hr (by decide) () (by decide) [0, 1, 2, 3, 4] rfl (by decide) (by decide) (by decide) d_Days_canLoseBoard_38
theorem d_Days_loseBoard_0 : decode prog_3_method_13_code 0 = .ok (.aload_n 0, 1) := by decide +kernel
theorem d_Days_loseBoard_1 : decode prog_3_method_13_code 1 = .ok (.getfield 25, 3) := by decide +kernel
theorem d_Days_loseBoard_4 : decode prog_3_method_13_code 4 = .ok (.getfield 29, 3) := by decide +kernel
theorem d_Days_loseBoard_7 : decode prog_3_method_13_code 7 = .ok (.iload_n 2, 1) := by decide +kernel
theorem d_Days_loseBoard_8 : decode prog_3_method_13_code 8 = .ok (.iaload, 1) := by decide +kernel
theorem d_Days_loseBoard_9 : decode prog_3_method_13_code 9 = .ok (.istore_n 3, 1) := by decide +kernel
theorem d_Days_loseBoard_10 : decode prog_3_method_13_code 10 = .ok (.aload_n 1, 1) := by decide +kernel
theorem d_Days_loseBoard_11 : decode prog_3_method_13_code 11 = .ok (.getfield 34, 3) := by decide +kernel
theorem d_Days_loseBoard_14 : decode prog_3_method_13_code 14 = .ok (.iload_n 2, 1) := by decide +kernel
theorem d_Days_loseBoard_15 : decode prog_3_method_13_code 15 = .ok (.dup2, 1) := by decide +kernel
theorem d_Days_loseBoard_16 : decode prog_3_method_13_code 16 = .ok (.iaload, 1) := by decide +kernel
theorem d_Days_loseBoard_17 : decode prog_3_method_13_code 17 = .ok (.iconst 1, 1) := by decide +kernel
theorem d_Days_loseBoard_18 : decode prog_3_method_13_code 18 = .ok (.isub, 1) := by decide +kernel
theorem d_Days_loseBoard_19 : decode prog_3_method_13_code 19 = .ok (.iastore, 1) := by decide +kernel
theorem d_Days_loseBoard_20 : decode prog_3_method_13_code 20 = .ok (.iload_n 3, 1) := by decide +kernel
theorem d_Days_loseBoard_21 : decode prog_3_method_13_code 21 = .ok (.iconst (-1), 1) := by decide +kernel
theorem d_Days_loseBoard_22 : decode prog_3_method_13_code 22 = .ok (.if_icmp .eq 13, 3) := by decide +kernel
theorem d_Days_loseBoard_35 : decode prog_3_method_13_code 35 = .ok (.return_, 1) := by decide +kernel
theorem d_Days_loseBoard_25 : decode prog_3_method_13_code 25 = .ok (.aload_n 1, 1) := by decide +kernel
theorem d_Days_loseBoard_26 : decode prog_3_method_13_code 26 = .ok (.getfield 34, 3) := by decide +kernel
theorem d_Days_loseBoard_29 : decode prog_3_method_13_code 29 = .ok (.iload_n 3, 1) := by decide +kernel
theorem d_Days_loseBoard_30 : decode prog_3_method_13_code 30 = .ok (.dup2, 1) := by decide +kernel
theorem d_Days_loseBoard_31 : decode prog_3_method_13_code 31 = .ok (.iaload, 1) := by decide +kernel
theorem d_Days_loseBoard_32 : decode prog_3_method_13_code 32 = .ok (.iconst 1, 1) := by decide +kernel
theorem d_Days_loseBoard_33 : decode prog_3_method_13_code 33 = .ok (.isub, 1) := by decide +kernel
theorem d_Days_loseBoard_34 : decode prog_3_method_13_code 34 = .ok (.iastore, 1) := by decide +kernel
set_option maxHeartbeats 4000000 in
set_option maxRecDepth 100000 in
theorem c_loseBoard (l : Launch) (D : va_G) (y : Nat → ClassId) (ad : Nat → Nat) (d : LD) (h : Nat) (sa : Nat → Nat) (sd : Int32) (sw : Int32) (sl : Int32) (f0 : Nat → Int32) (j : Nat) (hJ : ∀ j, j < 9 → d.2 6 j = -1 ∨ ∃ q, q < 9 ∧ d.2 6 j = nI q) (hj : j < 9) : CT l D y ⟨"NineBoards$Days", "loseBoard", "(LNineBoards$Lake;LNineBoards$State;I)V"⟩ prog_3_method_13_code 4 none ({ frames := 0, cells := 0, slots := 0, locals := 0 } : Room) [.ref (ad 0), .ref h, .int (nI j)] [(ad 0, .inr (2, [.int (d.1 0), .int (d.1 1), .int (d.1 2), .int (d.1 3), .ref (ad 1), .int (d.1 4), .ref (ad 11), .ref (ad 12), .ref (ad 2), .ref (ad 3), .int (d.1 5), .int (d.1 6), .int (d.1 7), .int (d.1 8)])), (ad 1, .inr (1, [.int (d.1 9), .ref (ad 4), .ref (ad 5), .ref (ad 6), .ref (ad 7), .ref (ad 8), .ref (ad 9), .ref (ad 10)])), (ad 10, .inl (y 0, 9, .inl (d.2 6))), (h, .inr (7, [.int sd, .int sw, .int sl, .ref (sa 0), .ref (sa 1), .ref (sa 2), .ref (sa 3), .ref (sa 4), .ref (sa 5), .ref (sa 6)])), (sa 0, .inl (y 0, 9, .inl f0))] (QV D [(ad 0, .inr (2, [.int (d.1 0), .int (d.1 1), .int (d.1 2), .int (d.1 3), .ref (ad 1), .int (d.1 4), .ref (ad 11), .ref (ad 12), .ref (ad 2), .ref (ad 3), .int (d.1 5), .int (d.1 6), .int (d.1 7), .int (d.1 8)])), (ad 1, .inr (1, [.int (d.1 9), .ref (ad 4), .ref (ad 5), .ref (ad 6), .ref (ad 7), .ref (ad 8), .ref (ad 9), .ref (ad 10)])), (ad 10, .inl (y 0, 9, .inl (d.2 6))), (h, .inr (7, [.int sd, .int sw, .int sl, .ref (sa 0), .ref (sa 1), .ref (sa 2), .ref (sa 3), .ref (sa 4), .ref (sa 5), .ref (sa 6)])), (sa 0, .inl (y 0, 9, .inl f0))] (fun (_ : Nat → Int32) => True) (fun u => [(ad 0, .inr (2, [.int (d.1 0), .int (d.1 1), .int (d.1 2), .int (d.1 3), .ref (ad 1), .int (d.1 4), .ref (ad 11), .ref (ad 12), .ref (ad 2), .ref (ad 3), .int (d.1 5), .int (d.1 6), .int (d.1 7), .int (d.1 8)])), (ad 1, .inr (1, [.int (d.1 9), .ref (ad 4), .ref (ad 5), .ref (ad 6), .ref (ad 7), .ref (ad 8), .ref (ad 9), .ref (ad 10)])), (ad 10, .inl (y 0, 9, .inl (d.2 6))), (h, .inr (7, [.int sd, .int sw, .int sl, .ref (sa 0), .ref (sa 1), .ref (sa 2), .ref (sa 3), .ref (sa 4), .ref (sa 5), .ref (sa 6)])), (sa 0, .inl (y 0, 9, .inl u))])) := by
  refine CT.of (by decide) (nb rfl) ?_
  intro p e s m args below meth c C hr
  refine j_lv (lv' := [(0, .ref (ad 0)), (1, .ref h), (2, .int (nI j))]) rfl ?_
  refine j_aload_n (pc := 0) C d_Days_loseBoard_0 rfl 0 rfl ?_
  refine j_get (pc := 1) C gf_Days_25 0 rfl rfl d_Days_loseBoard_1 ?_
  refine j_get (pc := 4) C gf_Days_29 1 rfl rfl d_Days_loseBoard_4 ?_
  refine j_iload_n (pc := 7) C d_Days_loseBoard_7 rfl 2 rfl ?_
  rcases hJ j (by omega) with e3 | ⟨q1, h2, e3⟩
  · refine j_iald (pc := 8) C 2 rfl (v := (-1)) (vp_in_nI (by omega) (by decide)) (by rw [nI_clamp (by omega)]; exact e3) d_Days_loseBoard_8 ?_
    refine j_istore_n (pc := 9) C (lv' := [(3, .int (-1)), (0, .ref (ad 0)), (1, .ref h), (2, .int (nI j))]) d_Days_loseBoard_9 rfl (by decide) rfl ?_
    refine j_aload_n (pc := 10) C d_Days_loseBoard_10 rfl 2 rfl ?_
    refine j_get (pc := 11) C gf_Days_34 3 rfl rfl d_Days_loseBoard_11 ?_
    refine j_iload_n (pc := 14) C d_Days_loseBoard_14 rfl 3 rfl ?_
    refine j_dup2 (pc := 15) C d_Days_loseBoard_15 rfl rfl ?_
    refine j_iald (pc := 16) C 4 rfl (v := f0 (nI j).toNatClampNeg) (vp_in_nI (by omega) (by decide)) rfl d_Days_loseBoard_16 ?_
    refine j_iconst (pc := 17) C (v := 1) d_Days_loseBoard_17 (by decide) ?_
    refine j_isub (pc := 18) C (v := (f0 (nI j).toNatClampNeg) - 1) d_Days_loseBoard_18 rfl ?_
    refine j_iast (pc := 19) C 4 rfl (ws' := [(ad 0, .inr (2, [.int (d.1 0), .int (d.1 1), .int (d.1 2), .int (d.1 3), .ref (ad 1), .int (d.1 4), .ref (ad 11), .ref (ad 12), .ref (ad 2), .ref (ad 3), .int (d.1 5), .int (d.1 6), .int (d.1 7), .int (d.1 8)])), (ad 1, .inr (1, [.int (d.1 9), .ref (ad 4), .ref (ad 5), .ref (ad 6), .ref (ad 7), .ref (ad 8), .ref (ad 9), .ref (ad 10)])), (ad 10, .inl (y 0, 9, .inl (d.2 6))), (h, .inr (7, [.int sd, .int sw, .int sl, .ref (sa 0), .ref (sa 1), .ref (sa 2), .ref (sa 3), .ref (sa 4), .ref (sa 5), .ref (sa 6)])), (sa 0, .inl (y 0, 9, .inl (upd f0 (nI j).toNatClampNeg ((f0 (nI j).toNatClampNeg) - 1))))]) (vp_in_nI (by omega) (by decide)) rfl d_Days_loseBoard_19 ?_
    refine j_iload_n (pc := 20) C d_Days_loseBoard_20 rfl 0 rfl ?_
    refine j_iconst (pc := 21) C (v := (-1)) d_Days_loseBoard_21 (by decide) ?_
    refine j_icmp_eqT (pc := 22) C (tgt := 35) d_Days_loseBoard_22 (by decide) (by decide) ?_
    exact j_vret (pc := 35) C hr (upd f0 (nI j).toNatClampNeg ((f0 (nI j).toNatClampNeg) - 1)) trivial [0, 1, 2, 3, 4] rfl (by decide) (by decide) (by decide) d_Days_loseBoard_35
  · refine j_iald (pc := 8) C 2 rfl (v := nI q1) (vp_in_nI (by omega) (by decide)) (by rw [nI_clamp (by omega)]; exact e3) d_Days_loseBoard_8 ?_
    refine j_istore_n (pc := 9) C (lv' := [(3, .int (nI q1)), (0, .ref (ad 0)), (1, .ref h), (2, .int (nI j))]) d_Days_loseBoard_9 rfl (by decide) rfl ?_
    refine j_aload_n (pc := 10) C d_Days_loseBoard_10 rfl 2 rfl ?_
    refine j_get (pc := 11) C gf_Days_34 3 rfl rfl d_Days_loseBoard_11 ?_
    refine j_iload_n (pc := 14) C d_Days_loseBoard_14 rfl 3 rfl ?_
    refine j_dup2 (pc := 15) C d_Days_loseBoard_15 rfl rfl ?_
    refine j_iald (pc := 16) C 4 rfl (v := f0 (nI j).toNatClampNeg) (vp_in_nI (by omega) (by decide)) rfl d_Days_loseBoard_16 ?_
    refine j_iconst (pc := 17) C (v := 1) d_Days_loseBoard_17 (by decide) ?_
    refine j_isub (pc := 18) C (v := (f0 (nI j).toNatClampNeg) - 1) d_Days_loseBoard_18 rfl ?_
    refine j_iast (pc := 19) C 4 rfl (ws' := [(ad 0, .inr (2, [.int (d.1 0), .int (d.1 1), .int (d.1 2), .int (d.1 3), .ref (ad 1), .int (d.1 4), .ref (ad 11), .ref (ad 12), .ref (ad 2), .ref (ad 3), .int (d.1 5), .int (d.1 6), .int (d.1 7), .int (d.1 8)])), (ad 1, .inr (1, [.int (d.1 9), .ref (ad 4), .ref (ad 5), .ref (ad 6), .ref (ad 7), .ref (ad 8), .ref (ad 9), .ref (ad 10)])), (ad 10, .inl (y 0, 9, .inl (d.2 6))), (h, .inr (7, [.int sd, .int sw, .int sl, .ref (sa 0), .ref (sa 1), .ref (sa 2), .ref (sa 3), .ref (sa 4), .ref (sa 5), .ref (sa 6)])), (sa 0, .inl (y 0, 9, .inl (upd f0 (nI j).toNatClampNeg ((f0 (nI j).toNatClampNeg) - 1))))]) (vp_in_nI (by omega) (by decide)) rfl d_Days_loseBoard_19 ?_
    refine j_iload_n (pc := 20) C d_Days_loseBoard_20 rfl 0 rfl ?_
    refine j_iconst (pc := 21) C (v := (-1)) d_Days_loseBoard_21 (by decide) ?_
    refine j_icmp_eqF (pc := 22) C (tgt := 35) d_Days_loseBoard_22 (by decide) (nI_nm1 (by omega)) ?_
    refine j_aload_n (pc := 25) C d_Days_loseBoard_25 rfl 2 rfl ?_
    refine j_get (pc := 26) C gf_Days_34 3 rfl rfl d_Days_loseBoard_26 ?_
    refine j_iload_n (pc := 29) C d_Days_loseBoard_29 rfl 0 rfl ?_
    refine j_dup2 (pc := 30) C d_Days_loseBoard_30 rfl rfl ?_
    refine j_iald (pc := 31) C 4 rfl (v := (upd f0 (nI j).toNatClampNeg ((f0 (nI j).toNatClampNeg) - 1)) (nI q1).toNatClampNeg) (vp_in_nI (by omega) (by decide)) rfl d_Days_loseBoard_31 ?_
    refine j_iconst (pc := 32) C (v := 1) d_Days_loseBoard_32 (by decide) ?_
    refine j_isub (pc := 33) C (v := ((upd f0 (nI j).toNatClampNeg ((f0 (nI j).toNatClampNeg) - 1)) (nI q1).toNatClampNeg) - 1) d_Days_loseBoard_33 rfl ?_
    refine j_iast (pc := 34) C 4 rfl (ws' := [(ad 0, .inr (2, [.int (d.1 0), .int (d.1 1), .int (d.1 2), .int (d.1 3), .ref (ad 1), .int (d.1 4), .ref (ad 11), .ref (ad 12), .ref (ad 2), .ref (ad 3), .int (d.1 5), .int (d.1 6), .int (d.1 7), .int (d.1 8)])), (ad 1, .inr (1, [.int (d.1 9), .ref (ad 4), .ref (ad 5), .ref (ad 6), .ref (ad 7), .ref (ad 8), .ref (ad 9), .ref (ad 10)])), (ad 10, .inl (y 0, 9, .inl (d.2 6))), (h, .inr (7, [.int sd, .int sw, .int sl, .ref (sa 0), .ref (sa 1), .ref (sa 2), .ref (sa 3), .ref (sa 4), .ref (sa 5), .ref (sa 6)])), (sa 0, .inl (y 0, 9, .inl (upd (upd f0 (nI j).toNatClampNeg ((f0 (nI j).toNatClampNeg) - 1)) (nI q1).toNatClampNeg (((upd f0 (nI j).toNatClampNeg ((f0 (nI j).toNatClampNeg) - 1)) (nI q1).toNatClampNeg) - 1))))]) (vp_in_nI (by omega) (by decide)) rfl d_Days_loseBoard_34 ?_
    exact j_vret (pc := 35) C hr (upd (upd f0 (nI j).toNatClampNeg ((f0 (nI j).toNatClampNeg) - 1)) (nI q1).toNatClampNeg (((upd f0 (nI j).toNatClampNeg ((f0 (nI j).toNatClampNeg) - 1)) (nI q1).toNatClampNeg) - 1)) trivial [0, 1, 2, 3, 4] rfl (by decide) (by decide) (by decide) d_Days_loseBoard_35
end
section
theorem d_Days_setFlows_17 : decode prog_3_method_8_code 17 = .ok (.iload 4, 2) := by decide +kernel
theorem d_Days_setFlows_19 : decode prog_3_method_8_code 19 = .ok (.aload_n 0, 1) := by decide +kernel
theorem d_Days_setFlows_20 : decode prog_3_method_8_code 20 = .ok (.getfield 25, 3) := by decide +kernel
theorem d_Days_setFlows_23 : decode prog_3_method_8_code 23 = .ok (.getfield 112, 3) := by decide +kernel
theorem gf_Days_112 : GF "NineBoards$Days" 112 1 0 := ⟨_, _, _, rfl, ci_Gates, by decide, (mt_1 (List.mem_of_getElem? (i := 143) rfl) rfl)⟩
theorem d_Days_setFlows_26 : decode prog_3_method_8_code 26 = .ok (.if_icmp .ge 51, 3) := by decide +kernel
theorem d_Days_setFlows_29 : decode prog_3_method_8_code 29 = .ok (.aload_n 1, 1) := by decide +kernel
theorem d_Days_setFlows_30 : decode prog_3_method_8_code 30 = .ok (.getfield 115, 3) := by decide +kernel
theorem gf_Days_115 : GF "NineBoards$Days" 115 7 4 := ⟨_, _, _, rfl, ci_State, by decide, (mt_1 (List.mem_of_getElem? (i := 67) rfl) rfl)⟩
theorem d_Days_setFlows_33 : decode prog_3_method_8_code 33 = .ok (.iload 4, 2) := by decide +kernel
theorem d_Days_setFlows_35 : decode prog_3_method_8_code 35 = .ok (.iload_n 3, 1) := by decide +kernel
theorem d_Days_setFlows_36 : decode prog_3_method_8_code 36 = .ok (.aload_n 0, 1) := by decide +kernel
theorem d_Days_setFlows_37 : decode prog_3_method_8_code 37 = .ok (.getfield 25, 3) := by decide +kernel
theorem d_Days_setFlows_40 : decode prog_3_method_8_code 40 = .ok (.iload 4, 2) := by decide +kernel
theorem d_Days_setFlows_42 : decode prog_3_method_8_code 42 = .ok (.aload_n 1, 1) := by decide +kernel
theorem d_Days_setFlows_43 : decode prog_3_method_8_code 43 = .ok (.getfield 34, 3) := by decide +kernel
theorem d_Days_setFlows_46 : decode prog_3_method_8_code 46 = .ok (.iload 4, 2) := by decide +kernel
theorem d_Days_setFlows_48 : decode prog_3_method_8_code 48 = .ok (.iaload, 1) := by decide +kernel
theorem d_Days_setFlows_49 : decode prog_3_method_8_code 49 = .ok (.iload_n 2, 1) := by decide +kernel
theorem d_Days_setFlows_50 : decode prog_3_method_8_code 50 = .ok (.aload_n 1, 1) := by decide +kernel
theorem d_Days_setFlows_51 : decode prog_3_method_8_code 51 = .ok (.getfield 59, 3) := by decide +kernel
theorem d_Days_setFlows_54 : decode prog_3_method_8_code 54 = .ok (.invokevirtual 118, 3) := by decide +kernel
theorem kw_Days_118 : KW "NineBoards$Days" 118 ⟨"NineBoards$Gates", "fullFlow", "(IIII)I"⟩ prog_4_method_3_code 7 (some .int) 4 := ⟨(mt_4 (List.mem_of_getElem? (i := 7) rfl) rfl), (mt_1 (List.mem_of_getElem? (i := 7) rfl) rfl), (mt_4 (List.mem_of_getElem? (i := 10) rfl) rfl), by decide +kernel⟩
theorem kv_Gates_fullFlow : Cond.instanceMethod ⟨"NineBoards$Gates", "fullFlow", "(IIII)I"⟩ ∈ TB ∧ Cond.selects "NineBoards$Gates" ⟨"NineBoards$Gates", "fullFlow", "(IIII)I"⟩ ⟨"NineBoards$Gates", "fullFlow", "(IIII)I"⟩ ∈ TB := ⟨(mt_4 (List.mem_of_getElem? (i := 8) rfl) rfl), (mt_4 (List.mem_of_getElem? (i := 9) rfl) rfl)⟩
theorem d_Days_setFlows_57 : decode prog_3_method_8_code 57 = .ok (.invokestatic 84, 3) := by decide +kernel
theorem d_Days_setFlows_60 : decode prog_3_method_8_code 60 = .ok (.iastore, 1) := by decide +kernel
theorem d_Days_setFlows_61 : decode prog_3_method_8_code 61 = .ok (.iload_n 3, 1) := by decide +kernel
theorem d_Days_setFlows_62 : decode prog_3_method_8_code 62 = .ok (.aload_n 1, 1) := by decide +kernel
theorem d_Days_setFlows_63 : decode prog_3_method_8_code 63 = .ok (.getfield 115, 3) := by decide +kernel
theorem d_Days_setFlows_66 : decode prog_3_method_8_code 66 = .ok (.iload 4, 2) := by decide +kernel
theorem d_Days_setFlows_68 : decode prog_3_method_8_code 68 = .ok (.iaload, 1) := by decide +kernel
theorem d_Days_setFlows_69 : decode prog_3_method_8_code 69 = .ok (.isub, 1) := by decide +kernel
theorem d_Days_setFlows_70 : decode prog_3_method_8_code 70 = .ok (.istore_n 3, 1) := by decide +kernel
theorem d_Days_setFlows_71 : decode prog_3_method_8_code 71 = .ok (.iinc 4 1, 3) := by decide +kernel
theorem d_Days_setFlows_74 : decode prog_3_method_8_code 74 = .ok (.goto (-57), 3) := by decide +kernel
theorem d_Days_setFlows_0 : decode prog_3_method_8_code 0 = .ok (.aload_n 0, 1) := by decide +kernel
theorem d_Days_setFlows_1 : decode prog_3_method_8_code 1 = .ok (.aload_n 1, 1) := by decide +kernel
theorem d_Days_setFlows_2 : decode prog_3_method_8_code 2 = .ok (.getfield 62, 3) := by decide +kernel
theorem gf_Days_62 : GF "NineBoards$Days" 62 7 1 := ⟨_, _, _, rfl, ci_State, by decide, (mt_1 (List.mem_of_getElem? (i := 58) rfl) rfl)⟩
theorem d_Days_setFlows_5 : decode prog_3_method_8_code 5 = .ok (.invokevirtual 65, 3) := by decide +kernel
theorem kw_Days_65 : KW "NineBoards$Days" 65 ⟨"NineBoards$Lake", "levelAt", "(I)I"⟩ prog_5_method_7_code 2 (some .int) 1 := ⟨(mt_4 (List.mem_of_getElem? (i := 6) rfl) rfl), (mt_1 (List.mem_of_getElem? (i := 6) rfl) rfl), (mt_3 (List.mem_of_getElem? (i := 216) rfl) rfl), by decide +kernel⟩
theorem kv_Lake_levelAt : Cond.instanceMethod ⟨"NineBoards$Lake", "levelAt", "(I)I"⟩ ∈ TB ∧ Cond.selects "NineBoards$Lake" ⟨"NineBoards$Lake", "levelAt", "(I)I"⟩ ⟨"NineBoards$Lake", "levelAt", "(I)I"⟩ ∈ TB := ⟨(mt_3 (List.mem_of_getElem? (i := 214) rfl) rfl), (mt_3 (List.mem_of_getElem? (i := 215) rfl) rfl)⟩
theorem d_Days_setFlows_8 : decode prog_3_method_8_code 8 = .ok (.istore_n 2, 1) := by decide +kernel
theorem d_Days_setFlows_9 : decode prog_3_method_8_code 9 = .ok (.aload_n 1, 1) := by decide +kernel
theorem d_Days_setFlows_10 : decode prog_3_method_8_code 10 = .ok (.getfield 62, 3) := by decide +kernel
theorem d_Days_setFlows_13 : decode prog_3_method_8_code 13 = .ok (.istore_n 3, 1) := by decide +kernel
theorem d_Days_setFlows_14 : decode prog_3_method_8_code 14 = .ok (.iconst 0, 1) := by decide +kernel
theorem d_Days_setFlows_15 : decode prog_3_method_8_code 15 = .ok (.istore 4, 2) := by decide +kernel
theorem d_Days_setFlows_77 : decode prog_3_method_8_code 77 = .ok (.aload_n 1, 1) := by decide +kernel
theorem d_Days_setFlows_78 : decode prog_3_method_8_code 78 = .ok (.getfield 62, 3) := by decide +kernel
theorem d_Days_setFlows_81 : decode prog_3_method_8_code 81 = .ok (.iload_n 3, 1) := by decide +kernel
theorem d_Days_setFlows_82 : decode prog_3_method_8_code 82 = .ok (.isub, 1) := by decide +kernel
theorem d_Days_setFlows_83 : decode prog_3_method_8_code 83 = .ok (.ireturn, 1) := by decide +kernel
set_option maxHeartbeats 4000000 in
set_option maxRecDepth 100000 in
theorem lp_setFlows {p : Program} {l : Launch} {e : Env} {s : State} {m : MethodId} {args : Array Value} {below : List Frame} {meth : Method} {c : Code} {Q : State → Prop} {D : va_G} {y : Nat → ClassId} {A : Nat → Prop} (C : Cx p s m args meth c D y A prog_3_method_8_code 5 "NineBoards$Days" "setFlows") (ad : Nat → Nat) (d : LD) (n9 : Nat) (h : Nat) (sa : Nat → Nat) (sd : Int32) (sw : Int32) (sl : Int32) (f0 : Nat → Int32) (lvl : Int32) (h9 : d.1 9 = nI n9) (b9 : n9 ≤ 9) (kx : ∀ (lf : Int32) (f1 : Nat → Int32), J p l e ({ frames := 2, cells := 0, slots := 0, locals := 43 } : Room) s m args below meth c Q D A 5 [(ad 0, .inr (2, [.int (d.1 0), .int (d.1 1), .int (d.1 2), .int (d.1 3), .ref (ad 1), .int (d.1 4), .ref (ad 11), .ref (ad 12), .ref (ad 2), .ref (ad 3), .int (d.1 5), .int (d.1 6), .int (d.1 7), .int (d.1 8)])), (ad 1, .inr (1, [.int (d.1 9), .ref (ad 4), .ref (ad 5), .ref (ad 6), .ref (ad 7), .ref (ad 8), .ref (ad 9), .ref (ad 10)])), (ad 5, .inl (y 0, 9, .inl (d.2 1))), (ad 6, .inl (y 0, 9, .inl (d.2 2))), (ad 7, .inl (y 0, 9, .inl (d.2 3))), (ad 9, .inl (y 0, 9, .inl (d.2 5))), (h, .inr (7, [.int sd, .int sw, .int sl, .ref (sa 0), .ref (sa 1), .ref (sa 2), .ref (sa 3), .ref (sa 4), .ref (sa 5), .ref (sa 6)])), (sa 0, .inl (y 0, 9, .inl f0)), (sa 1, .inl (y 0, 9, .inl f1))] [(0, .ref (ad 0)), (1, .ref h), (2, .int lvl), (3, .int lf), (4, .int (nI n9))] 0 0 77 []) : ∀ (n : Nat) (i : Nat) (lf : Int32) (f1 : Nat → Int32), (i + n = n9) → J p l e ({ frames := 2, cells := 0, slots := 0, locals := 43 } : Room) s m args below meth c Q D A 5 [(ad 0, .inr (2, [.int (d.1 0), .int (d.1 1), .int (d.1 2), .int (d.1 3), .ref (ad 1), .int (d.1 4), .ref (ad 11), .ref (ad 12), .ref (ad 2), .ref (ad 3), .int (d.1 5), .int (d.1 6), .int (d.1 7), .int (d.1 8)])), (ad 1, .inr (1, [.int (d.1 9), .ref (ad 4), .ref (ad 5), .ref (ad 6), .ref (ad 7), .ref (ad 8), .ref (ad 9), .ref (ad 10)])), (ad 5, .inl (y 0, 9, .inl (d.2 1))), (ad 6, .inl (y 0, 9, .inl (d.2 2))), (ad 7, .inl (y 0, 9, .inl (d.2 3))), (ad 9, .inl (y 0, 9, .inl (d.2 5))), (h, .inr (7, [.int sd, .int sw, .int sl, .ref (sa 0), .ref (sa 1), .ref (sa 2), .ref (sa 3), .ref (sa 4), .ref (sa 5), .ref (sa 6)])), (sa 0, .inl (y 0, 9, .inl f0)), (sa 1, .inl (y 0, 9, .inl f1))] [(0, .ref (ad 0)), (1, .ref h), (2, .int lvl), (3, .int lf), (4, .int (nI i))] 0 0 17 [] := by
  intro n
  induction n with
  | zero =>
    intro i lf f1 hi
    obtain rfl : i = n9 := by omega
    refine j_iload (pc := 17) C d_Days_setFlows_17 4 rfl ?_
    refine j_aload_n (pc := 19) C d_Days_setFlows_19 rfl 0 rfl ?_
    refine j_get (pc := 20) C gf_Days_25 0 rfl rfl d_Days_setFlows_20 ?_
    refine j_get (pc := 23) C gf_Days_112 1 rfl rfl d_Days_setFlows_23 ?_
    refine j_icmp_geT (pc := 26) C (tgt := 77) d_Days_setFlows_26 (by decide) (by rw [h9]; exact Int32.le_refl _) ?_
    exact kx _ _
  | succ n ih =>
    intro i lf f1 hi
    refine j_iload (pc := 17) C d_Days_setFlows_17 4 rfl ?_
    refine j_aload_n (pc := 19) C d_Days_setFlows_19 rfl 0 rfl ?_
    refine j_get (pc := 20) C gf_Days_25 0 rfl rfl d_Days_setFlows_20 ?_
    refine j_get (pc := 23) C gf_Days_112 1 rfl rfl d_Days_setFlows_23 ?_
    refine j_icmp_geF (pc := 26) C (tgt := 77) d_Days_setFlows_26 (by decide) (by rw [h9]; exact nI_ge (by omega) (by omega)) ?_
    refine j_aload_n (pc := 29) C d_Days_setFlows_29 rfl 1 rfl ?_
    refine j_get (pc := 30) C gf_Days_115 6 rfl rfl d_Days_setFlows_30 ?_
    refine j_iload (pc := 33) C d_Days_setFlows_33 4 rfl ?_
    refine j_iload_n (pc := 35) C d_Days_setFlows_35 rfl 3 rfl ?_
    refine j_aload_n (pc := 36) C d_Days_setFlows_36 rfl 0 rfl ?_
    refine j_get (pc := 37) C gf_Days_25 0 rfl rfl d_Days_setFlows_37 ?_
    refine j_iload (pc := 40) C d_Days_setFlows_40 4 rfl ?_
    refine j_aload_n (pc := 42) C d_Days_setFlows_42 rfl 1 rfl ?_
    refine j_get (pc := 43) C gf_Days_34 6 rfl rfl d_Days_setFlows_43 ?_
    refine j_iload (pc := 46) C d_Days_setFlows_46 4 rfl ?_
    refine j_iald (pc := 48) C 7 rfl (v := f0 (nI i).toNatClampNeg) (vp_in_nI (by omega) (by decide)) rfl d_Days_setFlows_48 ?_
    refine j_iload_n (pc := 49) C d_Days_setFlows_49 rfl 2 rfl ?_
    refine j_aload_n (pc := 50) C d_Days_setFlows_50 rfl 1 rfl ?_
    refine j_get (pc := 51) C gf_Days_59 6 rfl rfl d_Days_setFlows_51 ?_
    refine j_callVi (pc := 54) C (c_fullFlow l D y ad d i (f0 (nI i).toNatClampNeg) lvl sd (by omega)) kw_Days_118 kv_Gates_fullFlow 0 1 rfl rfl ⟨by decide, by decide⟩ ⟨by decide, by decide⟩ (wr := [(ad 0, .inr (2, [.int (d.1 0), .int (d.1 1), .int (d.1 2), .int (d.1 3), .ref (ad 1), .int (d.1 4), .ref (ad 11), .ref (ad 12), .ref (ad 2), .ref (ad 3), .int (d.1 5), .int (d.1 6), .int (d.1 7), .int (d.1 8)])), (h, .inr (7, [.int sd, .int sw, .int sl, .ref (sa 0), .ref (sa 1), .ref (sa 2), .ref (sa 3), .ref (sa 4), .ref (sa 5), .ref (sa 6)])), (sa 0, .inl (y 0, 9, .inl f0)), (sa 1, .inl (y 0, 9, .inl f1))]) [1, 2, 3, 4, 5] [0, 6, 7, 8] rfl rfl (by decide) (by decide) (by decide) (As := [.int (nI i), .int (f0 (nI i).toNatClampNeg), .int lvl, .int sd]) (rest := [.int lf, .int (nI i), .ref (sa 1)]) rfl (nb rfl) rfl d_Days_setFlows_54 (fun r1 _ hr1 => ?_)
    refine j_ws (ws' := [(ad 0, .inr (2, [.int (d.1 0), .int (d.1 1), .int (d.1 2), .int (d.1 3), .ref (ad 1), .int (d.1 4), .ref (ad 11), .ref (ad 12), .ref (ad 2), .ref (ad 3), .int (d.1 5), .int (d.1 6), .int (d.1 7), .int (d.1 8)])), (h, .inr (7, [.int sd, .int sw, .int sl, .ref (sa 0), .ref (sa 1), .ref (sa 2), .ref (sa 3), .ref (sa 4), .ref (sa 5), .ref (sa 6)])), (sa 0, .inl (y 0, 9, .inl f0)), (sa 1, .inl (y 0, 9, .inl f1)), (ad 1, .inr (1, [.int (d.1 9), .ref (ad 4), .ref (ad 5), .ref (ad 6), .ref (ad 7), .ref (ad 8), .ref (ad 9), .ref (ad 10)])), (ad 5, .inl (y 0, 9, .inl (d.2 1))), (ad 6, .inl (y 0, 9, .inl (d.2 2))), (ad 7, .inl (y 0, 9, .inl (d.2 3))), (ad 9, .inl (y 0, 9, .inl (d.2 5)))]) rfl ?_
    refine j_mmin (pc := 57) C (mt_4 (List.mem_of_getElem? (i := 12) rfl) rfl) (mt_3 (List.mem_of_getElem? (i := 56) rfl) rfl) (mt_1 (List.mem_of_getElem? (i := 3) rfl) rfl) (mt_3 (List.mem_of_getElem? (i := 57) rfl) rfl) (v := if r1 < lf then r1 else lf) rfl (by decide) (nb rfl) (by decide) (by decide) d_Days_setFlows_57 ?_
    refine j_iast (pc := 60) C 3 rfl (ws' := [(ad 0, .inr (2, [.int (d.1 0), .int (d.1 1), .int (d.1 2), .int (d.1 3), .ref (ad 1), .int (d.1 4), .ref (ad 11), .ref (ad 12), .ref (ad 2), .ref (ad 3), .int (d.1 5), .int (d.1 6), .int (d.1 7), .int (d.1 8)])), (h, .inr (7, [.int sd, .int sw, .int sl, .ref (sa 0), .ref (sa 1), .ref (sa 2), .ref (sa 3), .ref (sa 4), .ref (sa 5), .ref (sa 6)])), (sa 0, .inl (y 0, 9, .inl f0)), (sa 1, .inl (y 0, 9, .inl (upd f1 (nI i).toNatClampNeg (if r1 < lf then r1 else lf)))), (ad 1, .inr (1, [.int (d.1 9), .ref (ad 4), .ref (ad 5), .ref (ad 6), .ref (ad 7), .ref (ad 8), .ref (ad 9), .ref (ad 10)])), (ad 5, .inl (y 0, 9, .inl (d.2 1))), (ad 6, .inl (y 0, 9, .inl (d.2 2))), (ad 7, .inl (y 0, 9, .inl (d.2 3))), (ad 9, .inl (y 0, 9, .inl (d.2 5)))]) (vp_in_nI (by omega) (by decide)) rfl d_Days_setFlows_60 ?_
    refine j_iload_n (pc := 61) C d_Days_setFlows_61 rfl 3 rfl ?_
    refine j_aload_n (pc := 62) C d_Days_setFlows_62 rfl 1 rfl ?_
    refine j_get (pc := 63) C gf_Days_115 1 rfl rfl d_Days_setFlows_63 ?_
    refine j_iload (pc := 66) C d_Days_setFlows_66 4 rfl ?_
    refine j_iald (pc := 68) C 3 rfl (v := (upd f1 (nI i).toNatClampNeg (if r1 < lf then r1 else lf)) (nI i).toNatClampNeg) (vp_in_nI (by omega) (by decide)) rfl d_Days_setFlows_68 ?_
    refine j_isub (pc := 69) C (v := lf - ((upd f1 (nI i).toNatClampNeg (if r1 < lf then r1 else lf)) (nI i).toNatClampNeg)) d_Days_setFlows_69 rfl ?_
    refine j_istore_n (pc := 70) C (lv' := [(3, .int (lf - ((upd f1 (nI i).toNatClampNeg (if r1 < lf then r1 else lf)) (nI i).toNatClampNeg))), (0, .ref (ad 0)), (1, .ref h), (2, .int lvl), (4, .int (nI i))]) d_Days_setFlows_70 rfl (by decide) rfl ?_
    refine j_iinc (pc := 71) C (v := nI (i + 1)) (lv' := [(4, .int (nI (i + 1))), (3, .int (lf - ((upd f1 (nI i).toNatClampNeg (if r1 < lf then r1 else lf)) (nI i).toNatClampNeg))), (0, .ref (ad 0)), (1, .ref h), (2, .int lvl)]) d_Days_setFlows_71 4 rfl (nI_1 _) (by decide) rfl ?_
    refine j_goto (pc := 74) C (tgt := 17) d_Days_setFlows_74 (by decide) ?_
    refine j_sub (ws' := [(ad 0, .inr (2, [.int (d.1 0), .int (d.1 1), .int (d.1 2), .int (d.1 3), .ref (ad 1), .int (d.1 4), .ref (ad 11), .ref (ad 12), .ref (ad 2), .ref (ad 3), .int (d.1 5), .int (d.1 6), .int (d.1 7), .int (d.1 8)])), (ad 1, .inr (1, [.int (d.1 9), .ref (ad 4), .ref (ad 5), .ref (ad 6), .ref (ad 7), .ref (ad 8), .ref (ad 9), .ref (ad 10)])), (ad 5, .inl (y 0, 9, .inl (d.2 1))), (ad 6, .inl (y 0, 9, .inl (d.2 2))), (ad 7, .inl (y 0, 9, .inl (d.2 3))), (ad 9, .inl (y 0, 9, .inl (d.2 5))), (h, .inr (7, [.int sd, .int sw, .int sl, .ref (sa 0), .ref (sa 1), .ref (sa 2), .ref (sa 3), .ref (sa 4), .ref (sa 5), .ref (sa 6)])), (sa 0, .inl (y 0, 9, .inl f0)), (sa 1, .inl (y 0, 9, .inl (upd f1 (nI i).toNatClampNeg (if r1 < lf then r1 else lf))))]) [0, 4, 5, 6, 7, 8, 1, 2, 3] rfl (by decide) ?_
    refine j_locs (lv' := [(0, .ref (ad 0)), (1, .ref h), (2, .int lvl), (3, .int (lf - ((upd f1 (nI i).toNatClampNeg (if r1 < lf then r1 else lf)) (nI i).toNatClampNeg))), (4, .int (nI (i + 1)))]) [2, 3, 4, 1, 0] rfl ?_
    exact ih (i + 1) _ _ (by omega)
set_option maxHeartbeats 4000000 in
set_option maxRecDepth 100000 in
theorem c_setFlows (l : Launch) (D : va_G) (y : Nat → ClassId) (ad : Nat → Nat) (d : LD) (n9 : Nat) (h : Nat) (sa : Nat → Nat) (sd : Int32) (sw : Int32) (sl : Int32) (f0 : Nat → Int32) (f1 : Nat → Int32) (h9 : d.1 9 = nI n9) (b9 : n9 ≤ 9) : CT l D y ⟨"NineBoards$Days", "setFlows", "(LNineBoards$Lake;LNineBoards$State;)I"⟩ prog_3_method_8_code 5 (some .int) ({ frames := 2, cells := 0, slots := 0, locals := 43 } : Room) [.ref (ad 0), .ref h] [(ad 0, .inr (2, [.int (d.1 0), .int (d.1 1), .int (d.1 2), .int (d.1 3), .ref (ad 1), .int (d.1 4), .ref (ad 11), .ref (ad 12), .ref (ad 2), .ref (ad 3), .int (d.1 5), .int (d.1 6), .int (d.1 7), .int (d.1 8)])), (ad 1, .inr (1, [.int (d.1 9), .ref (ad 4), .ref (ad 5), .ref (ad 6), .ref (ad 7), .ref (ad 8), .ref (ad 9), .ref (ad 10)])), (ad 5, .inl (y 0, 9, .inl (d.2 1))), (ad 6, .inl (y 0, 9, .inl (d.2 2))), (ad 7, .inl (y 0, 9, .inl (d.2 3))), (ad 9, .inl (y 0, 9, .inl (d.2 5))), (h, .inr (7, [.int sd, .int sw, .int sl, .ref (sa 0), .ref (sa 1), .ref (sa 2), .ref (sa 3), .ref (sa 4), .ref (sa 5), .ref (sa 6)])), (sa 0, .inl (y 0, 9, .inl f0)), (sa 1, .inl (y 0, 9, .inl f1))] (QI D [(ad 0, .inr (2, [.int (d.1 0), .int (d.1 1), .int (d.1 2), .int (d.1 3), .ref (ad 1), .int (d.1 4), .ref (ad 11), .ref (ad 12), .ref (ad 2), .ref (ad 3), .int (d.1 5), .int (d.1 6), .int (d.1 7), .int (d.1 8)])), (ad 1, .inr (1, [.int (d.1 9), .ref (ad 4), .ref (ad 5), .ref (ad 6), .ref (ad 7), .ref (ad 8), .ref (ad 9), .ref (ad 10)])), (ad 5, .inl (y 0, 9, .inl (d.2 1))), (ad 6, .inl (y 0, 9, .inl (d.2 2))), (ad 7, .inl (y 0, 9, .inl (d.2 3))), (ad 9, .inl (y 0, 9, .inl (d.2 5))), (h, .inr (7, [.int sd, .int sw, .int sl, .ref (sa 0), .ref (sa 1), .ref (sa 2), .ref (sa 3), .ref (sa 4), .ref (sa 5), .ref (sa 6)])), (sa 0, .inl (y 0, 9, .inl f0)), (sa 1, .inl (y 0, 9, .inl f1))] (fun (r : Int32) (u : Nat → Int32) => True) (fun u => [(ad 0, .inr (2, [.int (d.1 0), .int (d.1 1), .int (d.1 2), .int (d.1 3), .ref (ad 1), .int (d.1 4), .ref (ad 11), .ref (ad 12), .ref (ad 2), .ref (ad 3), .int (d.1 5), .int (d.1 6), .int (d.1 7), .int (d.1 8)])), (ad 1, .inr (1, [.int (d.1 9), .ref (ad 4), .ref (ad 5), .ref (ad 6), .ref (ad 7), .ref (ad 8), .ref (ad 9), .ref (ad 10)])), (ad 5, .inl (y 0, 9, .inl (d.2 1))), (ad 6, .inl (y 0, 9, .inl (d.2 2))), (ad 7, .inl (y 0, 9, .inl (d.2 3))), (ad 9, .inl (y 0, 9, .inl (d.2 5))), (h, .inr (7, [.int sd, .int sw, .int sl, .ref (sa 0), .ref (sa 1), .ref (sa 2), .ref (sa 3), .ref (sa 4), .ref (sa 5), .ref (sa 6)])), (sa 0, .inl (y 0, 9, .inl f0)), (sa 1, .inl (y 0, 9, .inl u))])) := by
  refine CT.of (by decide) (nb rfl) ?_
  intro p e s m args below meth c C hr
  refine j_lv (lv' := [(0, .ref (ad 0)), (1, .ref h)]) rfl ?_
  refine j_aload_n (pc := 0) C d_Days_setFlows_0 rfl 0 rfl ?_
  refine j_aload_n (pc := 1) C d_Days_setFlows_1 rfl 1 rfl ?_
  refine j_get (pc := 2) C gf_Days_62 6 rfl rfl d_Days_setFlows_2 ?_
  refine j_callVi (pc := 5) C (c_levelAt l D y ad d sw) kw_Days_65 kv_Lake_levelAt 0 2 rfl rfl ⟨by decide, by decide⟩ ⟨by decide, by decide⟩ (wr := [(ad 1, .inr (1, [.int (d.1 9), .ref (ad 4), .ref (ad 5), .ref (ad 6), .ref (ad 7), .ref (ad 8), .ref (ad 9), .ref (ad 10)])), (ad 5, .inl (y 0, 9, .inl (d.2 1))), (ad 6, .inl (y 0, 9, .inl (d.2 2))), (ad 7, .inl (y 0, 9, .inl (d.2 3))), (ad 9, .inl (y 0, 9, .inl (d.2 5))), (h, .inr (7, [.int sd, .int sw, .int sl, .ref (sa 0), .ref (sa 1), .ref (sa 2), .ref (sa 3), .ref (sa 4), .ref (sa 5), .ref (sa 6)])), (sa 0, .inl (y 0, 9, .inl f0)), (sa 1, .inl (y 0, 9, .inl f1))]) [0] [1, 2, 3, 4, 5, 6, 7, 8] rfl rfl (by decide) (by decide) (by decide) (As := [.int sw]) (rest := []) rfl (nb rfl) rfl d_Days_setFlows_5 (fun r1 _ hr1 => ?_)
  refine j_ws (ws' := [(ad 1, .inr (1, [.int (d.1 9), .ref (ad 4), .ref (ad 5), .ref (ad 6), .ref (ad 7), .ref (ad 8), .ref (ad 9), .ref (ad 10)])), (ad 5, .inl (y 0, 9, .inl (d.2 1))), (ad 6, .inl (y 0, 9, .inl (d.2 2))), (ad 7, .inl (y 0, 9, .inl (d.2 3))), (ad 9, .inl (y 0, 9, .inl (d.2 5))), (h, .inr (7, [.int sd, .int sw, .int sl, .ref (sa 0), .ref (sa 1), .ref (sa 2), .ref (sa 3), .ref (sa 4), .ref (sa 5), .ref (sa 6)])), (sa 0, .inl (y 0, 9, .inl f0)), (sa 1, .inl (y 0, 9, .inl f1)), (ad 0, .inr (2, [.int (d.1 0), .int (d.1 1), .int (d.1 2), .int (d.1 3), .ref (ad 1), .int (d.1 4), .ref (ad 11), .ref (ad 12), .ref (ad 2), .ref (ad 3), .int (d.1 5), .int (d.1 6), .int (d.1 7), .int (d.1 8)]))]) rfl ?_
  refine j_istore_n (pc := 8) C (lv' := [(2, .int r1), (0, .ref (ad 0)), (1, .ref h)]) d_Days_setFlows_8 rfl (by decide) rfl ?_
  refine j_aload_n (pc := 9) C d_Days_setFlows_9 rfl 2 rfl ?_
  refine j_get (pc := 10) C gf_Days_62 5 rfl rfl d_Days_setFlows_10 ?_
  refine j_istore_n (pc := 13) C (lv' := [(3, .int sw), (2, .int r1), (0, .ref (ad 0)), (1, .ref h)]) d_Days_setFlows_13 rfl (by decide) rfl ?_
  refine j_iconst (pc := 14) C (v := 0) d_Days_setFlows_14 (by decide) ?_
  refine j_istore (pc := 15) C (lv' := [(4, .int 0), (3, .int sw), (2, .int r1), (0, .ref (ad 0)), (1, .ref h)]) d_Days_setFlows_15 (by decide) rfl ?_
  refine j_sub (ws' := [(ad 0, .inr (2, [.int (d.1 0), .int (d.1 1), .int (d.1 2), .int (d.1 3), .ref (ad 1), .int (d.1 4), .ref (ad 11), .ref (ad 12), .ref (ad 2), .ref (ad 3), .int (d.1 5), .int (d.1 6), .int (d.1 7), .int (d.1 8)])), (ad 1, .inr (1, [.int (d.1 9), .ref (ad 4), .ref (ad 5), .ref (ad 6), .ref (ad 7), .ref (ad 8), .ref (ad 9), .ref (ad 10)])), (ad 5, .inl (y 0, 9, .inl (d.2 1))), (ad 6, .inl (y 0, 9, .inl (d.2 2))), (ad 7, .inl (y 0, 9, .inl (d.2 3))), (ad 9, .inl (y 0, 9, .inl (d.2 5))), (h, .inr (7, [.int sd, .int sw, .int sl, .ref (sa 0), .ref (sa 1), .ref (sa 2), .ref (sa 3), .ref (sa 4), .ref (sa 5), .ref (sa 6)])), (sa 0, .inl (y 0, 9, .inl f0)), (sa 1, .inl (y 0, 9, .inl f1))]) [8, 0, 1, 2, 3, 4, 5, 6, 7] rfl (by decide) ?_
  refine j_locs (lv' := [(0, .ref (ad 0)), (1, .ref h), (2, .int r1), (3, .int sw), (4, .int 0)]) [3, 4, 2, 1, 0] rfl ?_
  refine j_lv (lv' := [(0, .ref (ad 0)), (1, .ref h), (2, .int r1), (3, .int sw), (4, .int (nI 0))]) rfl ?_
  refine lp_setFlows C ad d n9 h sa sd sw sl f0 r1 h9 b9 (fun lf f1 => ?_) n9 0 _ _ (by omega)
  refine j_aload_n (pc := 77) C d_Days_setFlows_77 rfl 1 rfl ?_
  refine j_get (pc := 78) C gf_Days_62 6 rfl rfl d_Days_setFlows_78 ?_
  refine j_iload_n (pc := 81) C d_Days_setFlows_81 rfl 3 rfl ?_
  refine j_isub (pc := 82) C (v := sw - lf) d_Days_setFlows_82 rfl ?_
  exact j_iret (pc := 83) C hr rfl f1 trivial [0, 1, 2, 3, 4, 5, 6, 7, 8] rfl (by decide) (by decide) (by decide) d_Days_setFlows_83
theorem d_Days_letFlow_29 : decode prog_3_method_9_code 29 = .ok (.iload_n 3, 1) := by decide +kernel
theorem d_Days_letFlow_30 : decode prog_3_method_9_code 30 = .ok (.aload_n 0, 1) := by decide +kernel
theorem d_Days_letFlow_31 : decode prog_3_method_9_code 31 = .ok (.getfield 25, 3) := by decide +kernel
theorem d_Days_letFlow_34 : decode prog_3_method_9_code 34 = .ok (.getfield 112, 3) := by decide +kernel
theorem d_Days_letFlow_37 : decode prog_3_method_9_code 37 = .ok (.if_icmp .ge 25, 3) := by decide +kernel
theorem d_Days_letFlow_40 : decode prog_3_method_9_code 40 = .ok (.aload_n 1, 1) := by decide +kernel
theorem d_Days_letFlow_41 : decode prog_3_method_9_code 41 = .ok (.getfield 125, 3) := by decide +kernel
theorem gf_Days_125 : GF "NineBoards$Days" 125 7 5 := ⟨_, _, _, rfl, ci_State, by decide, (mt_1 (List.mem_of_getElem? (i := 71) rfl) rfl)⟩
theorem d_Days_letFlow_44 : decode prog_3_method_9_code 44 = .ok (.iload_n 3, 1) := by decide +kernel
theorem d_Days_letFlow_45 : decode prog_3_method_9_code 45 = .ok (.dup2, 1) := by decide +kernel
theorem d_Days_letFlow_46 : decode prog_3_method_9_code 46 = .ok (.laload, 1) := by decide +kernel
theorem d_Days_letFlow_47 : decode prog_3_method_9_code 47 = .ok (.aload_n 1, 1) := by decide +kernel
theorem d_Days_letFlow_48 : decode prog_3_method_9_code 48 = .ok (.getfield 115, 3) := by decide +kernel
theorem d_Days_letFlow_51 : decode prog_3_method_9_code 51 = .ok (.iload_n 3, 1) := by decide +kernel
theorem d_Days_letFlow_52 : decode prog_3_method_9_code 52 = .ok (.iaload, 1) := by decide +kernel
theorem d_Days_letFlow_53 : decode prog_3_method_9_code 53 = .ok (.i2l, 1) := by decide +kernel
theorem d_Days_letFlow_54 : decode prog_3_method_9_code 54 = .ok (.ladd, 1) := by decide +kernel
theorem d_Days_letFlow_55 : decode prog_3_method_9_code 55 = .ok (.lastore, 1) := by decide +kernel
theorem d_Days_letFlow_56 : decode prog_3_method_9_code 56 = .ok (.iinc 3 1, 3) := by decide +kernel
theorem d_Days_letFlow_59 : decode prog_3_method_9_code 59 = .ok (.goto (-30), 3) := by decide +kernel
theorem d_Days_letFlow_0 : decode prog_3_method_9_code 0 = .ok (.aload_n 0, 1) := by decide +kernel
theorem d_Days_letFlow_1 : decode prog_3_method_9_code 1 = .ok (.aload_n 1, 1) := by decide +kernel
theorem d_Days_letFlow_2 : decode prog_3_method_9_code 2 = .ok (.invokestatic 121, 3) := by decide +kernel
theorem kw_Days_121 : KW "NineBoards$Days" 121 ⟨"NineBoards$Days", "setFlows", "(LNineBoards$Lake;LNineBoards$State;)I"⟩ prog_3_method_8_code 5 (some .int) 2 := ⟨(mt_4 (List.mem_of_getElem? (i := 80) rfl) rfl), (mt_1 (List.mem_of_getElem? (i := 18) rfl) rfl), (mt_4 (List.mem_of_getElem? (i := 5) rfl) rfl), by decide +kernel⟩
theorem ks_Days_setFlows : Cond.static ⟨"NineBoards$Days", "setFlows", "(LNineBoards$Lake;LNineBoards$State;)I"⟩ ∈ TB := (mt_4 (List.mem_of_getElem? (i := 4) rfl) rfl)
theorem d_Days_letFlow_5 : decode prog_3_method_9_code 5 = .ok (.istore_n 2, 1) := by decide +kernel
theorem d_Days_letFlow_6 : decode prog_3_method_9_code 6 = .ok (.aload_n 1, 1) := by decide +kernel
theorem d_Days_letFlow_7 : decode prog_3_method_9_code 7 = .ok (.dup, 1) := by decide +kernel
theorem d_Days_letFlow_8 : decode prog_3_method_9_code 8 = .ok (.getfield 62, 3) := by decide +kernel
theorem d_Days_letFlow_11 : decode prog_3_method_9_code 11 = .ok (.iload_n 2, 1) := by decide +kernel
theorem d_Days_letFlow_12 : decode prog_3_method_9_code 12 = .ok (.isub, 1) := by decide +kernel
theorem d_Days_letFlow_13 : decode prog_3_method_9_code 13 = .ok (.putfield 62, 3) := by decide +kernel
theorem pf_Days_62 : PF "NineBoards$Days" 62 7 1 (.int) false := ⟨_, _, _, ct_State, rfl, ci_State, by decide, (mt_1 (List.mem_of_getElem? (i := 58) rfl) rfl), cp_State, cn_State, rfl, by decide +kernel, (fun h => by cases h)⟩
theorem d_Days_letFlow_16 : decode prog_3_method_9_code 16 = .ok (.aload_n 1, 1) := by decide +kernel
theorem d_Days_letFlow_17 : decode prog_3_method_9_code 17 = .ok (.getfield 87, 3) := by decide +kernel
theorem gf_Days_87 : GF "NineBoards$Days" 87 7 9 := ⟨_, _, _, rfl, ci_State, by decide, (mt_1 (List.mem_of_getElem? (i := 83) rfl) rfl)⟩
theorem d_Days_letFlow_20 : decode prog_3_method_9_code 20 = .ok (.iconst 3, 1) := by decide +kernel
theorem d_Days_letFlow_21 : decode prog_3_method_9_code 21 = .ok (.dup2, 1) := by decide +kernel
theorem d_Days_letFlow_22 : decode prog_3_method_9_code 22 = .ok (.laload, 1) := by decide +kernel
theorem d_Days_letFlow_23 : decode prog_3_method_9_code 23 = .ok (.iload_n 2, 1) := by decide +kernel
theorem d_Days_letFlow_24 : decode prog_3_method_9_code 24 = .ok (.i2l, 1) := by decide +kernel
theorem d_Days_letFlow_25 : decode prog_3_method_9_code 25 = .ok (.ladd, 1) := by decide +kernel
theorem d_Days_letFlow_26 : decode prog_3_method_9_code 26 = .ok (.lastore, 1) := by decide +kernel
theorem d_Days_letFlow_27 : decode prog_3_method_9_code 27 = .ok (.iconst 0, 1) := by decide +kernel
theorem d_Days_letFlow_28 : decode prog_3_method_9_code 28 = .ok (.istore_n 3, 1) := by decide +kernel
theorem d_Days_letFlow_62 : decode prog_3_method_9_code 62 = .ok (.return_, 1) := by decide +kernel
set_option maxHeartbeats 4000000 in
set_option maxRecDepth 100000 in
theorem lp_letFlow {p : Program} {l : Launch} {e : Env} {s : State} {m : MethodId} {args : Array Value} {below : List Frame} {meth : Method} {c : Code} {Q : State → Prop} {D : va_G} {y : Nat → ClassId} {A : Nat → Prop} (C : Cx p s m args meth c D y A prog_3_method_9_code 4 "NineBoards$Days" "letFlow") (ad : Nat → Nat) (d : LD) (n9 : Nat) (h : Nat) (sa : Nat → Nat) (sd : Int32) (sw : Int32) (sl : Int32) (f0 : Nat → Int32) (f1 : Nat → Int32) (f6 : Nat → Int64) (fl : Int32) (h9 : d.1 9 = nI n9) (b9 : n9 ≤ 9) (kx : ∀ (f2 : Nat → Int64), J p l e ({ frames := 3, cells := 0, slots := 0, locals := 67 } : Room) s m args below meth c Q D A 4 [(ad 0, .inr (2, [.int (d.1 0), .int (d.1 1), .int (d.1 2), .int (d.1 3), .ref (ad 1), .int (d.1 4), .ref (ad 11), .ref (ad 12), .ref (ad 2), .ref (ad 3), .int (d.1 5), .int (d.1 6), .int (d.1 7), .int (d.1 8)])), (ad 1, .inr (1, [.int (d.1 9), .ref (ad 4), .ref (ad 5), .ref (ad 6), .ref (ad 7), .ref (ad 8), .ref (ad 9), .ref (ad 10)])), (ad 5, .inl (y 0, 9, .inl (d.2 1))), (ad 6, .inl (y 0, 9, .inl (d.2 2))), (ad 7, .inl (y 0, 9, .inl (d.2 3))), (ad 9, .inl (y 0, 9, .inl (d.2 5))), (h, .inr (7, [.int sd, .int sw, .int sl, .ref (sa 0), .ref (sa 1), .ref (sa 2), .ref (sa 3), .ref (sa 4), .ref (sa 5), .ref (sa 6)])), (sa 0, .inl (y 0, 9, .inl f0)), (sa 1, .inl (y 0, 9, .inl f1)), (sa 2, .inl (y 1, 9, .inr (.inl f2))), (sa 6, .inl (y 1, 5, .inr (.inl f6)))] [(0, .ref (ad 0)), (1, .ref h), (2, .int fl), (3, .int (nI n9))] 0 0 62 []) : ∀ (n : Nat) (i : Nat) (f2 : Nat → Int64), (i + n = n9) → J p l e ({ frames := 3, cells := 0, slots := 0, locals := 67 } : Room) s m args below meth c Q D A 4 [(ad 0, .inr (2, [.int (d.1 0), .int (d.1 1), .int (d.1 2), .int (d.1 3), .ref (ad 1), .int (d.1 4), .ref (ad 11), .ref (ad 12), .ref (ad 2), .ref (ad 3), .int (d.1 5), .int (d.1 6), .int (d.1 7), .int (d.1 8)])), (ad 1, .inr (1, [.int (d.1 9), .ref (ad 4), .ref (ad 5), .ref (ad 6), .ref (ad 7), .ref (ad 8), .ref (ad 9), .ref (ad 10)])), (ad 5, .inl (y 0, 9, .inl (d.2 1))), (ad 6, .inl (y 0, 9, .inl (d.2 2))), (ad 7, .inl (y 0, 9, .inl (d.2 3))), (ad 9, .inl (y 0, 9, .inl (d.2 5))), (h, .inr (7, [.int sd, .int sw, .int sl, .ref (sa 0), .ref (sa 1), .ref (sa 2), .ref (sa 3), .ref (sa 4), .ref (sa 5), .ref (sa 6)])), (sa 0, .inl (y 0, 9, .inl f0)), (sa 1, .inl (y 0, 9, .inl f1)), (sa 2, .inl (y 1, 9, .inr (.inl f2))), (sa 6, .inl (y 1, 5, .inr (.inl f6)))] [(0, .ref (ad 0)), (1, .ref h), (2, .int fl), (3, .int (nI i))] 0 0 29 [] := by
  intro n
  induction n with
  | zero =>
    intro i f2 hi
    obtain rfl : i = n9 := by omega
    refine j_iload_n (pc := 29) C d_Days_letFlow_29 rfl 3 rfl ?_
    refine j_aload_n (pc := 30) C d_Days_letFlow_30 rfl 0 rfl ?_
    refine j_get (pc := 31) C gf_Days_25 0 rfl rfl d_Days_letFlow_31 ?_
    refine j_get (pc := 34) C gf_Days_112 1 rfl rfl d_Days_letFlow_34 ?_
    refine j_icmp_geT (pc := 37) C (tgt := 62) d_Days_letFlow_37 (by decide) (by rw [h9]; exact Int32.le_refl _) ?_
    exact kx _
  | succ n ih =>
    intro i f2 hi
    refine j_iload_n (pc := 29) C d_Days_letFlow_29 rfl 3 rfl ?_
    refine j_aload_n (pc := 30) C d_Days_letFlow_30 rfl 0 rfl ?_
    refine j_get (pc := 31) C gf_Days_25 0 rfl rfl d_Days_letFlow_31 ?_
    refine j_get (pc := 34) C gf_Days_112 1 rfl rfl d_Days_letFlow_34 ?_
    refine j_icmp_geF (pc := 37) C (tgt := 62) d_Days_letFlow_37 (by decide) (by rw [h9]; exact nI_ge (by omega) (by omega)) ?_
    refine j_aload_n (pc := 40) C d_Days_letFlow_40 rfl 1 rfl ?_
    refine j_get (pc := 41) C gf_Days_125 6 rfl rfl d_Days_letFlow_41 ?_
    refine j_iload_n (pc := 44) C d_Days_letFlow_44 rfl 3 rfl ?_
    refine j_dup2 (pc := 45) C d_Days_letFlow_45 rfl rfl ?_
    refine j_lald (pc := 46) C 9 rfl (v := f2 (nI i).toNatClampNeg) (vp_in_nI (by omega) (by decide)) rfl d_Days_letFlow_46 ?_
    refine j_aload_n (pc := 47) C d_Days_letFlow_47 rfl 1 rfl ?_
    refine j_get (pc := 48) C gf_Days_115 6 rfl rfl d_Days_letFlow_48 ?_
    refine j_iload_n (pc := 51) C d_Days_letFlow_51 rfl 3 rfl ?_
    refine j_iald (pc := 52) C 8 rfl (v := f1 (nI i).toNatClampNeg) (vp_in_nI (by omega) (by decide)) rfl d_Days_letFlow_52 ?_
    refine j_i2l (pc := 53) C (v := (f1 (nI i).toNatClampNeg).toInt64) d_Days_letFlow_53 rfl ?_
    refine j_ladd (pc := 54) C (v := (f2 (nI i).toNatClampNeg) + ((f1 (nI i).toNatClampNeg).toInt64)) d_Days_letFlow_54 rfl ?_
    refine j_last (pc := 55) C 9 rfl (ws' := [(ad 0, .inr (2, [.int (d.1 0), .int (d.1 1), .int (d.1 2), .int (d.1 3), .ref (ad 1), .int (d.1 4), .ref (ad 11), .ref (ad 12), .ref (ad 2), .ref (ad 3), .int (d.1 5), .int (d.1 6), .int (d.1 7), .int (d.1 8)])), (ad 1, .inr (1, [.int (d.1 9), .ref (ad 4), .ref (ad 5), .ref (ad 6), .ref (ad 7), .ref (ad 8), .ref (ad 9), .ref (ad 10)])), (ad 5, .inl (y 0, 9, .inl (d.2 1))), (ad 6, .inl (y 0, 9, .inl (d.2 2))), (ad 7, .inl (y 0, 9, .inl (d.2 3))), (ad 9, .inl (y 0, 9, .inl (d.2 5))), (h, .inr (7, [.int sd, .int sw, .int sl, .ref (sa 0), .ref (sa 1), .ref (sa 2), .ref (sa 3), .ref (sa 4), .ref (sa 5), .ref (sa 6)])), (sa 0, .inl (y 0, 9, .inl f0)), (sa 1, .inl (y 0, 9, .inl f1)), (sa 2, .inl (y 1, 9, .inr (.inl (vp_updL f2 (nI i).toNatClampNeg ((f2 (nI i).toNatClampNeg) + ((f1 (nI i).toNatClampNeg).toInt64)))))), (sa 6, .inl (y 1, 5, .inr (.inl f6)))]) (vp_in_nI (by omega) (by decide)) rfl d_Days_letFlow_55 ?_
    refine j_iinc (pc := 56) C (v := nI (i + 1)) (lv' := [(3, .int (nI (i + 1))), (0, .ref (ad 0)), (1, .ref h), (2, .int fl)]) d_Days_letFlow_56 3 rfl (nI_1 _) (by decide) rfl ?_
    refine j_goto (pc := 59) C (tgt := 29) d_Days_letFlow_59 (by decide) ?_
    refine j_locs (lv' := [(0, .ref (ad 0)), (1, .ref h), (2, .int fl), (3, .int (nI (i + 1)))]) [1, 2, 3, 0] rfl ?_
    exact ih (i + 1) _ (by omega)
set_option maxHeartbeats 4000000 in
set_option maxRecDepth 100000 in
theorem c_letFlow (l : Launch) (D : va_G) (y : Nat → ClassId) (ad : Nat → Nat) (d : LD) (n9 : Nat) (h : Nat) (sa : Nat → Nat) (sd : Int32) (sw : Int32) (sl : Int32) (f0 : Nat → Int32) (f1 : Nat → Int32) (f2 : Nat → Int64) (f6 : Nat → Int64) (h9 : d.1 9 = nI n9) (b9 : n9 ≤ 9) : CT l D y ⟨"NineBoards$Days", "letFlow", "(LNineBoards$Lake;LNineBoards$State;)V"⟩ prog_3_method_9_code 4 none ({ frames := 3, cells := 0, slots := 0, locals := 67 } : Room) [.ref (ad 0), .ref h] [(ad 0, .inr (2, [.int (d.1 0), .int (d.1 1), .int (d.1 2), .int (d.1 3), .ref (ad 1), .int (d.1 4), .ref (ad 11), .ref (ad 12), .ref (ad 2), .ref (ad 3), .int (d.1 5), .int (d.1 6), .int (d.1 7), .int (d.1 8)])), (ad 1, .inr (1, [.int (d.1 9), .ref (ad 4), .ref (ad 5), .ref (ad 6), .ref (ad 7), .ref (ad 8), .ref (ad 9), .ref (ad 10)])), (ad 5, .inl (y 0, 9, .inl (d.2 1))), (ad 6, .inl (y 0, 9, .inl (d.2 2))), (ad 7, .inl (y 0, 9, .inl (d.2 3))), (ad 9, .inl (y 0, 9, .inl (d.2 5))), (h, .inr (7, [.int sd, .int sw, .int sl, .ref (sa 0), .ref (sa 1), .ref (sa 2), .ref (sa 3), .ref (sa 4), .ref (sa 5), .ref (sa 6)])), (sa 0, .inl (y 0, 9, .inl f0)), (sa 1, .inl (y 0, 9, .inl f1)), (sa 2, .inl (y 1, 9, .inr (.inl f2))), (sa 6, .inl (y 1, 5, .inr (.inl f6)))] (QV D [(ad 0, .inr (2, [.int (d.1 0), .int (d.1 1), .int (d.1 2), .int (d.1 3), .ref (ad 1), .int (d.1 4), .ref (ad 11), .ref (ad 12), .ref (ad 2), .ref (ad 3), .int (d.1 5), .int (d.1 6), .int (d.1 7), .int (d.1 8)])), (ad 1, .inr (1, [.int (d.1 9), .ref (ad 4), .ref (ad 5), .ref (ad 6), .ref (ad 7), .ref (ad 8), .ref (ad 9), .ref (ad 10)])), (ad 5, .inl (y 0, 9, .inl (d.2 1))), (ad 6, .inl (y 0, 9, .inl (d.2 2))), (ad 7, .inl (y 0, 9, .inl (d.2 3))), (ad 9, .inl (y 0, 9, .inl (d.2 5))), (h, .inr (7, [.int sd, .int sw, .int sl, .ref (sa 0), .ref (sa 1), .ref (sa 2), .ref (sa 3), .ref (sa 4), .ref (sa 5), .ref (sa 6)])), (sa 0, .inl (y 0, 9, .inl f0)), (sa 1, .inl (y 0, 9, .inl f1)), (sa 2, .inl (y 1, 9, .inr (.inl f2))), (sa 6, .inl (y 1, 5, .inr (.inl f6)))] (fun (_ : Int32 × (Nat → Int32) × (Nat → Int64) × (Nat → Int64)) => True) (fun u => [(ad 0, .inr (2, [.int (d.1 0), .int (d.1 1), .int (d.1 2), .int (d.1 3), .ref (ad 1), .int (d.1 4), .ref (ad 11), .ref (ad 12), .ref (ad 2), .ref (ad 3), .int (d.1 5), .int (d.1 6), .int (d.1 7), .int (d.1 8)])), (ad 1, .inr (1, [.int (d.1 9), .ref (ad 4), .ref (ad 5), .ref (ad 6), .ref (ad 7), .ref (ad 8), .ref (ad 9), .ref (ad 10)])), (ad 5, .inl (y 0, 9, .inl (d.2 1))), (ad 6, .inl (y 0, 9, .inl (d.2 2))), (ad 7, .inl (y 0, 9, .inl (d.2 3))), (ad 9, .inl (y 0, 9, .inl (d.2 5))), (h, .inr (7, [.int sd, .int u.1, .int sl, .ref (sa 0), .ref (sa 1), .ref (sa 2), .ref (sa 3), .ref (sa 4), .ref (sa 5), .ref (sa 6)])), (sa 0, .inl (y 0, 9, .inl f0)), (sa 1, .inl (y 0, 9, .inl u.2.1)), (sa 2, .inl (y 1, 9, .inr (.inl u.2.2.1))), (sa 6, .inl (y 1, 5, .inr (.inl u.2.2.2)))])) := by
  refine CT.of (by decide) (nb rfl) ?_
  intro p e s m args below meth c C hr
  refine j_lv (lv' := [(0, .ref (ad 0)), (1, .ref h)]) rfl ?_
  refine j_aload_n (pc := 0) C d_Days_letFlow_0 rfl 0 rfl ?_
  refine j_aload_n (pc := 1) C d_Days_letFlow_1 rfl 1 rfl ?_
  refine j_callSi (pc := 2) C (c_setFlows l D y ad d n9 h sa sd sw sl f0 f1 h9 b9) kw_Days_121 ks_Days_setFlows ⟨by decide, by decide⟩ ⟨by decide, by decide⟩ (wr := [(sa 2, .inl (y 1, 9, .inr (.inl f2))), (sa 6, .inl (y 1, 5, .inr (.inl f6)))]) [0, 1, 2, 3, 4, 5, 6, 7, 8] [9, 10] rfl rfl (by decide) (by decide) (by decide) (As := [.ref (ad 0), .ref h]) (rest := []) rfl (nb rfl) rfl d_Days_letFlow_2 (fun r1 u2 hr1 => ?_)
  refine j_ws (ws' := [(sa 2, .inl (y 1, 9, .inr (.inl f2))), (sa 6, .inl (y 1, 5, .inr (.inl f6))), (ad 0, .inr (2, [.int (d.1 0), .int (d.1 1), .int (d.1 2), .int (d.1 3), .ref (ad 1), .int (d.1 4), .ref (ad 11), .ref (ad 12), .ref (ad 2), .ref (ad 3), .int (d.1 5), .int (d.1 6), .int (d.1 7), .int (d.1 8)])), (ad 1, .inr (1, [.int (d.1 9), .ref (ad 4), .ref (ad 5), .ref (ad 6), .ref (ad 7), .ref (ad 8), .ref (ad 9), .ref (ad 10)])), (ad 5, .inl (y 0, 9, .inl (d.2 1))), (ad 6, .inl (y 0, 9, .inl (d.2 2))), (ad 7, .inl (y 0, 9, .inl (d.2 3))), (ad 9, .inl (y 0, 9, .inl (d.2 5))), (h, .inr (7, [.int sd, .int sw, .int sl, .ref (sa 0), .ref (sa 1), .ref (sa 2), .ref (sa 3), .ref (sa 4), .ref (sa 5), .ref (sa 6)])), (sa 0, .inl (y 0, 9, .inl f0)), (sa 1, .inl (y 0, 9, .inl u2))]) rfl ?_
  refine j_istore_n (pc := 5) C (lv' := [(2, .int r1), (0, .ref (ad 0)), (1, .ref h)]) d_Days_letFlow_5 rfl (by decide) rfl ?_
  refine j_aload_n (pc := 6) C d_Days_letFlow_6 rfl 2 rfl ?_
  refine j_dup (pc := 7) C d_Days_letFlow_7 rfl ?_
  refine j_get (pc := 8) C gf_Days_62 8 rfl rfl d_Days_letFlow_8 ?_
  refine j_iload_n (pc := 11) C d_Days_letFlow_11 rfl 0 rfl ?_
  refine j_isub (pc := 12) C (v := sw - r1) d_Days_letFlow_12 rfl ?_
  refine j_put (pc := 13) C pf_Days_62 8 (ws' := [(sa 2, .inl (y 1, 9, .inr (.inl f2))), (sa 6, .inl (y 1, 5, .inr (.inl f6))), (ad 0, .inr (2, [.int (d.1 0), .int (d.1 1), .int (d.1 2), .int (d.1 3), .ref (ad 1), .int (d.1 4), .ref (ad 11), .ref (ad 12), .ref (ad 2), .ref (ad 3), .int (d.1 5), .int (d.1 6), .int (d.1 7), .int (d.1 8)])), (ad 1, .inr (1, [.int (d.1 9), .ref (ad 4), .ref (ad 5), .ref (ad 6), .ref (ad 7), .ref (ad 8), .ref (ad 9), .ref (ad 10)])), (ad 5, .inl (y 0, 9, .inl (d.2 1))), (ad 6, .inl (y 0, 9, .inl (d.2 2))), (ad 7, .inl (y 0, 9, .inl (d.2 3))), (ad 9, .inl (y 0, 9, .inl (d.2 5))), (h, .inr (7, [.int sd, .int (sw - r1), .int sl, .ref (sa 0), .ref (sa 1), .ref (sa 2), .ref (sa 3), .ref (sa 4), .ref (sa 5), .ref (sa 6)])), (sa 0, .inl (y 0, 9, .inl f0)), (sa 1, .inl (y 0, 9, .inl u2))]) rfl rfl rfl (nl rfl) rfl d_Days_letFlow_13 ?_
  refine j_aload_n (pc := 16) C d_Days_letFlow_16 rfl 2 rfl ?_
  refine j_get (pc := 17) C gf_Days_87 8 rfl rfl d_Days_letFlow_17 ?_
  refine j_iconst (pc := 20) C (v := 3) d_Days_letFlow_20 (by decide) ?_
  refine j_dup2 (pc := 21) C d_Days_letFlow_21 rfl rfl ?_
  refine j_lald (pc := 22) C 1 rfl (v := f6 3) (vin (by decide)) rfl d_Days_letFlow_22 ?_
  refine j_iload_n (pc := 23) C d_Days_letFlow_23 rfl 0 rfl ?_
  refine j_i2l (pc := 24) C (v := r1.toInt64) d_Days_letFlow_24 rfl ?_
  refine j_ladd (pc := 25) C (v := (f6 3) + r1.toInt64) d_Days_letFlow_25 rfl ?_
  refine j_last (pc := 26) C 1 rfl (ws' := [(sa 2, .inl (y 1, 9, .inr (.inl f2))), (sa 6, .inl (y 1, 5, .inr (.inl (vp_updL f6 3 ((f6 3) + r1.toInt64))))), (ad 0, .inr (2, [.int (d.1 0), .int (d.1 1), .int (d.1 2), .int (d.1 3), .ref (ad 1), .int (d.1 4), .ref (ad 11), .ref (ad 12), .ref (ad 2), .ref (ad 3), .int (d.1 5), .int (d.1 6), .int (d.1 7), .int (d.1 8)])), (ad 1, .inr (1, [.int (d.1 9), .ref (ad 4), .ref (ad 5), .ref (ad 6), .ref (ad 7), .ref (ad 8), .ref (ad 9), .ref (ad 10)])), (ad 5, .inl (y 0, 9, .inl (d.2 1))), (ad 6, .inl (y 0, 9, .inl (d.2 2))), (ad 7, .inl (y 0, 9, .inl (d.2 3))), (ad 9, .inl (y 0, 9, .inl (d.2 5))), (h, .inr (7, [.int sd, .int (sw - r1), .int sl, .ref (sa 0), .ref (sa 1), .ref (sa 2), .ref (sa 3), .ref (sa 4), .ref (sa 5), .ref (sa 6)])), (sa 0, .inl (y 0, 9, .inl f0)), (sa 1, .inl (y 0, 9, .inl u2))]) (vin (by decide)) rfl d_Days_letFlow_26 ?_
  refine j_iconst (pc := 27) C (v := 0) d_Days_letFlow_27 (by decide) ?_
  refine j_istore_n (pc := 28) C (lv' := [(3, .int 0), (2, .int r1), (0, .ref (ad 0)), (1, .ref h)]) d_Days_letFlow_28 rfl (by decide) rfl ?_
  refine j_sub (ws' := [(ad 0, .inr (2, [.int (d.1 0), .int (d.1 1), .int (d.1 2), .int (d.1 3), .ref (ad 1), .int (d.1 4), .ref (ad 11), .ref (ad 12), .ref (ad 2), .ref (ad 3), .int (d.1 5), .int (d.1 6), .int (d.1 7), .int (d.1 8)])), (ad 1, .inr (1, [.int (d.1 9), .ref (ad 4), .ref (ad 5), .ref (ad 6), .ref (ad 7), .ref (ad 8), .ref (ad 9), .ref (ad 10)])), (ad 5, .inl (y 0, 9, .inl (d.2 1))), (ad 6, .inl (y 0, 9, .inl (d.2 2))), (ad 7, .inl (y 0, 9, .inl (d.2 3))), (ad 9, .inl (y 0, 9, .inl (d.2 5))), (h, .inr (7, [.int sd, .int (sw - r1), .int sl, .ref (sa 0), .ref (sa 1), .ref (sa 2), .ref (sa 3), .ref (sa 4), .ref (sa 5), .ref (sa 6)])), (sa 0, .inl (y 0, 9, .inl f0)), (sa 1, .inl (y 0, 9, .inl u2)), (sa 2, .inl (y 1, 9, .inr (.inl f2))), (sa 6, .inl (y 1, 5, .inr (.inl (vp_updL f6 3 ((f6 3) + r1.toInt64)))))]) [2, 3, 4, 5, 6, 7, 8, 9, 10, 0, 1] rfl (by decide) ?_
  refine j_locs (lv' := [(0, .ref (ad 0)), (1, .ref h), (2, .int r1), (3, .int 0)]) [2, 3, 1, 0] rfl ?_
  refine j_lv (lv' := [(0, .ref (ad 0)), (1, .ref h), (2, .int r1), (3, .int (nI 0))]) rfl ?_
  refine lp_letFlow C ad d n9 h sa sd (sw - r1) sl f0 u2 (vp_updL f6 3 ((f6 3) + r1.toInt64)) r1 h9 b9 (fun f2 => ?_) n9 0 _ (by omega)
  exact j_vret (pc := 62) C hr (sw - r1, u2, f2, (vp_updL f6 3 ((f6 3) + r1.toInt64))) trivial [0, 1, 2, 3, 4, 5, 6, 7, 8, 9, 10] rfl (by decide) (by decide) (by decide) d_Days_letFlow_62
theorem d_Days_waterAhead_0 : decode prog_3_method_11_code 0 = .ok (.aload_n 1, 1) := by decide +kernel
theorem d_Days_waterAhead_1 : decode prog_3_method_11_code 1 = .ok (.getfield 62, 3) := by decide +kernel
theorem d_Days_waterAhead_4 : decode prog_3_method_11_code 4 = .ok (.aload_n 0, 1) := by decide +kernel
theorem d_Days_waterAhead_5 : decode prog_3_method_11_code 5 = .ok (.aload_n 1, 1) := by decide +kernel
theorem d_Days_waterAhead_6 : decode prog_3_method_11_code 6 = .ok (.invokestatic 121, 3) := by decide +kernel
theorem d_Days_waterAhead_9 : decode prog_3_method_11_code 9 = .ok (.isub, 1) := by decide +kernel
theorem d_Days_waterAhead_10 : decode prog_3_method_11_code 10 = .ok (.istore_n 2, 1) := by decide +kernel
theorem d_Days_waterAhead_11 : decode prog_3_method_11_code 11 = .ok (.iload_n 2, 1) := by decide +kernel
theorem d_Days_waterAhead_12 : decode prog_3_method_11_code 12 = .ok (.aload_n 0, 1) := by decide +kernel
theorem d_Days_waterAhead_13 : decode prog_3_method_11_code 13 = .ok (.getfield 55, 3) := by decide +kernel
theorem gf_Days_55 : GF "NineBoards$Days" 55 2 9 := ⟨_, _, _, rfl, ci_Lake, by decide, (mt_2 (List.mem_of_getElem? (i := 63) rfl) rfl)⟩
theorem d_Days_waterAhead_16 : decode prog_3_method_11_code 16 = .ok (.iconst 0, 1) := by decide +kernel
theorem d_Days_waterAhead_17 : decode prog_3_method_11_code 17 = .ok (.aload_n 1, 1) := by decide +kernel
theorem d_Days_waterAhead_18 : decode prog_3_method_11_code 18 = .ok (.getfield 59, 3) := by decide +kernel
theorem d_Days_waterAhead_21 : decode prog_3_method_11_code 21 = .ok (.aload_n 0, 1) := by decide +kernel
theorem d_Days_waterAhead_22 : decode prog_3_method_11_code 22 = .ok (.iload_n 2, 1) := by decide +kernel
theorem d_Days_waterAhead_23 : decode prog_3_method_11_code 23 = .ok (.invokevirtual 65, 3) := by decide +kernel
theorem d_Days_waterAhead_26 : decode prog_3_method_11_code 26 = .ok (.iload_n 2, 1) := by decide +kernel
theorem d_Days_waterAhead_27 : decode prog_3_method_11_code 27 = .ok (.invokevirtual 69, 3) := by decide +kernel
theorem kw_Days_69 : KW "NineBoards$Days" 69 ⟨"NineBoards$Rules", "amount", "(IIII)I"⟩ prog_9_method_3_code 7 (some .int) 4 := ⟨(mt_4 (List.mem_of_getElem? (i := 81) rfl) rfl), (mt_1 (List.mem_of_getElem? (i := 9) rfl) rfl), (mt_4 (List.mem_of_getElem? (i := 84) rfl) rfl), by decide +kernel⟩
theorem kv_Rules_amount : Cond.instanceMethod ⟨"NineBoards$Rules", "amount", "(IIII)I"⟩ ∈ TB ∧ Cond.selects "NineBoards$Rules" ⟨"NineBoards$Rules", "amount", "(IIII)I"⟩ ⟨"NineBoards$Rules", "amount", "(IIII)I"⟩ ∈ TB := ⟨(mt_4 (List.mem_of_getElem? (i := 82) rfl) rfl), (mt_4 (List.mem_of_getElem? (i := 83) rfl) rfl)⟩
theorem d_Days_waterAhead_30 : decode prog_3_method_11_code 30 = .ok (.iadd, 1) := by decide +kernel
theorem d_Days_waterAhead_31 : decode prog_3_method_11_code 31 = .ok (.ireturn, 1) := by decide +kernel
set_option maxHeartbeats 4000000 in
set_option maxRecDepth 100000 in
theorem c_waterAhead (l : Launch) (D : va_G) (y : Nat → ClassId) (ad : Nat → Nat) (d : LD) (n9 : Nat) (n11 : Nat) (h : Nat) (sa : Nat → Nat) (sd : Int32) (sw : Int32) (sl : Int32) (f0 : Nat → Int32) (f1 : Nat → Int32) (g : Nat → Int32) (h9 : d.1 9 = nI n9) (b9 : n9 ≤ 9) (h11 : d.1 11 = nI n11) (b11 : n11 ≤ 8) : CT l D y ⟨"NineBoards$Days", "waterAhead", "(LNineBoards$Lake;LNineBoards$State;)I"⟩ prog_3_method_11_code 3 (some .int) ({ frames := 4, cells := 0, slots := 0, locals := 98 } : Room) [.ref (ad 0), .ref h] [(ad 0, .inr (2, [.int (d.1 0), .int (d.1 1), .int (d.1 2), .int (d.1 3), .ref (ad 1), .int (d.1 4), .ref (ad 11), .ref (ad 12), .ref (ad 2), .ref (ad 3), .int (d.1 5), .int (d.1 6), .int (d.1 7), .int (d.1 8)])), (ad 1, .inr (1, [.int (d.1 9), .ref (ad 4), .ref (ad 5), .ref (ad 6), .ref (ad 7), .ref (ad 8), .ref (ad 9), .ref (ad 10)])), (ad 2, .inr (8, [.int (d.1 10), .ref (ad 13), .ref (ad 14), .ref (ad 15), .ref (ad 16), .ref (ad 17), .ref (ad 18), .ref (ad 19)])), (ad 3, .inr (6, [.int (d.1 11), .int (d.1 12), .ref (ad 20), .ref (ad 21), .ref (ad 22), .ref (ad 23), .ref (ad 24), .ref (ad 25)])), (ad 4, .inl (y 0, 9, .inl (d.2 0))), (ad 5, .inl (y 0, 9, .inl (d.2 1))), (ad 6, .inl (y 0, 9, .inl (d.2 2))), (ad 7, .inl (y 0, 9, .inl (d.2 3))), (ad 8, .inl (y 0, 9, .inl (d.2 4))), (ad 9, .inl (y 0, 9, .inl (d.2 5))), (ad 10, .inl (y 0, 9, .inl (d.2 6))), (ad 11, .inl (y 0, 6, .inl (d.2 7))), (ad 12, .inl (y 0, 6, .inl (d.2 8))), (ad 13, .inl (y 0, 16, .inl (d.2 9))), (ad 14, .inl (y 0, 16, .inl (d.2 10))), (ad 15, .inl (y 0, 16, .inl (d.2 11))), (ad 16, .inl (y 0, 16, .inl (d.2 12))), (ad 17, .inl (y 0, 16, .inl (d.2 13))), (ad 18, .inl (y 0, 16, .inl (d.2 14))), (ad 19, .inl (y 0, 16, .inl (d.2 15))), (ad 20, .inl (y 0, 8, .inl (d.2 16))), (ad 21, .inl (y 0, 8, .inl (d.2 17))), (ad 22, .inl (y 0, 8, .inl (d.2 18))), (ad 23, .inl (y 0, 8, .inl (d.2 19))), (ad 24, .inl (y 0, 1600, .inl (d.2 20))), (ad 25, .inl (y 0, 40, .inl g)), (h, .inr (7, [.int sd, .int sw, .int sl, .ref (sa 0), .ref (sa 1), .ref (sa 2), .ref (sa 3), .ref (sa 4), .ref (sa 5), .ref (sa 6)])), (sa 0, .inl (y 0, 9, .inl f0)), (sa 1, .inl (y 0, 9, .inl f1))] (QI D [(ad 0, .inr (2, [.int (d.1 0), .int (d.1 1), .int (d.1 2), .int (d.1 3), .ref (ad 1), .int (d.1 4), .ref (ad 11), .ref (ad 12), .ref (ad 2), .ref (ad 3), .int (d.1 5), .int (d.1 6), .int (d.1 7), .int (d.1 8)])), (ad 1, .inr (1, [.int (d.1 9), .ref (ad 4), .ref (ad 5), .ref (ad 6), .ref (ad 7), .ref (ad 8), .ref (ad 9), .ref (ad 10)])), (ad 2, .inr (8, [.int (d.1 10), .ref (ad 13), .ref (ad 14), .ref (ad 15), .ref (ad 16), .ref (ad 17), .ref (ad 18), .ref (ad 19)])), (ad 3, .inr (6, [.int (d.1 11), .int (d.1 12), .ref (ad 20), .ref (ad 21), .ref (ad 22), .ref (ad 23), .ref (ad 24), .ref (ad 25)])), (ad 4, .inl (y 0, 9, .inl (d.2 0))), (ad 5, .inl (y 0, 9, .inl (d.2 1))), (ad 6, .inl (y 0, 9, .inl (d.2 2))), (ad 7, .inl (y 0, 9, .inl (d.2 3))), (ad 8, .inl (y 0, 9, .inl (d.2 4))), (ad 9, .inl (y 0, 9, .inl (d.2 5))), (ad 10, .inl (y 0, 9, .inl (d.2 6))), (ad 11, .inl (y 0, 6, .inl (d.2 7))), (ad 12, .inl (y 0, 6, .inl (d.2 8))), (ad 13, .inl (y 0, 16, .inl (d.2 9))), (ad 14, .inl (y 0, 16, .inl (d.2 10))), (ad 15, .inl (y 0, 16, .inl (d.2 11))), (ad 16, .inl (y 0, 16, .inl (d.2 12))), (ad 17, .inl (y 0, 16, .inl (d.2 13))), (ad 18, .inl (y 0, 16, .inl (d.2 14))), (ad 19, .inl (y 0, 16, .inl (d.2 15))), (ad 20, .inl (y 0, 8, .inl (d.2 16))), (ad 21, .inl (y 0, 8, .inl (d.2 17))), (ad 22, .inl (y 0, 8, .inl (d.2 18))), (ad 23, .inl (y 0, 8, .inl (d.2 19))), (ad 24, .inl (y 0, 1600, .inl (d.2 20))), (ad 25, .inl (y 0, 40, .inl g)), (h, .inr (7, [.int sd, .int sw, .int sl, .ref (sa 0), .ref (sa 1), .ref (sa 2), .ref (sa 3), .ref (sa 4), .ref (sa 5), .ref (sa 6)])), (sa 0, .inl (y 0, 9, .inl f0)), (sa 1, .inl (y 0, 9, .inl f1))] (fun (r : Int32) (u : (Nat → Int32) × (Nat → Int32)) => True) (fun u => [(ad 0, .inr (2, [.int (d.1 0), .int (d.1 1), .int (d.1 2), .int (d.1 3), .ref (ad 1), .int (d.1 4), .ref (ad 11), .ref (ad 12), .ref (ad 2), .ref (ad 3), .int (d.1 5), .int (d.1 6), .int (d.1 7), .int (d.1 8)])), (ad 1, .inr (1, [.int (d.1 9), .ref (ad 4), .ref (ad 5), .ref (ad 6), .ref (ad 7), .ref (ad 8), .ref (ad 9), .ref (ad 10)])), (ad 2, .inr (8, [.int (d.1 10), .ref (ad 13), .ref (ad 14), .ref (ad 15), .ref (ad 16), .ref (ad 17), .ref (ad 18), .ref (ad 19)])), (ad 3, .inr (6, [.int (d.1 11), .int (d.1 12), .ref (ad 20), .ref (ad 21), .ref (ad 22), .ref (ad 23), .ref (ad 24), .ref (ad 25)])), (ad 4, .inl (y 0, 9, .inl (d.2 0))), (ad 5, .inl (y 0, 9, .inl (d.2 1))), (ad 6, .inl (y 0, 9, .inl (d.2 2))), (ad 7, .inl (y 0, 9, .inl (d.2 3))), (ad 8, .inl (y 0, 9, .inl (d.2 4))), (ad 9, .inl (y 0, 9, .inl (d.2 5))), (ad 10, .inl (y 0, 9, .inl (d.2 6))), (ad 11, .inl (y 0, 6, .inl (d.2 7))), (ad 12, .inl (y 0, 6, .inl (d.2 8))), (ad 13, .inl (y 0, 16, .inl (d.2 9))), (ad 14, .inl (y 0, 16, .inl (d.2 10))), (ad 15, .inl (y 0, 16, .inl (d.2 11))), (ad 16, .inl (y 0, 16, .inl (d.2 12))), (ad 17, .inl (y 0, 16, .inl (d.2 13))), (ad 18, .inl (y 0, 16, .inl (d.2 14))), (ad 19, .inl (y 0, 16, .inl (d.2 15))), (ad 20, .inl (y 0, 8, .inl (d.2 16))), (ad 21, .inl (y 0, 8, .inl (d.2 17))), (ad 22, .inl (y 0, 8, .inl (d.2 18))), (ad 23, .inl (y 0, 8, .inl (d.2 19))), (ad 24, .inl (y 0, 1600, .inl (d.2 20))), (ad 25, .inl (y 0, 40, .inl u.2)), (h, .inr (7, [.int sd, .int sw, .int sl, .ref (sa 0), .ref (sa 1), .ref (sa 2), .ref (sa 3), .ref (sa 4), .ref (sa 5), .ref (sa 6)])), (sa 0, .inl (y 0, 9, .inl f0)), (sa 1, .inl (y 0, 9, .inl u.1))])) := by
  refine CT.of (by decide) (nb rfl) ?_
  intro p e s m args below meth c C hr
  refine j_lv (lv' := [(0, .ref (ad 0)), (1, .ref h)]) rfl ?_
  refine j_aload_n (pc := 0) C d_Days_waterAhead_0 rfl 1 rfl ?_
  refine j_get (pc := 1) C gf_Days_62 26 rfl rfl d_Days_waterAhead_1 ?_
  refine j_aload_n (pc := 4) C d_Days_waterAhead_4 rfl 0 rfl ?_
  refine j_aload_n (pc := 5) C d_Days_waterAhead_5 rfl 1 rfl ?_
  refine j_callSi (pc := 6) C (c_setFlows l D y ad d n9 h sa sd sw sl f0 f1 h9 b9) kw_Days_121 ks_Days_setFlows ⟨by decide, by decide⟩ ⟨by decide, by decide⟩ (wr := [(ad 2, .inr (8, [.int (d.1 10), .ref (ad 13), .ref (ad 14), .ref (ad 15), .ref (ad 16), .ref (ad 17), .ref (ad 18), .ref (ad 19)])), (ad 3, .inr (6, [.int (d.1 11), .int (d.1 12), .ref (ad 20), .ref (ad 21), .ref (ad 22), .ref (ad 23), .ref (ad 24), .ref (ad 25)])), (ad 4, .inl (y 0, 9, .inl (d.2 0))), (ad 8, .inl (y 0, 9, .inl (d.2 4))), (ad 10, .inl (y 0, 9, .inl (d.2 6))), (ad 11, .inl (y 0, 6, .inl (d.2 7))), (ad 12, .inl (y 0, 6, .inl (d.2 8))), (ad 13, .inl (y 0, 16, .inl (d.2 9))), (ad 14, .inl (y 0, 16, .inl (d.2 10))), (ad 15, .inl (y 0, 16, .inl (d.2 11))), (ad 16, .inl (y 0, 16, .inl (d.2 12))), (ad 17, .inl (y 0, 16, .inl (d.2 13))), (ad 18, .inl (y 0, 16, .inl (d.2 14))), (ad 19, .inl (y 0, 16, .inl (d.2 15))), (ad 20, .inl (y 0, 8, .inl (d.2 16))), (ad 21, .inl (y 0, 8, .inl (d.2 17))), (ad 22, .inl (y 0, 8, .inl (d.2 18))), (ad 23, .inl (y 0, 8, .inl (d.2 19))), (ad 24, .inl (y 0, 1600, .inl (d.2 20))), (ad 25, .inl (y 0, 40, .inl g))]) [0, 1, 5, 6, 7, 9, 26, 27, 28] [2, 3, 4, 8, 10, 11, 12, 13, 14, 15, 16, 17, 18, 19, 20, 21, 22, 23, 24, 25] rfl rfl (by decide) (by decide) (by decide) (As := [.ref (ad 0), .ref h]) (rest := [.int sw]) rfl (nb rfl) rfl d_Days_waterAhead_6 (fun r1 u2 hr1 => ?_)
  refine j_ws (ws' := [(ad 2, .inr (8, [.int (d.1 10), .ref (ad 13), .ref (ad 14), .ref (ad 15), .ref (ad 16), .ref (ad 17), .ref (ad 18), .ref (ad 19)])), (ad 3, .inr (6, [.int (d.1 11), .int (d.1 12), .ref (ad 20), .ref (ad 21), .ref (ad 22), .ref (ad 23), .ref (ad 24), .ref (ad 25)])), (ad 4, .inl (y 0, 9, .inl (d.2 0))), (ad 8, .inl (y 0, 9, .inl (d.2 4))), (ad 10, .inl (y 0, 9, .inl (d.2 6))), (ad 11, .inl (y 0, 6, .inl (d.2 7))), (ad 12, .inl (y 0, 6, .inl (d.2 8))), (ad 13, .inl (y 0, 16, .inl (d.2 9))), (ad 14, .inl (y 0, 16, .inl (d.2 10))), (ad 15, .inl (y 0, 16, .inl (d.2 11))), (ad 16, .inl (y 0, 16, .inl (d.2 12))), (ad 17, .inl (y 0, 16, .inl (d.2 13))), (ad 18, .inl (y 0, 16, .inl (d.2 14))), (ad 19, .inl (y 0, 16, .inl (d.2 15))), (ad 20, .inl (y 0, 8, .inl (d.2 16))), (ad 21, .inl (y 0, 8, .inl (d.2 17))), (ad 22, .inl (y 0, 8, .inl (d.2 18))), (ad 23, .inl (y 0, 8, .inl (d.2 19))), (ad 24, .inl (y 0, 1600, .inl (d.2 20))), (ad 25, .inl (y 0, 40, .inl g)), (ad 0, .inr (2, [.int (d.1 0), .int (d.1 1), .int (d.1 2), .int (d.1 3), .ref (ad 1), .int (d.1 4), .ref (ad 11), .ref (ad 12), .ref (ad 2), .ref (ad 3), .int (d.1 5), .int (d.1 6), .int (d.1 7), .int (d.1 8)])), (ad 1, .inr (1, [.int (d.1 9), .ref (ad 4), .ref (ad 5), .ref (ad 6), .ref (ad 7), .ref (ad 8), .ref (ad 9), .ref (ad 10)])), (ad 5, .inl (y 0, 9, .inl (d.2 1))), (ad 6, .inl (y 0, 9, .inl (d.2 2))), (ad 7, .inl (y 0, 9, .inl (d.2 3))), (ad 9, .inl (y 0, 9, .inl (d.2 5))), (h, .inr (7, [.int sd, .int sw, .int sl, .ref (sa 0), .ref (sa 1), .ref (sa 2), .ref (sa 3), .ref (sa 4), .ref (sa 5), .ref (sa 6)])), (sa 0, .inl (y 0, 9, .inl f0)), (sa 1, .inl (y 0, 9, .inl u2))]) rfl ?_
  refine j_isub (pc := 9) C (v := sw - r1) d_Days_waterAhead_9 rfl ?_
  refine j_istore_n (pc := 10) C (lv' := [(2, .int (sw - r1)), (0, .ref (ad 0)), (1, .ref h)]) d_Days_waterAhead_10 rfl (by decide) rfl ?_
  refine j_iload_n (pc := 11) C d_Days_waterAhead_11 rfl 0 rfl ?_
  refine j_aload_n (pc := 12) C d_Days_waterAhead_12 rfl 1 rfl ?_
  refine j_get (pc := 13) C gf_Days_55 20 rfl rfl d_Days_waterAhead_13 ?_
  refine j_iconst (pc := 16) C (v := 0) d_Days_waterAhead_16 (by decide) ?_
  refine j_aload_n (pc := 17) C d_Days_waterAhead_17 rfl 2 rfl ?_
  refine j_get (pc := 18) C gf_Days_59 26 rfl rfl d_Days_waterAhead_18 ?_
  refine j_aload_n (pc := 21) C d_Days_waterAhead_21 rfl 1 rfl ?_
  refine j_iload_n (pc := 22) C d_Days_waterAhead_22 rfl 0 rfl ?_
  refine j_callVi (pc := 23) C (c_levelAt l D y ad d (sw - r1)) kw_Days_65 kv_Lake_levelAt 0 2 rfl rfl ⟨by decide, by decide⟩ ⟨by decide, by decide⟩ (wr := [(ad 2, .inr (8, [.int (d.1 10), .ref (ad 13), .ref (ad 14), .ref (ad 15), .ref (ad 16), .ref (ad 17), .ref (ad 18), .ref (ad 19)])), (ad 3, .inr (6, [.int (d.1 11), .int (d.1 12), .ref (ad 20), .ref (ad 21), .ref (ad 22), .ref (ad 23), .ref (ad 24), .ref (ad 25)])), (ad 4, .inl (y 0, 9, .inl (d.2 0))), (ad 8, .inl (y 0, 9, .inl (d.2 4))), (ad 10, .inl (y 0, 9, .inl (d.2 6))), (ad 11, .inl (y 0, 6, .inl (d.2 7))), (ad 12, .inl (y 0, 6, .inl (d.2 8))), (ad 13, .inl (y 0, 16, .inl (d.2 9))), (ad 14, .inl (y 0, 16, .inl (d.2 10))), (ad 15, .inl (y 0, 16, .inl (d.2 11))), (ad 16, .inl (y 0, 16, .inl (d.2 12))), (ad 17, .inl (y 0, 16, .inl (d.2 13))), (ad 18, .inl (y 0, 16, .inl (d.2 14))), (ad 19, .inl (y 0, 16, .inl (d.2 15))), (ad 20, .inl (y 0, 8, .inl (d.2 16))), (ad 21, .inl (y 0, 8, .inl (d.2 17))), (ad 22, .inl (y 0, 8, .inl (d.2 18))), (ad 23, .inl (y 0, 8, .inl (d.2 19))), (ad 24, .inl (y 0, 1600, .inl (d.2 20))), (ad 25, .inl (y 0, 40, .inl g)), (ad 1, .inr (1, [.int (d.1 9), .ref (ad 4), .ref (ad 5), .ref (ad 6), .ref (ad 7), .ref (ad 8), .ref (ad 9), .ref (ad 10)])), (ad 5, .inl (y 0, 9, .inl (d.2 1))), (ad 6, .inl (y 0, 9, .inl (d.2 2))), (ad 7, .inl (y 0, 9, .inl (d.2 3))), (ad 9, .inl (y 0, 9, .inl (d.2 5))), (h, .inr (7, [.int sd, .int sw, .int sl, .ref (sa 0), .ref (sa 1), .ref (sa 2), .ref (sa 3), .ref (sa 4), .ref (sa 5), .ref (sa 6)])), (sa 0, .inl (y 0, 9, .inl f0)), (sa 1, .inl (y 0, 9, .inl u2))]) [20] [0, 1, 2, 3, 4, 5, 6, 7, 8, 9, 10, 11, 12, 13, 14, 15, 16, 17, 18, 19, 21, 22, 23, 24, 25, 26, 27, 28] rfl rfl (by decide) (by decide) (by decide) (As := [.int (sw - r1)]) (rest := [.int sd, .int 0, .ref (ad 3), .int (sw - r1)]) rfl (nb rfl) rfl d_Days_waterAhead_23 (fun r3 _ hr3 => ?_)
  refine j_ws (ws' := [(ad 2, .inr (8, [.int (d.1 10), .ref (ad 13), .ref (ad 14), .ref (ad 15), .ref (ad 16), .ref (ad 17), .ref (ad 18), .ref (ad 19)])), (ad 3, .inr (6, [.int (d.1 11), .int (d.1 12), .ref (ad 20), .ref (ad 21), .ref (ad 22), .ref (ad 23), .ref (ad 24), .ref (ad 25)])), (ad 4, .inl (y 0, 9, .inl (d.2 0))), (ad 8, .inl (y 0, 9, .inl (d.2 4))), (ad 10, .inl (y 0, 9, .inl (d.2 6))), (ad 11, .inl (y 0, 6, .inl (d.2 7))), (ad 12, .inl (y 0, 6, .inl (d.2 8))), (ad 13, .inl (y 0, 16, .inl (d.2 9))), (ad 14, .inl (y 0, 16, .inl (d.2 10))), (ad 15, .inl (y 0, 16, .inl (d.2 11))), (ad 16, .inl (y 0, 16, .inl (d.2 12))), (ad 17, .inl (y 0, 16, .inl (d.2 13))), (ad 18, .inl (y 0, 16, .inl (d.2 14))), (ad 19, .inl (y 0, 16, .inl (d.2 15))), (ad 20, .inl (y 0, 8, .inl (d.2 16))), (ad 21, .inl (y 0, 8, .inl (d.2 17))), (ad 22, .inl (y 0, 8, .inl (d.2 18))), (ad 23, .inl (y 0, 8, .inl (d.2 19))), (ad 24, .inl (y 0, 1600, .inl (d.2 20))), (ad 25, .inl (y 0, 40, .inl g)), (ad 1, .inr (1, [.int (d.1 9), .ref (ad 4), .ref (ad 5), .ref (ad 6), .ref (ad 7), .ref (ad 8), .ref (ad 9), .ref (ad 10)])), (ad 5, .inl (y 0, 9, .inl (d.2 1))), (ad 6, .inl (y 0, 9, .inl (d.2 2))), (ad 7, .inl (y 0, 9, .inl (d.2 3))), (ad 9, .inl (y 0, 9, .inl (d.2 5))), (h, .inr (7, [.int sd, .int sw, .int sl, .ref (sa 0), .ref (sa 1), .ref (sa 2), .ref (sa 3), .ref (sa 4), .ref (sa 5), .ref (sa 6)])), (sa 0, .inl (y 0, 9, .inl f0)), (sa 1, .inl (y 0, 9, .inl u2)), (ad 0, .inr (2, [.int (d.1 0), .int (d.1 1), .int (d.1 2), .int (d.1 3), .ref (ad 1), .int (d.1 4), .ref (ad 11), .ref (ad 12), .ref (ad 2), .ref (ad 3), .int (d.1 5), .int (d.1 6), .int (d.1 7), .int (d.1 8)]))]) rfl ?_
  refine j_iload_n (pc := 26) C d_Days_waterAhead_26 rfl 0 rfl ?_
  refine j_callVi (pc := 27) C (c_amount l D y ad d n11 0 sd r3 (sw - r1) g h11 b11) kw_Days_69 kv_Rules_amount 0 6 rfl rfl ⟨by decide, by decide⟩ ⟨by decide, by decide⟩ (wr := [(ad 2, .inr (8, [.int (d.1 10), .ref (ad 13), .ref (ad 14), .ref (ad 15), .ref (ad 16), .ref (ad 17), .ref (ad 18), .ref (ad 19)])), (ad 4, .inl (y 0, 9, .inl (d.2 0))), (ad 8, .inl (y 0, 9, .inl (d.2 4))), (ad 10, .inl (y 0, 9, .inl (d.2 6))), (ad 11, .inl (y 0, 6, .inl (d.2 7))), (ad 12, .inl (y 0, 6, .inl (d.2 8))), (ad 13, .inl (y 0, 16, .inl (d.2 9))), (ad 14, .inl (y 0, 16, .inl (d.2 10))), (ad 15, .inl (y 0, 16, .inl (d.2 11))), (ad 16, .inl (y 0, 16, .inl (d.2 12))), (ad 17, .inl (y 0, 16, .inl (d.2 13))), (ad 18, .inl (y 0, 16, .inl (d.2 14))), (ad 19, .inl (y 0, 16, .inl (d.2 15))), (ad 1, .inr (1, [.int (d.1 9), .ref (ad 4), .ref (ad 5), .ref (ad 6), .ref (ad 7), .ref (ad 8), .ref (ad 9), .ref (ad 10)])), (ad 5, .inl (y 0, 9, .inl (d.2 1))), (ad 6, .inl (y 0, 9, .inl (d.2 2))), (ad 7, .inl (y 0, 9, .inl (d.2 3))), (ad 9, .inl (y 0, 9, .inl (d.2 5))), (h, .inr (7, [.int sd, .int sw, .int sl, .ref (sa 0), .ref (sa 1), .ref (sa 2), .ref (sa 3), .ref (sa 4), .ref (sa 5), .ref (sa 6)])), (sa 0, .inl (y 0, 9, .inl f0)), (sa 1, .inl (y 0, 9, .inl u2)), (ad 0, .inr (2, [.int (d.1 0), .int (d.1 1), .int (d.1 2), .int (d.1 3), .ref (ad 1), .int (d.1 4), .ref (ad 11), .ref (ad 12), .ref (ad 2), .ref (ad 3), .int (d.1 5), .int (d.1 6), .int (d.1 7), .int (d.1 8)]))]) [1, 14, 15, 16, 17, 18, 19] [0, 2, 3, 4, 5, 6, 7, 8, 9, 10, 11, 12, 13, 20, 21, 22, 23, 24, 25, 26, 27, 28] rfl rfl (by decide) (by decide) (by decide) (As := [.int 0, .int sd, .int r3, .int (sw - r1)]) (rest := [.int (sw - r1)]) rfl (nb rfl) rfl d_Days_waterAhead_27 (fun r4 u5 hr4 => ?_)
  refine j_ws (ws' := [(ad 2, .inr (8, [.int (d.1 10), .ref (ad 13), .ref (ad 14), .ref (ad 15), .ref (ad 16), .ref (ad 17), .ref (ad 18), .ref (ad 19)])), (ad 4, .inl (y 0, 9, .inl (d.2 0))), (ad 8, .inl (y 0, 9, .inl (d.2 4))), (ad 10, .inl (y 0, 9, .inl (d.2 6))), (ad 11, .inl (y 0, 6, .inl (d.2 7))), (ad 12, .inl (y 0, 6, .inl (d.2 8))), (ad 13, .inl (y 0, 16, .inl (d.2 9))), (ad 14, .inl (y 0, 16, .inl (d.2 10))), (ad 15, .inl (y 0, 16, .inl (d.2 11))), (ad 16, .inl (y 0, 16, .inl (d.2 12))), (ad 17, .inl (y 0, 16, .inl (d.2 13))), (ad 18, .inl (y 0, 16, .inl (d.2 14))), (ad 19, .inl (y 0, 16, .inl (d.2 15))), (ad 1, .inr (1, [.int (d.1 9), .ref (ad 4), .ref (ad 5), .ref (ad 6), .ref (ad 7), .ref (ad 8), .ref (ad 9), .ref (ad 10)])), (ad 5, .inl (y 0, 9, .inl (d.2 1))), (ad 6, .inl (y 0, 9, .inl (d.2 2))), (ad 7, .inl (y 0, 9, .inl (d.2 3))), (ad 9, .inl (y 0, 9, .inl (d.2 5))), (h, .inr (7, [.int sd, .int sw, .int sl, .ref (sa 0), .ref (sa 1), .ref (sa 2), .ref (sa 3), .ref (sa 4), .ref (sa 5), .ref (sa 6)])), (sa 0, .inl (y 0, 9, .inl f0)), (sa 1, .inl (y 0, 9, .inl u2)), (ad 0, .inr (2, [.int (d.1 0), .int (d.1 1), .int (d.1 2), .int (d.1 3), .ref (ad 1), .int (d.1 4), .ref (ad 11), .ref (ad 12), .ref (ad 2), .ref (ad 3), .int (d.1 5), .int (d.1 6), .int (d.1 7), .int (d.1 8)])), (ad 3, .inr (6, [.int (d.1 11), .int (d.1 12), .ref (ad 20), .ref (ad 21), .ref (ad 22), .ref (ad 23), .ref (ad 24), .ref (ad 25)])), (ad 20, .inl (y 0, 8, .inl (d.2 16))), (ad 21, .inl (y 0, 8, .inl (d.2 17))), (ad 22, .inl (y 0, 8, .inl (d.2 18))), (ad 23, .inl (y 0, 8, .inl (d.2 19))), (ad 24, .inl (y 0, 1600, .inl (d.2 20))), (ad 25, .inl (y 0, 40, .inl u5))]) rfl ?_
  refine j_iadd (pc := 30) C (v := (sw - r1) + r4) d_Days_waterAhead_30 rfl ?_
  exact j_iret (pc := 31) C hr rfl (u2, u5) trivial [21, 13, 0, 22, 1, 14, 15, 16, 2, 17, 3, 4, 5, 6, 7, 8, 9, 10, 11, 12, 23, 24, 25, 26, 27, 28, 18, 19, 20] rfl (by decide) (by decide) (by decide) d_Days_waterAhead_31
theorem d_Days_giveWorth_2 : decode prog_3_method_10_code 2 = .ok (.iload_n 3, 1) := by decide +kernel
theorem d_Days_giveWorth_3 : decode prog_3_method_10_code 3 = .ok (.aload_n 0, 1) := by decide +kernel
theorem d_Days_giveWorth_4 : decode prog_3_method_10_code 4 = .ok (.getfield 128, 3) := by decide +kernel
theorem gf_Days_128 : GF "NineBoards$Days" 128 2 5 := ⟨_, _, _, rfl, ci_Lake, by decide, (mt_2 (List.mem_of_getElem? (i := 50) rfl) rfl)⟩
theorem d_Days_giveWorth_7 : decode prog_3_method_10_code 7 = .ok (.if_icmp .ge 17, 3) := by decide +kernel
theorem d_Days_giveWorth_10 : decode prog_3_method_10_code 10 = .ok (.aload_n 1, 1) := by decide +kernel
theorem d_Days_giveWorth_11 : decode prog_3_method_10_code 11 = .ok (.getfield 131, 3) := by decide +kernel
theorem gf_Days_131 : GF "NineBoards$Days" 131 7 7 := ⟨_, _, _, rfl, ci_State, by decide, (mt_1 (List.mem_of_getElem? (i := 77) rfl) rfl)⟩
theorem d_Days_giveWorth_14 : decode prog_3_method_10_code 14 = .ok (.iload_n 3, 1) := by decide +kernel
theorem d_Days_giveWorth_15 : decode prog_3_method_10_code 15 = .ok (.iload_n 2, 1) := by decide +kernel
theorem d_Days_giveWorth_16 : decode prog_3_method_10_code 16 = .ok (.ineg, 1) := by decide +kernel
theorem d_Days_giveWorth_17 : decode prog_3_method_10_code 17 = .ok (.iastore, 1) := by decide +kernel
theorem d_Days_giveWorth_18 : decode prog_3_method_10_code 18 = .ok (.iinc 3 1, 3) := by decide +kernel
theorem d_Days_giveWorth_21 : decode prog_3_method_10_code 21 = .ok (.goto (-19), 3) := by decide +kernel
theorem d_Days_giveWorth_32 : decode prog_3_method_10_code 32 = .ok (.iload 4, 2) := by decide +kernel
theorem d_Days_giveWorth_34 : decode prog_3_method_10_code 34 = .ok (.aload_n 3, 1) := by decide +kernel
theorem d_Days_giveWorth_35 : decode prog_3_method_10_code 35 = .ok (.getfield 138, 3) := by decide +kernel
theorem gf_Days_138 : GF "NineBoards$Days" 138 8 0 := ⟨_, _, _, rfl, ci_Things, by decide, (mt_1 (List.mem_of_getElem? (i := 190) rfl) rfl)⟩
theorem d_Days_giveWorth_38 : decode prog_3_method_10_code 38 = .ok (.if_icmp .ge 67, 3) := by decide +kernel
theorem d_Days_giveWorth_41 : decode prog_3_method_10_code 41 = .ok (.aload_n 3, 1) := by decide +kernel
theorem d_Days_giveWorth_42 : decode prog_3_method_10_code 42 = .ok (.iload 4, 2) := by decide +kernel
theorem d_Days_giveWorth_44 : decode prog_3_method_10_code 44 = .ok (.aload_n 1, 1) := by decide +kernel
theorem d_Days_giveWorth_45 : decode prog_3_method_10_code 45 = .ok (.getfield 59, 3) := by decide +kernel
theorem d_Days_giveWorth_48 : decode prog_3_method_10_code 48 = .ok (.aload_n 1, 1) := by decide +kernel
theorem d_Days_giveWorth_49 : decode prog_3_method_10_code 49 = .ok (.getfield 115, 3) := by decide +kernel
theorem d_Days_giveWorth_52 : decode prog_3_method_10_code 52 = .ok (.aload_n 3, 1) := by decide +kernel
theorem d_Days_giveWorth_53 : decode prog_3_method_10_code 53 = .ok (.getfield 141, 3) := by decide +kernel
theorem gf_Days_141 : GF "NineBoards$Days" 141 8 2 := ⟨_, _, _, rfl, ci_Things, by decide, (mt_1 (List.mem_of_getElem? (i := 195) rfl) rfl)⟩
theorem d_Days_giveWorth_56 : decode prog_3_method_10_code 56 = .ok (.iload 4, 2) := by decide +kernel
theorem d_Days_giveWorth_58 : decode prog_3_method_10_code 58 = .ok (.iaload, 1) := by decide +kernel
theorem d_Days_giveWorth_59 : decode prog_3_method_10_code 59 = .ok (.iaload, 1) := by decide +kernel
theorem d_Days_giveWorth_60 : decode prog_3_method_10_code 60 = .ok (.invokevirtual 144, 3) := by decide +kernel
theorem kw_Days_144 : KW "NineBoards$Days" 144 ⟨"NineBoards$Things", "isServed", "(III)Z"⟩ prog_11_method_2_code 5 (some .boolean) 3 := ⟨(mt_4 (List.mem_of_getElem? (i := 106) rfl) rfl), (mt_1 (List.mem_of_getElem? (i := 8) rfl) rfl), (mt_4 (List.mem_of_getElem? (i := 109) rfl) rfl), by decide +kernel⟩
theorem kv_Things_isServed : Cond.instanceMethod ⟨"NineBoards$Things", "isServed", "(III)Z"⟩ ∈ TB ∧ Cond.selects "NineBoards$Things" ⟨"NineBoards$Things", "isServed", "(III)Z"⟩ ⟨"NineBoards$Things", "isServed", "(III)Z"⟩ ∈ TB := ⟨(mt_4 (List.mem_of_getElem? (i := 107) rfl) rfl), (mt_4 (List.mem_of_getElem? (i := 108) rfl) rfl)⟩
theorem d_Days_giveWorth_63 : decode prog_3_method_10_code 63 = .ok (.ifCond .eq 36, 3) := by decide +kernel
theorem d_Days_giveWorth_99 : decode prog_3_method_10_code 99 = .ok (.iinc 4 1, 3) := by decide +kernel
theorem d_Days_giveWorth_102 : decode prog_3_method_10_code 102 = .ok (.goto (-70), 3) := by decide +kernel
theorem d_Days_giveWorth_66 : decode prog_3_method_10_code 66 = .ok (.aload_n 1, 1) := by decide +kernel
theorem d_Days_giveWorth_67 : decode prog_3_method_10_code 67 = .ok (.getfield 147, 3) := by decide +kernel
theorem gf_Days_147 : GF "NineBoards$Days" 147 7 8 := ⟨_, _, _, rfl, ci_State, by decide, (mt_1 (List.mem_of_getElem? (i := 80) rfl) rfl)⟩
theorem d_Days_giveWorth_70 : decode prog_3_method_10_code 70 = .ok (.iload 4, 2) := by decide +kernel
theorem d_Days_giveWorth_72 : decode prog_3_method_10_code 72 = .ok (.dup2, 1) := by decide +kernel
theorem d_Days_giveWorth_73 : decode prog_3_method_10_code 73 = .ok (.iaload, 1) := by decide +kernel
theorem d_Days_giveWorth_74 : decode prog_3_method_10_code 74 = .ok (.iconst 1, 1) := by decide +kernel
theorem d_Days_giveWorth_75 : decode prog_3_method_10_code 75 = .ok (.iadd, 1) := by decide +kernel
theorem d_Days_giveWorth_76 : decode prog_3_method_10_code 76 = .ok (.iastore, 1) := by decide +kernel
theorem d_Days_giveWorth_77 : decode prog_3_method_10_code 77 = .ok (.aload_n 1, 1) := by decide +kernel
theorem d_Days_giveWorth_78 : decode prog_3_method_10_code 78 = .ok (.getfield 131, 3) := by decide +kernel
theorem d_Days_giveWorth_81 : decode prog_3_method_10_code 81 = .ok (.aload_n 3, 1) := by decide +kernel
theorem d_Days_giveWorth_82 : decode prog_3_method_10_code 82 = .ok (.getfield 150, 3) := by decide +kernel
theorem gf_Days_150 : GF "NineBoards$Days" 150 8 1 := ⟨_, _, _, rfl, ci_Things, by decide, (mt_1 (List.mem_of_getElem? (i := 193) rfl) rfl)⟩
theorem d_Days_giveWorth_85 : decode prog_3_method_10_code 85 = .ok (.iload 4, 2) := by decide +kernel
theorem d_Days_giveWorth_87 : decode prog_3_method_10_code 87 = .ok (.iaload, 1) := by decide +kernel
theorem d_Days_giveWorth_88 : decode prog_3_method_10_code 88 = .ok (.dup2, 1) := by decide +kernel
theorem d_Days_giveWorth_89 : decode prog_3_method_10_code 89 = .ok (.iaload, 1) := by decide +kernel
theorem d_Days_giveWorth_90 : decode prog_3_method_10_code 90 = .ok (.aload_n 3, 1) := by decide +kernel
theorem d_Days_giveWorth_91 : decode prog_3_method_10_code 91 = .ok (.getfield 153, 3) := by decide +kernel
theorem gf_Days_153 : GF "NineBoards$Days" 153 8 7 := ⟨_, _, _, rfl, ci_Things, by decide, (mt_1 (List.mem_of_getElem? (i := 207) rfl) rfl)⟩
theorem d_Days_giveWorth_94 : decode prog_3_method_10_code 94 = .ok (.iload 4, 2) := by decide +kernel
theorem d_Days_giveWorth_96 : decode prog_3_method_10_code 96 = .ok (.iaload, 1) := by decide +kernel
theorem d_Days_giveWorth_97 : decode prog_3_method_10_code 97 = .ok (.iadd, 1) := by decide +kernel
theorem d_Days_giveWorth_98 : decode prog_3_method_10_code 98 = .ok (.iastore, 1) := by decide +kernel
theorem d_Days_giveWorth_108 : decode prog_3_method_10_code 108 = .ok (.iload 4, 2) := by decide +kernel
theorem d_Days_giveWorth_110 : decode prog_3_method_10_code 110 = .ok (.aload_n 0, 1) := by decide +kernel
theorem d_Days_giveWorth_111 : decode prog_3_method_10_code 111 = .ok (.getfield 128, 3) := by decide +kernel
theorem d_Days_giveWorth_114 : decode prog_3_method_10_code 114 = .ok (.if_icmp .ge 26, 3) := by decide +kernel
theorem d_Days_giveWorth_117 : decode prog_3_method_10_code 117 = .ok (.aload_n 1, 1) := by decide +kernel
theorem d_Days_giveWorth_118 : decode prog_3_method_10_code 118 = .ok (.getfield 156, 3) := by decide +kernel
theorem gf_Days_156 : GF "NineBoards$Days" 156 7 6 := ⟨_, _, _, rfl, ci_State, by decide, (mt_1 (List.mem_of_getElem? (i := 73) rfl) rfl)⟩
theorem d_Days_giveWorth_121 : decode prog_3_method_10_code 121 = .ok (.iload 4, 2) := by decide +kernel
theorem d_Days_giveWorth_123 : decode prog_3_method_10_code 123 = .ok (.dup2, 1) := by decide +kernel
theorem d_Days_giveWorth_124 : decode prog_3_method_10_code 124 = .ok (.iaload, 1) := by decide +kernel
theorem d_Days_giveWorth_125 : decode prog_3_method_10_code 125 = .ok (.aload_n 1, 1) := by decide +kernel
theorem d_Days_giveWorth_126 : decode prog_3_method_10_code 126 = .ok (.getfield 131, 3) := by decide +kernel
theorem d_Days_giveWorth_129 : decode prog_3_method_10_code 129 = .ok (.iload 4, 2) := by decide +kernel
theorem d_Days_giveWorth_131 : decode prog_3_method_10_code 131 = .ok (.iaload, 1) := by decide +kernel
theorem d_Days_giveWorth_132 : decode prog_3_method_10_code 132 = .ok (.iadd, 1) := by decide +kernel
theorem d_Days_giveWorth_133 : decode prog_3_method_10_code 133 = .ok (.iastore, 1) := by decide +kernel
theorem d_Days_giveWorth_134 : decode prog_3_method_10_code 134 = .ok (.iinc 4 1, 3) := by decide +kernel
theorem d_Days_giveWorth_137 : decode prog_3_method_10_code 137 = .ok (.goto (-29), 3) := by decide +kernel
theorem d_Days_giveWorth_0 : decode prog_3_method_10_code 0 = .ok (.iconst 0, 1) := by decide +kernel
theorem d_Days_giveWorth_1 : decode prog_3_method_10_code 1 = .ok (.istore_n 3, 1) := by decide +kernel
theorem d_Days_giveWorth_24 : decode prog_3_method_10_code 24 = .ok (.aload_n 0, 1) := by decide +kernel
theorem d_Days_giveWorth_25 : decode prog_3_method_10_code 25 = .ok (.getfield 134, 3) := by decide +kernel
theorem gf_Days_134 : GF "NineBoards$Days" 134 2 8 := ⟨_, _, _, rfl, ci_Lake, by decide, (mt_2 (List.mem_of_getElem? (i := 61) rfl) rfl)⟩
theorem d_Days_giveWorth_28 : decode prog_3_method_10_code 28 = .ok (.astore_n 3, 1) := by decide +kernel
theorem d_Days_giveWorth_29 : decode prog_3_method_10_code 29 = .ok (.iconst 0, 1) := by decide +kernel
theorem d_Days_giveWorth_30 : decode prog_3_method_10_code 30 = .ok (.istore 4, 2) := by decide +kernel
theorem d_Days_giveWorth_105 : decode prog_3_method_10_code 105 = .ok (.iconst 0, 1) := by decide +kernel
theorem d_Days_giveWorth_106 : decode prog_3_method_10_code 106 = .ok (.istore 4, 2) := by decide +kernel
theorem d_Days_giveWorth_140 : decode prog_3_method_10_code 140 = .ok (.return_, 1) := by decide +kernel
set_option maxHeartbeats 4000000 in
set_option maxRecDepth 100000 in
theorem lp_giveA {p : Program} {l : Launch} {e : Env} {s : State} {m : MethodId} {args : Array Value} {below : List Frame} {meth : Method} {c : Code} {Q : State → Prop} {D : va_G} {y : Nat → ClassId} {A : Nat → Prop} (C : Cx p s m args meth c D y A prog_3_method_10_code 5 "NineBoards$Days" "giveWorth") (ad : Nat → Nat) (d : LD) (n4 : Nat) (n10 : Nat) (h : Nat) (sa : Nat → Nat) (sd : Int32) (sw : Int32) (sl : Int32) (f1 : Nat → Int32) (f3 : Nat → Int32) (f5 : Nat → Int32) (va : Int32) (h4 : d.1 4 = nI n4) (b4 : n4 ≤ 6) (kx : ∀ (f4 : Nat → Int32), J p l e ({ frames := 1, cells := 0, slots := 0, locals := 24 } : Room) s m args below meth c Q D A 5 [(ad 0, .inr (2, [.int (d.1 0), .int (d.1 1), .int (d.1 2), .int (d.1 3), .ref (ad 1), .int (d.1 4), .ref (ad 11), .ref (ad 12), .ref (ad 2), .ref (ad 3), .int (d.1 5), .int (d.1 6), .int (d.1 7), .int (d.1 8)])), (ad 2, .inr (8, [.int (d.1 10), .ref (ad 13), .ref (ad 14), .ref (ad 15), .ref (ad 16), .ref (ad 17), .ref (ad 18), .ref (ad 19)])), (ad 13, .inl (y 0, 16, .inl (d.2 9))), (ad 14, .inl (y 0, 16, .inl (d.2 10))), (ad 15, .inl (y 0, 16, .inl (d.2 11))), (ad 16, .inl (y 0, 16, .inl (d.2 12))), (ad 17, .inl (y 0, 16, .inl (d.2 13))), (ad 18, .inl (y 0, 16, .inl (d.2 14))), (ad 19, .inl (y 0, 16, .inl (d.2 15))), (h, .inr (7, [.int sd, .int sw, .int sl, .ref (sa 0), .ref (sa 1), .ref (sa 2), .ref (sa 3), .ref (sa 4), .ref (sa 5), .ref (sa 6)])), (sa 1, .inl (y 0, 9, .inl f1)), (sa 3, .inl (y 0, 6, .inl f3)), (sa 4, .inl (y 0, 6, .inl f4)), (sa 5, .inl (y 0, 16, .inl f5))] [(0, .ref (ad 0)), (1, .ref h), (2, .int va), (3, .int (nI n4))] 0 0 24 []) : ∀ (n : Nat) (i : Nat) (f4 : Nat → Int32), (i + n = n4) → J p l e ({ frames := 1, cells := 0, slots := 0, locals := 24 } : Room) s m args below meth c Q D A 5 [(ad 0, .inr (2, [.int (d.1 0), .int (d.1 1), .int (d.1 2), .int (d.1 3), .ref (ad 1), .int (d.1 4), .ref (ad 11), .ref (ad 12), .ref (ad 2), .ref (ad 3), .int (d.1 5), .int (d.1 6), .int (d.1 7), .int (d.1 8)])), (ad 2, .inr (8, [.int (d.1 10), .ref (ad 13), .ref (ad 14), .ref (ad 15), .ref (ad 16), .ref (ad 17), .ref (ad 18), .ref (ad 19)])), (ad 13, .inl (y 0, 16, .inl (d.2 9))), (ad 14, .inl (y 0, 16, .inl (d.2 10))), (ad 15, .inl (y 0, 16, .inl (d.2 11))), (ad 16, .inl (y 0, 16, .inl (d.2 12))), (ad 17, .inl (y 0, 16, .inl (d.2 13))), (ad 18, .inl (y 0, 16, .inl (d.2 14))), (ad 19, .inl (y 0, 16, .inl (d.2 15))), (h, .inr (7, [.int sd, .int sw, .int sl, .ref (sa 0), .ref (sa 1), .ref (sa 2), .ref (sa 3), .ref (sa 4), .ref (sa 5), .ref (sa 6)])), (sa 1, .inl (y 0, 9, .inl f1)), (sa 3, .inl (y 0, 6, .inl f3)), (sa 4, .inl (y 0, 6, .inl f4)), (sa 5, .inl (y 0, 16, .inl f5))] [(0, .ref (ad 0)), (1, .ref h), (2, .int va), (3, .int (nI i))] 0 0 2 [] := by
  intro n
  induction n with
  | zero =>
    intro i f4 hi
    obtain rfl : i = n4 := by omega
    refine j_iload_n (pc := 2) C d_Days_giveWorth_2 rfl 3 rfl ?_
    refine j_aload_n (pc := 3) C d_Days_giveWorth_3 rfl 0 rfl ?_
    refine j_get (pc := 4) C gf_Days_128 0 rfl rfl d_Days_giveWorth_4 ?_
    refine j_icmp_geT (pc := 7) C (tgt := 24) d_Days_giveWorth_7 (by decide) (by rw [h4]; exact Int32.le_refl _) ?_
    exact kx _
  | succ n ih =>
    intro i f4 hi
    refine j_iload_n (pc := 2) C d_Days_giveWorth_2 rfl 3 rfl ?_
    refine j_aload_n (pc := 3) C d_Days_giveWorth_3 rfl 0 rfl ?_
    refine j_get (pc := 4) C gf_Days_128 0 rfl rfl d_Days_giveWorth_4 ?_
    refine j_icmp_geF (pc := 7) C (tgt := 24) d_Days_giveWorth_7 (by decide) (by rw [h4]; exact nI_ge (by omega) (by omega)) ?_
    refine j_aload_n (pc := 10) C d_Days_giveWorth_10 rfl 1 rfl ?_
    refine j_get (pc := 11) C gf_Days_131 9 rfl rfl d_Days_giveWorth_11 ?_
    refine j_iload_n (pc := 14) C d_Days_giveWorth_14 rfl 3 rfl ?_
    refine j_iload_n (pc := 15) C d_Days_giveWorth_15 rfl 2 rfl ?_
    refine j_ineg (pc := 16) C (v := -va) d_Days_giveWorth_16 rfl ?_
    refine j_iast (pc := 17) C 12 rfl (ws' := [(ad 0, .inr (2, [.int (d.1 0), .int (d.1 1), .int (d.1 2), .int (d.1 3), .ref (ad 1), .int (d.1 4), .ref (ad 11), .ref (ad 12), .ref (ad 2), .ref (ad 3), .int (d.1 5), .int (d.1 6), .int (d.1 7), .int (d.1 8)])), (ad 2, .inr (8, [.int (d.1 10), .ref (ad 13), .ref (ad 14), .ref (ad 15), .ref (ad 16), .ref (ad 17), .ref (ad 18), .ref (ad 19)])), (ad 13, .inl (y 0, 16, .inl (d.2 9))), (ad 14, .inl (y 0, 16, .inl (d.2 10))), (ad 15, .inl (y 0, 16, .inl (d.2 11))), (ad 16, .inl (y 0, 16, .inl (d.2 12))), (ad 17, .inl (y 0, 16, .inl (d.2 13))), (ad 18, .inl (y 0, 16, .inl (d.2 14))), (ad 19, .inl (y 0, 16, .inl (d.2 15))), (h, .inr (7, [.int sd, .int sw, .int sl, .ref (sa 0), .ref (sa 1), .ref (sa 2), .ref (sa 3), .ref (sa 4), .ref (sa 5), .ref (sa 6)])), (sa 1, .inl (y 0, 9, .inl f1)), (sa 3, .inl (y 0, 6, .inl f3)), (sa 4, .inl (y 0, 6, .inl (upd f4 (nI i).toNatClampNeg (-va)))), (sa 5, .inl (y 0, 16, .inl f5))]) (vp_in_nI (by omega) (by decide)) rfl d_Days_giveWorth_17 ?_
    refine j_iinc (pc := 18) C (v := nI (i + 1)) (lv' := [(3, .int (nI (i + 1))), (0, .ref (ad 0)), (1, .ref h), (2, .int va)]) d_Days_giveWorth_18 3 rfl (nI_1 _) (by decide) rfl ?_
    refine j_goto (pc := 21) C (tgt := 2) d_Days_giveWorth_21 (by decide) ?_
    refine j_locs (lv' := [(0, .ref (ad 0)), (1, .ref h), (2, .int va), (3, .int (nI (i + 1)))]) [1, 2, 3, 0] rfl ?_
    exact ih (i + 1) _ (by omega)
set_option maxHeartbeats 4000000 in
set_option maxRecDepth 100000 in
theorem lp_giveB {p : Program} {l : Launch} {e : Env} {s : State} {m : MethodId} {args : Array Value} {below : List Frame} {meth : Method} {c : Code} {Q : State → Prop} {D : va_G} {y : Nat → ClassId} {A : Nat → Prop} (C : Cx p s m args meth c D y A prog_3_method_10_code 5 "NineBoards$Days" "giveWorth") (ad : Nat → Nat) (d : LD) (n4 : Nat) (n10 : Nat) (h : Nat) (sa : Nat → Nat) (sd : Int32) (sw : Int32) (sl : Int32) (f1 : Nat → Int32) (f3 : Nat → Int32) (va : Int32) (h10 : d.1 10 = nI n10) (b10 : n10 ≤ 16) (hT : ∀ j, j < n10 → (∃ q, q < 6 ∧ d.2 9 j = nI q) ∧ ∃ q, q < 9 ∧ d.2 10 j = nI q) (kx : ∀ (f4 : Nat → Int32) (f5 : Nat → Int32), J p l e ({ frames := 1, cells := 0, slots := 0, locals := 24 } : Room) s m args below meth c Q D A 5 [(ad 0, .inr (2, [.int (d.1 0), .int (d.1 1), .int (d.1 2), .int (d.1 3), .ref (ad 1), .int (d.1 4), .ref (ad 11), .ref (ad 12), .ref (ad 2), .ref (ad 3), .int (d.1 5), .int (d.1 6), .int (d.1 7), .int (d.1 8)])), (ad 2, .inr (8, [.int (d.1 10), .ref (ad 13), .ref (ad 14), .ref (ad 15), .ref (ad 16), .ref (ad 17), .ref (ad 18), .ref (ad 19)])), (ad 13, .inl (y 0, 16, .inl (d.2 9))), (ad 14, .inl (y 0, 16, .inl (d.2 10))), (ad 15, .inl (y 0, 16, .inl (d.2 11))), (ad 16, .inl (y 0, 16, .inl (d.2 12))), (ad 17, .inl (y 0, 16, .inl (d.2 13))), (ad 18, .inl (y 0, 16, .inl (d.2 14))), (ad 19, .inl (y 0, 16, .inl (d.2 15))), (h, .inr (7, [.int sd, .int sw, .int sl, .ref (sa 0), .ref (sa 1), .ref (sa 2), .ref (sa 3), .ref (sa 4), .ref (sa 5), .ref (sa 6)])), (sa 1, .inl (y 0, 9, .inl f1)), (sa 3, .inl (y 0, 6, .inl f3)), (sa 4, .inl (y 0, 6, .inl f4)), (sa 5, .inl (y 0, 16, .inl f5))] [(0, .ref (ad 0)), (1, .ref h), (2, .int va), (3, .ref (ad 2)), (4, .int (nI n10))] 0 0 105 []) : ∀ (n : Nat) (i : Nat) (f4 : Nat → Int32) (f5 : Nat → Int32), (i + n = n10) → J p l e ({ frames := 1, cells := 0, slots := 0, locals := 24 } : Room) s m args below meth c Q D A 5 [(ad 0, .inr (2, [.int (d.1 0), .int (d.1 1), .int (d.1 2), .int (d.1 3), .ref (ad 1), .int (d.1 4), .ref (ad 11), .ref (ad 12), .ref (ad 2), .ref (ad 3), .int (d.1 5), .int (d.1 6), .int (d.1 7), .int (d.1 8)])), (ad 2, .inr (8, [.int (d.1 10), .ref (ad 13), .ref (ad 14), .ref (ad 15), .ref (ad 16), .ref (ad 17), .ref (ad 18), .ref (ad 19)])), (ad 13, .inl (y 0, 16, .inl (d.2 9))), (ad 14, .inl (y 0, 16, .inl (d.2 10))), (ad 15, .inl (y 0, 16, .inl (d.2 11))), (ad 16, .inl (y 0, 16, .inl (d.2 12))), (ad 17, .inl (y 0, 16, .inl (d.2 13))), (ad 18, .inl (y 0, 16, .inl (d.2 14))), (ad 19, .inl (y 0, 16, .inl (d.2 15))), (h, .inr (7, [.int sd, .int sw, .int sl, .ref (sa 0), .ref (sa 1), .ref (sa 2), .ref (sa 3), .ref (sa 4), .ref (sa 5), .ref (sa 6)])), (sa 1, .inl (y 0, 9, .inl f1)), (sa 3, .inl (y 0, 6, .inl f3)), (sa 4, .inl (y 0, 6, .inl f4)), (sa 5, .inl (y 0, 16, .inl f5))] [(0, .ref (ad 0)), (1, .ref h), (2, .int va), (3, .ref (ad 2)), (4, .int (nI i))] 0 0 32 [] := by
  intro n
  induction n with
  | zero =>
    intro i f4 f5 hi
    obtain rfl : i = n10 := by omega
    refine j_iload (pc := 32) C d_Days_giveWorth_32 4 rfl ?_
    refine j_aload_n (pc := 34) C d_Days_giveWorth_34 rfl 3 rfl ?_
    refine j_get (pc := 35) C gf_Days_138 1 rfl rfl d_Days_giveWorth_35 ?_
    refine j_icmp_geT (pc := 38) C (tgt := 105) d_Days_giveWorth_38 (by decide) (by rw [h10]; exact Int32.le_refl _) ?_
    exact kx _ _
  | succ n ih =>
    intro i f4 f5 hi
    refine j_iload (pc := 32) C d_Days_giveWorth_32 4 rfl ?_
    refine j_aload_n (pc := 34) C d_Days_giveWorth_34 rfl 3 rfl ?_
    refine j_get (pc := 35) C gf_Days_138 1 rfl rfl d_Days_giveWorth_35 ?_
    refine j_icmp_geF (pc := 38) C (tgt := 105) d_Days_giveWorth_38 (by decide) (by rw [h10]; exact nI_ge (by omega) (by omega)) ?_
    refine j_aload_n (pc := 41) C d_Days_giveWorth_41 rfl 3 rfl ?_
    refine j_iload (pc := 42) C d_Days_giveWorth_42 4 rfl ?_
    refine j_aload_n (pc := 44) C d_Days_giveWorth_44 rfl 1 rfl ?_
    refine j_get (pc := 45) C gf_Days_59 9 rfl rfl d_Days_giveWorth_45 ?_
    refine j_aload_n (pc := 48) C d_Days_giveWorth_48 rfl 1 rfl ?_
    refine j_get (pc := 49) C gf_Days_115 9 rfl rfl d_Days_giveWorth_49 ?_
    refine j_aload_n (pc := 52) C d_Days_giveWorth_52 rfl 3 rfl ?_
    refine j_get (pc := 53) C gf_Days_141 1 rfl rfl d_Days_giveWorth_53 ?_
    refine j_iload (pc := 56) C d_Days_giveWorth_56 4 rfl ?_
    obtain ⟨q1, h2, e3⟩ := (hT i (by omega)).2
    refine j_iald (pc := 58) C 3 rfl (v := nI q1) (vp_in_nI (by omega) (by decide)) (by rw [nI_clamp (by omega)]; exact e3) d_Days_giveWorth_58 ?_
    refine j_iald (pc := 59) C 10 rfl (v := f1 (nI q1).toNatClampNeg) (vp_in_nI (by omega) (by decide)) rfl d_Days_giveWorth_59 ?_
    refine j_callVi (pc := 60) C (c_isServed l D y ad d i sd (f1 (nI q1).toNatClampNeg) (by omega)) kw_Days_144 kv_Things_isServed 0 8 rfl rfl ⟨by decide, by decide⟩ ⟨by decide, by decide⟩ (wr := [(ad 0, .inr (2, [.int (d.1 0), .int (d.1 1), .int (d.1 2), .int (d.1 3), .ref (ad 1), .int (d.1 4), .ref (ad 11), .ref (ad 12), .ref (ad 2), .ref (ad 3), .int (d.1 5), .int (d.1 6), .int (d.1 7), .int (d.1 8)])), (ad 13, .inl (y 0, 16, .inl (d.2 9))), (ad 14, .inl (y 0, 16, .inl (d.2 10))), (ad 19, .inl (y 0, 16, .inl (d.2 15))), (h, .inr (7, [.int sd, .int sw, .int sl, .ref (sa 0), .ref (sa 1), .ref (sa 2), .ref (sa 3), .ref (sa 4), .ref (sa 5), .ref (sa 6)])), (sa 1, .inl (y 0, 9, .inl f1)), (sa 3, .inl (y 0, 6, .inl f3)), (sa 4, .inl (y 0, 6, .inl f4)), (sa 5, .inl (y 0, 16, .inl f5))]) [1, 4, 5, 6, 7] [0, 2, 3, 8, 9, 10, 11, 12, 13] rfl rfl (by decide) (by decide) (by decide) (As := [.int (nI i), .int sd, .int (f1 (nI q1).toNatClampNeg)]) (rest := []) rfl (nb rfl) rfl d_Days_giveWorth_60 (fun r4 _ hr4 => ?_)
    refine j_ws (ws' := [(ad 0, .inr (2, [.int (d.1 0), .int (d.1 1), .int (d.1 2), .int (d.1 3), .ref (ad 1), .int (d.1 4), .ref (ad 11), .ref (ad 12), .ref (ad 2), .ref (ad 3), .int (d.1 5), .int (d.1 6), .int (d.1 7), .int (d.1 8)])), (ad 13, .inl (y 0, 16, .inl (d.2 9))), (ad 14, .inl (y 0, 16, .inl (d.2 10))), (ad 19, .inl (y 0, 16, .inl (d.2 15))), (h, .inr (7, [.int sd, .int sw, .int sl, .ref (sa 0), .ref (sa 1), .ref (sa 2), .ref (sa 3), .ref (sa 4), .ref (sa 5), .ref (sa 6)])), (sa 1, .inl (y 0, 9, .inl f1)), (sa 3, .inl (y 0, 6, .inl f3)), (sa 4, .inl (y 0, 6, .inl f4)), (sa 5, .inl (y 0, 16, .inl f5)), (ad 2, .inr (8, [.int (d.1 10), .ref (ad 13), .ref (ad 14), .ref (ad 15), .ref (ad 16), .ref (ad 17), .ref (ad 18), .ref (ad 19)])), (ad 15, .inl (y 0, 16, .inl (d.2 11))), (ad 16, .inl (y 0, 16, .inl (d.2 12))), (ad 17, .inl (y 0, 16, .inl (d.2 13))), (ad 18, .inl (y 0, 16, .inl (d.2 14)))]) rfl ?_
    refine j_if_eq (pc := 63) C (tgt := 99) d_Days_giveWorth_63 (by decide) (fun c5 => ?_) (fun c5 => ?_)
    · refine j_iinc (pc := 99) C (v := nI (i + 1)) (lv' := [(4, .int (nI (i + 1))), (0, .ref (ad 0)), (1, .ref h), (2, .int va), (3, .ref (ad 2))]) d_Days_giveWorth_99 4 rfl (nI_1 _) (by decide) rfl ?_
      refine j_goto (pc := 102) C (tgt := 32) d_Days_giveWorth_102 (by decide) ?_
      refine j_sub (ws' := [(ad 0, .inr (2, [.int (d.1 0), .int (d.1 1), .int (d.1 2), .int (d.1 3), .ref (ad 1), .int (d.1 4), .ref (ad 11), .ref (ad 12), .ref (ad 2), .ref (ad 3), .int (d.1 5), .int (d.1 6), .int (d.1 7), .int (d.1 8)])), (ad 2, .inr (8, [.int (d.1 10), .ref (ad 13), .ref (ad 14), .ref (ad 15), .ref (ad 16), .ref (ad 17), .ref (ad 18), .ref (ad 19)])), (ad 13, .inl (y 0, 16, .inl (d.2 9))), (ad 14, .inl (y 0, 16, .inl (d.2 10))), (ad 15, .inl (y 0, 16, .inl (d.2 11))), (ad 16, .inl (y 0, 16, .inl (d.2 12))), (ad 17, .inl (y 0, 16, .inl (d.2 13))), (ad 18, .inl (y 0, 16, .inl (d.2 14))), (ad 19, .inl (y 0, 16, .inl (d.2 15))), (h, .inr (7, [.int sd, .int sw, .int sl, .ref (sa 0), .ref (sa 1), .ref (sa 2), .ref (sa 3), .ref (sa 4), .ref (sa 5), .ref (sa 6)])), (sa 1, .inl (y 0, 9, .inl f1)), (sa 3, .inl (y 0, 6, .inl f3)), (sa 4, .inl (y 0, 6, .inl f4)), (sa 5, .inl (y 0, 16, .inl f5))]) [0, 9, 1, 2, 10, 11, 12, 13, 3, 4, 5, 6, 7, 8] rfl (by decide) ?_
      refine j_locs (lv' := [(0, .ref (ad 0)), (1, .ref h), (2, .int va), (3, .ref (ad 2)), (4, .int (nI (i + 1)))]) [1, 2, 3, 4, 0] rfl ?_
      exact ih (i + 1) _ _ (by omega)
    · refine j_aload_n (pc := 66) C d_Days_giveWorth_66 rfl 1 rfl ?_
      refine j_get (pc := 67) C gf_Days_147 4 rfl rfl d_Days_giveWorth_67 ?_
      refine j_iload (pc := 70) C d_Days_giveWorth_70 4 rfl ?_
      refine j_dup2 (pc := 72) C d_Days_giveWorth_72 rfl rfl ?_
      refine j_iald (pc := 73) C 8 rfl (v := f5 (nI i).toNatClampNeg) (vp_in_nI (by omega) (by decide)) rfl d_Days_giveWorth_73 ?_
      refine j_iconst (pc := 74) C (v := 1) d_Days_giveWorth_74 (by decide) ?_
      refine j_iadd (pc := 75) C (v := (f5 (nI i).toNatClampNeg) + 1) d_Days_giveWorth_75 rfl ?_
      refine j_iast (pc := 76) C 8 rfl (ws' := [(ad 0, .inr (2, [.int (d.1 0), .int (d.1 1), .int (d.1 2), .int (d.1 3), .ref (ad 1), .int (d.1 4), .ref (ad 11), .ref (ad 12), .ref (ad 2), .ref (ad 3), .int (d.1 5), .int (d.1 6), .int (d.1 7), .int (d.1 8)])), (ad 13, .inl (y 0, 16, .inl (d.2 9))), (ad 14, .inl (y 0, 16, .inl (d.2 10))), (ad 19, .inl (y 0, 16, .inl (d.2 15))), (h, .inr (7, [.int sd, .int sw, .int sl, .ref (sa 0), .ref (sa 1), .ref (sa 2), .ref (sa 3), .ref (sa 4), .ref (sa 5), .ref (sa 6)])), (sa 1, .inl (y 0, 9, .inl f1)), (sa 3, .inl (y 0, 6, .inl f3)), (sa 4, .inl (y 0, 6, .inl f4)), (sa 5, .inl (y 0, 16, .inl (upd f5 (nI i).toNatClampNeg ((f5 (nI i).toNatClampNeg) + 1)))), (ad 2, .inr (8, [.int (d.1 10), .ref (ad 13), .ref (ad 14), .ref (ad 15), .ref (ad 16), .ref (ad 17), .ref (ad 18), .ref (ad 19)])), (ad 15, .inl (y 0, 16, .inl (d.2 11))), (ad 16, .inl (y 0, 16, .inl (d.2 12))), (ad 17, .inl (y 0, 16, .inl (d.2 13))), (ad 18, .inl (y 0, 16, .inl (d.2 14)))]) (vp_in_nI (by omega) (by decide)) rfl d_Days_giveWorth_76 ?_
      refine j_aload_n (pc := 77) C d_Days_giveWorth_77 rfl 1 rfl ?_
      refine j_get (pc := 78) C gf_Days_131 4 rfl rfl d_Days_giveWorth_78 ?_
      refine j_aload_n (pc := 81) C d_Days_giveWorth_81 rfl 3 rfl ?_
      refine j_get (pc := 82) C gf_Days_150 9 rfl rfl d_Days_giveWorth_82 ?_
      refine j_iload (pc := 85) C d_Days_giveWorth_85 4 rfl ?_
      obtain ⟨q6, h7, e8⟩ := (hT i (by omega)).1
      refine j_iald (pc := 87) C 1 rfl (v := nI q6) (vp_in_nI (by omega) (by decide)) (by rw [nI_clamp (by omega)]; exact e8) d_Days_giveWorth_87 ?_
      refine j_dup2 (pc := 88) C d_Days_giveWorth_88 rfl rfl ?_
      refine j_iald (pc := 89) C 7 rfl (v := f4 (nI q6).toNatClampNeg) (vp_in_nI (by omega) (by decide)) rfl d_Days_giveWorth_89 ?_
      refine j_aload_n (pc := 90) C d_Days_giveWorth_90 rfl 3 rfl ?_
      refine j_get (pc := 91) C gf_Days_153 9 rfl rfl d_Days_giveWorth_91 ?_
      refine j_iload (pc := 94) C d_Days_giveWorth_94 4 rfl ?_
      refine j_iald (pc := 96) C 3 rfl (v := (d.2 15) (nI i).toNatClampNeg) (vp_in_nI (by omega) (by decide)) rfl d_Days_giveWorth_96 ?_
      refine j_iadd (pc := 97) C (v := (f4 (nI q6).toNatClampNeg) + ((d.2 15) (nI i).toNatClampNeg)) d_Days_giveWorth_97 rfl ?_
      refine j_iast (pc := 98) C 7 rfl (ws' := [(ad 0, .inr (2, [.int (d.1 0), .int (d.1 1), .int (d.1 2), .int (d.1 3), .ref (ad 1), .int (d.1 4), .ref (ad 11), .ref (ad 12), .ref (ad 2), .ref (ad 3), .int (d.1 5), .int (d.1 6), .int (d.1 7), .int (d.1 8)])), (ad 13, .inl (y 0, 16, .inl (d.2 9))), (ad 14, .inl (y 0, 16, .inl (d.2 10))), (ad 19, .inl (y 0, 16, .inl (d.2 15))), (h, .inr (7, [.int sd, .int sw, .int sl, .ref (sa 0), .ref (sa 1), .ref (sa 2), .ref (sa 3), .ref (sa 4), .ref (sa 5), .ref (sa 6)])), (sa 1, .inl (y 0, 9, .inl f1)), (sa 3, .inl (y 0, 6, .inl f3)), (sa 4, .inl (y 0, 6, .inl (upd f4 (nI q6).toNatClampNeg ((f4 (nI q6).toNatClampNeg) + ((d.2 15) (nI i).toNatClampNeg))))), (sa 5, .inl (y 0, 16, .inl (upd f5 (nI i).toNatClampNeg ((f5 (nI i).toNatClampNeg) + 1)))), (ad 2, .inr (8, [.int (d.1 10), .ref (ad 13), .ref (ad 14), .ref (ad 15), .ref (ad 16), .ref (ad 17), .ref (ad 18), .ref (ad 19)])), (ad 15, .inl (y 0, 16, .inl (d.2 11))), (ad 16, .inl (y 0, 16, .inl (d.2 12))), (ad 17, .inl (y 0, 16, .inl (d.2 13))), (ad 18, .inl (y 0, 16, .inl (d.2 14)))]) (vp_in_nI (by omega) (by decide)) rfl d_Days_giveWorth_98 ?_
      refine j_iinc (pc := 99) C (v := nI (i + 1)) (lv' := [(4, .int (nI (i + 1))), (0, .ref (ad 0)), (1, .ref h), (2, .int va), (3, .ref (ad 2))]) d_Days_giveWorth_99 4 rfl (nI_1 _) (by decide) rfl ?_
      refine j_goto (pc := 102) C (tgt := 32) d_Days_giveWorth_102 (by decide) ?_
      refine j_sub (ws' := [(ad 0, .inr (2, [.int (d.1 0), .int (d.1 1), .int (d.1 2), .int (d.1 3), .ref (ad 1), .int (d.1 4), .ref (ad 11), .ref (ad 12), .ref (ad 2), .ref (ad 3), .int (d.1 5), .int (d.1 6), .int (d.1 7), .int (d.1 8)])), (ad 2, .inr (8, [.int (d.1 10), .ref (ad 13), .ref (ad 14), .ref (ad 15), .ref (ad 16), .ref (ad 17), .ref (ad 18), .ref (ad 19)])), (ad 13, .inl (y 0, 16, .inl (d.2 9))), (ad 14, .inl (y 0, 16, .inl (d.2 10))), (ad 15, .inl (y 0, 16, .inl (d.2 11))), (ad 16, .inl (y 0, 16, .inl (d.2 12))), (ad 17, .inl (y 0, 16, .inl (d.2 13))), (ad 18, .inl (y 0, 16, .inl (d.2 14))), (ad 19, .inl (y 0, 16, .inl (d.2 15))), (h, .inr (7, [.int sd, .int sw, .int sl, .ref (sa 0), .ref (sa 1), .ref (sa 2), .ref (sa 3), .ref (sa 4), .ref (sa 5), .ref (sa 6)])), (sa 1, .inl (y 0, 9, .inl f1)), (sa 3, .inl (y 0, 6, .inl f3)), (sa 4, .inl (y 0, 6, .inl (upd f4 (nI q6).toNatClampNeg ((f4 (nI q6).toNatClampNeg) + ((d.2 15) (nI i).toNatClampNeg))))), (sa 5, .inl (y 0, 16, .inl (upd f5 (nI i).toNatClampNeg ((f5 (nI i).toNatClampNeg) + 1))))]) [0, 9, 1, 2, 10, 11, 12, 13, 3, 4, 5, 6, 7, 8] rfl (by decide) ?_
      refine j_locs (lv' := [(0, .ref (ad 0)), (1, .ref h), (2, .int va), (3, .ref (ad 2)), (4, .int (nI (i + 1)))]) [1, 2, 3, 4, 0] rfl ?_
      exact ih (i + 1) _ _ (by omega)
set_option maxHeartbeats 4000000 in
set_option maxRecDepth 100000 in
theorem lp_giveC {p : Program} {l : Launch} {e : Env} {s : State} {m : MethodId} {args : Array Value} {below : List Frame} {meth : Method} {c : Code} {Q : State → Prop} {D : va_G} {y : Nat → ClassId} {A : Nat → Prop} (C : Cx p s m args meth c D y A prog_3_method_10_code 5 "NineBoards$Days" "giveWorth") (ad : Nat → Nat) (d : LD) (n4 : Nat) (n10 : Nat) (h : Nat) (sa : Nat → Nat) (sd : Int32) (sw : Int32) (sl : Int32) (f1 : Nat → Int32) (f4 : Nat → Int32) (f5 : Nat → Int32) (va : Int32) (h4 : d.1 4 = nI n4) (b4 : n4 ≤ 6) (kx : ∀ (f3 : Nat → Int32), J p l e ({ frames := 1, cells := 0, slots := 0, locals := 24 } : Room) s m args below meth c Q D A 5 [(ad 0, .inr (2, [.int (d.1 0), .int (d.1 1), .int (d.1 2), .int (d.1 3), .ref (ad 1), .int (d.1 4), .ref (ad 11), .ref (ad 12), .ref (ad 2), .ref (ad 3), .int (d.1 5), .int (d.1 6), .int (d.1 7), .int (d.1 8)])), (ad 2, .inr (8, [.int (d.1 10), .ref (ad 13), .ref (ad 14), .ref (ad 15), .ref (ad 16), .ref (ad 17), .ref (ad 18), .ref (ad 19)])), (ad 13, .inl (y 0, 16, .inl (d.2 9))), (ad 14, .inl (y 0, 16, .inl (d.2 10))), (ad 15, .inl (y 0, 16, .inl (d.2 11))), (ad 16, .inl (y 0, 16, .inl (d.2 12))), (ad 17, .inl (y 0, 16, .inl (d.2 13))), (ad 18, .inl (y 0, 16, .inl (d.2 14))), (ad 19, .inl (y 0, 16, .inl (d.2 15))), (h, .inr (7, [.int sd, .int sw, .int sl, .ref (sa 0), .ref (sa 1), .ref (sa 2), .ref (sa 3), .ref (sa 4), .ref (sa 5), .ref (sa 6)])), (sa 1, .inl (y 0, 9, .inl f1)), (sa 3, .inl (y 0, 6, .inl f3)), (sa 4, .inl (y 0, 6, .inl f4)), (sa 5, .inl (y 0, 16, .inl f5))] [(0, .ref (ad 0)), (1, .ref h), (2, .int va), (3, .ref (ad 2)), (4, .int (nI n4))] 0 0 140 []) : ∀ (n : Nat) (i : Nat) (f3 : Nat → Int32), (i + n = n4) → J p l e ({ frames := 1, cells := 0, slots := 0, locals := 24 } : Room) s m args below meth c Q D A 5 [(ad 0, .inr (2, [.int (d.1 0), .int (d.1 1), .int (d.1 2), .int (d.1 3), .ref (ad 1), .int (d.1 4), .ref (ad 11), .ref (ad 12), .ref (ad 2), .ref (ad 3), .int (d.1 5), .int (d.1 6), .int (d.1 7), .int (d.1 8)])), (ad 2, .inr (8, [.int (d.1 10), .ref (ad 13), .ref (ad 14), .ref (ad 15), .ref (ad 16), .ref (ad 17), .ref (ad 18), .ref (ad 19)])), (ad 13, .inl (y 0, 16, .inl (d.2 9))), (ad 14, .inl (y 0, 16, .inl (d.2 10))), (ad 15, .inl (y 0, 16, .inl (d.2 11))), (ad 16, .inl (y 0, 16, .inl (d.2 12))), (ad 17, .inl (y 0, 16, .inl (d.2 13))), (ad 18, .inl (y 0, 16, .inl (d.2 14))), (ad 19, .inl (y 0, 16, .inl (d.2 15))), (h, .inr (7, [.int sd, .int sw, .int sl, .ref (sa 0), .ref (sa 1), .ref (sa 2), .ref (sa 3), .ref (sa 4), .ref (sa 5), .ref (sa 6)])), (sa 1, .inl (y 0, 9, .inl f1)), (sa 3, .inl (y 0, 6, .inl f3)), (sa 4, .inl (y 0, 6, .inl f4)), (sa 5, .inl (y 0, 16, .inl f5))] [(0, .ref (ad 0)), (1, .ref h), (2, .int va), (3, .ref (ad 2)), (4, .int (nI i))] 0 0 108 [] := by
  intro n
  induction n with
  | zero =>
    intro i f3 hi
    obtain rfl : i = n4 := by omega
    refine j_iload (pc := 108) C d_Days_giveWorth_108 4 rfl ?_
    refine j_aload_n (pc := 110) C d_Days_giveWorth_110 rfl 0 rfl ?_
    refine j_get (pc := 111) C gf_Days_128 0 rfl rfl d_Days_giveWorth_111 ?_
    refine j_icmp_geT (pc := 114) C (tgt := 140) d_Days_giveWorth_114 (by decide) (by rw [h4]; exact Int32.le_refl _) ?_
    exact kx _
  | succ n ih =>
    intro i f3 hi
    refine j_iload (pc := 108) C d_Days_giveWorth_108 4 rfl ?_
    refine j_aload_n (pc := 110) C d_Days_giveWorth_110 rfl 0 rfl ?_
    refine j_get (pc := 111) C gf_Days_128 0 rfl rfl d_Days_giveWorth_111 ?_
    refine j_icmp_geF (pc := 114) C (tgt := 140) d_Days_giveWorth_114 (by decide) (by rw [h4]; exact nI_ge (by omega) (by omega)) ?_
    refine j_aload_n (pc := 117) C d_Days_giveWorth_117 rfl 1 rfl ?_
    refine j_get (pc := 118) C gf_Days_156 9 rfl rfl d_Days_giveWorth_118 ?_
    refine j_iload (pc := 121) C d_Days_giveWorth_121 4 rfl ?_
    refine j_dup2 (pc := 123) C d_Days_giveWorth_123 rfl rfl ?_
    refine j_iald (pc := 124) C 11 rfl (v := f3 (nI i).toNatClampNeg) (vp_in_nI (by omega) (by decide)) rfl d_Days_giveWorth_124 ?_
    refine j_aload_n (pc := 125) C d_Days_giveWorth_125 rfl 1 rfl ?_
    refine j_get (pc := 126) C gf_Days_131 9 rfl rfl d_Days_giveWorth_126 ?_
    refine j_iload (pc := 129) C d_Days_giveWorth_129 4 rfl ?_
    refine j_iald (pc := 131) C 12 rfl (v := f4 (nI i).toNatClampNeg) (vp_in_nI (by omega) (by decide)) rfl d_Days_giveWorth_131 ?_
    refine j_iadd (pc := 132) C (v := (f3 (nI i).toNatClampNeg) + (f4 (nI i).toNatClampNeg)) d_Days_giveWorth_132 rfl ?_
    refine j_iast (pc := 133) C 11 rfl (ws' := [(ad 0, .inr (2, [.int (d.1 0), .int (d.1 1), .int (d.1 2), .int (d.1 3), .ref (ad 1), .int (d.1 4), .ref (ad 11), .ref (ad 12), .ref (ad 2), .ref (ad 3), .int (d.1 5), .int (d.1 6), .int (d.1 7), .int (d.1 8)])), (ad 2, .inr (8, [.int (d.1 10), .ref (ad 13), .ref (ad 14), .ref (ad 15), .ref (ad 16), .ref (ad 17), .ref (ad 18), .ref (ad 19)])), (ad 13, .inl (y 0, 16, .inl (d.2 9))), (ad 14, .inl (y 0, 16, .inl (d.2 10))), (ad 15, .inl (y 0, 16, .inl (d.2 11))), (ad 16, .inl (y 0, 16, .inl (d.2 12))), (ad 17, .inl (y 0, 16, .inl (d.2 13))), (ad 18, .inl (y 0, 16, .inl (d.2 14))), (ad 19, .inl (y 0, 16, .inl (d.2 15))), (h, .inr (7, [.int sd, .int sw, .int sl, .ref (sa 0), .ref (sa 1), .ref (sa 2), .ref (sa 3), .ref (sa 4), .ref (sa 5), .ref (sa 6)])), (sa 1, .inl (y 0, 9, .inl f1)), (sa 3, .inl (y 0, 6, .inl (upd f3 (nI i).toNatClampNeg ((f3 (nI i).toNatClampNeg) + (f4 (nI i).toNatClampNeg))))), (sa 4, .inl (y 0, 6, .inl f4)), (sa 5, .inl (y 0, 16, .inl f5))]) (vp_in_nI (by omega) (by decide)) rfl d_Days_giveWorth_133 ?_
    refine j_iinc (pc := 134) C (v := nI (i + 1)) (lv' := [(4, .int (nI (i + 1))), (0, .ref (ad 0)), (1, .ref h), (2, .int va), (3, .ref (ad 2))]) d_Days_giveWorth_134 4 rfl (nI_1 _) (by decide) rfl ?_
    refine j_goto (pc := 137) C (tgt := 108) d_Days_giveWorth_137 (by decide) ?_
    refine j_locs (lv' := [(0, .ref (ad 0)), (1, .ref h), (2, .int va), (3, .ref (ad 2)), (4, .int (nI (i + 1)))]) [1, 2, 3, 4, 0] rfl ?_
    exact ih (i + 1) _ (by omega)
set_option maxHeartbeats 4000000 in
set_option maxRecDepth 100000 in
theorem c_giveWorth (l : Launch) (D : va_G) (y : Nat → ClassId) (ad : Nat → Nat) (d : LD) (n4 : Nat) (n10 : Nat) (h : Nat) (sa : Nat → Nat) (sd : Int32) (sw : Int32) (sl : Int32) (f1 : Nat → Int32) (f3 : Nat → Int32) (f4 : Nat → Int32) (f5 : Nat → Int32) (va : Int32) (h4 : d.1 4 = nI n4) (b4 : n4 ≤ 6) (h10 : d.1 10 = nI n10) (b10 : n10 ≤ 16) (hT : ∀ j, j < n10 → (∃ q, q < 6 ∧ d.2 9 j = nI q) ∧ ∃ q, q < 9 ∧ d.2 10 j = nI q) : CT l D y ⟨"NineBoards$Days", "giveWorth", "(LNineBoards$Lake;LNineBoards$State;I)V"⟩ prog_3_method_10_code 5 none ({ frames := 1, cells := 0, slots := 0, locals := 24 } : Room) [.ref (ad 0), .ref h, .int va] [(ad 0, .inr (2, [.int (d.1 0), .int (d.1 1), .int (d.1 2), .int (d.1 3), .ref (ad 1), .int (d.1 4), .ref (ad 11), .ref (ad 12), .ref (ad 2), .ref (ad 3), .int (d.1 5), .int (d.1 6), .int (d.1 7), .int (d.1 8)])), (ad 2, .inr (8, [.int (d.1 10), .ref (ad 13), .ref (ad 14), .ref (ad 15), .ref (ad 16), .ref (ad 17), .ref (ad 18), .ref (ad 19)])), (ad 13, .inl (y 0, 16, .inl (d.2 9))), (ad 14, .inl (y 0, 16, .inl (d.2 10))), (ad 15, .inl (y 0, 16, .inl (d.2 11))), (ad 16, .inl (y 0, 16, .inl (d.2 12))), (ad 17, .inl (y 0, 16, .inl (d.2 13))), (ad 18, .inl (y 0, 16, .inl (d.2 14))), (ad 19, .inl (y 0, 16, .inl (d.2 15))), (h, .inr (7, [.int sd, .int sw, .int sl, .ref (sa 0), .ref (sa 1), .ref (sa 2), .ref (sa 3), .ref (sa 4), .ref (sa 5), .ref (sa 6)])), (sa 1, .inl (y 0, 9, .inl f1)), (sa 3, .inl (y 0, 6, .inl f3)), (sa 4, .inl (y 0, 6, .inl f4)), (sa 5, .inl (y 0, 16, .inl f5))] (QV D [(ad 0, .inr (2, [.int (d.1 0), .int (d.1 1), .int (d.1 2), .int (d.1 3), .ref (ad 1), .int (d.1 4), .ref (ad 11), .ref (ad 12), .ref (ad 2), .ref (ad 3), .int (d.1 5), .int (d.1 6), .int (d.1 7), .int (d.1 8)])), (ad 2, .inr (8, [.int (d.1 10), .ref (ad 13), .ref (ad 14), .ref (ad 15), .ref (ad 16), .ref (ad 17), .ref (ad 18), .ref (ad 19)])), (ad 13, .inl (y 0, 16, .inl (d.2 9))), (ad 14, .inl (y 0, 16, .inl (d.2 10))), (ad 15, .inl (y 0, 16, .inl (d.2 11))), (ad 16, .inl (y 0, 16, .inl (d.2 12))), (ad 17, .inl (y 0, 16, .inl (d.2 13))), (ad 18, .inl (y 0, 16, .inl (d.2 14))), (ad 19, .inl (y 0, 16, .inl (d.2 15))), (h, .inr (7, [.int sd, .int sw, .int sl, .ref (sa 0), .ref (sa 1), .ref (sa 2), .ref (sa 3), .ref (sa 4), .ref (sa 5), .ref (sa 6)])), (sa 1, .inl (y 0, 9, .inl f1)), (sa 3, .inl (y 0, 6, .inl f3)), (sa 4, .inl (y 0, 6, .inl f4)), (sa 5, .inl (y 0, 16, .inl f5))] (fun (_ : (Nat → Int32) × (Nat → Int32) × (Nat → Int32)) => True) (fun u => [(ad 0, .inr (2, [.int (d.1 0), .int (d.1 1), .int (d.1 2), .int (d.1 3), .ref (ad 1), .int (d.1 4), .ref (ad 11), .ref (ad 12), .ref (ad 2), .ref (ad 3), .int (d.1 5), .int (d.1 6), .int (d.1 7), .int (d.1 8)])), (ad 2, .inr (8, [.int (d.1 10), .ref (ad 13), .ref (ad 14), .ref (ad 15), .ref (ad 16), .ref (ad 17), .ref (ad 18), .ref (ad 19)])), (ad 13, .inl (y 0, 16, .inl (d.2 9))), (ad 14, .inl (y 0, 16, .inl (d.2 10))), (ad 15, .inl (y 0, 16, .inl (d.2 11))), (ad 16, .inl (y 0, 16, .inl (d.2 12))), (ad 17, .inl (y 0, 16, .inl (d.2 13))), (ad 18, .inl (y 0, 16, .inl (d.2 14))), (ad 19, .inl (y 0, 16, .inl (d.2 15))), (h, .inr (7, [.int sd, .int sw, .int sl, .ref (sa 0), .ref (sa 1), .ref (sa 2), .ref (sa 3), .ref (sa 4), .ref (sa 5), .ref (sa 6)])), (sa 1, .inl (y 0, 9, .inl f1)), (sa 3, .inl (y 0, 6, .inl u.1)), (sa 4, .inl (y 0, 6, .inl u.2.1)), (sa 5, .inl (y 0, 16, .inl u.2.2))])) := by
  refine CT.of (by decide) (nb rfl) ?_
  intro p e s m args below meth c C hr
  refine j_lv (lv' := [(0, .ref (ad 0)), (1, .ref h), (2, .int va)]) rfl ?_
  refine j_iconst (pc := 0) C (v := 0) d_Days_giveWorth_0 (by decide) ?_
  refine j_istore_n (pc := 1) C (lv' := [(3, .int 0), (0, .ref (ad 0)), (1, .ref h), (2, .int va)]) d_Days_giveWorth_1 rfl (by decide) rfl ?_
  refine j_locs (lv' := [(0, .ref (ad 0)), (1, .ref h), (2, .int va), (3, .int 0)]) [1, 2, 3, 0] rfl ?_
  refine j_lv (lv' := [(0, .ref (ad 0)), (1, .ref h), (2, .int va), (3, .int (nI 0))]) rfl ?_
  refine lp_giveA C ad d n4 n10 h sa sd sw sl f1 f3 f5 va h4 b4 (fun f4 => ?_) n4 0 _ (by omega)
  refine j_aload_n (pc := 24) C d_Days_giveWorth_24 rfl 0 rfl ?_
  refine j_get (pc := 25) C gf_Days_134 0 rfl rfl d_Days_giveWorth_25 ?_
  refine j_astore_n (pc := 28) C (lv' := [(3, .ref (ad 2)), (0, .ref (ad 0)), (1, .ref h), (2, .int va)]) d_Days_giveWorth_28 rfl (by decide) rfl ?_
  refine j_iconst (pc := 29) C (v := 0) d_Days_giveWorth_29 (by decide) ?_
  refine j_istore (pc := 30) C (lv' := [(4, .int 0), (3, .ref (ad 2)), (0, .ref (ad 0)), (1, .ref h), (2, .int va)]) d_Days_giveWorth_30 (by decide) rfl ?_
  refine j_locs (lv' := [(0, .ref (ad 0)), (1, .ref h), (2, .int va), (3, .ref (ad 2)), (4, .int 0)]) [2, 3, 4, 1, 0] rfl ?_
  refine j_lv (lv' := [(0, .ref (ad 0)), (1, .ref h), (2, .int va), (3, .ref (ad 2)), (4, .int (nI 0))]) rfl ?_
  refine lp_giveB C ad d n4 n10 h sa sd sw sl f1 f3 va h10 b10 hT (fun f4 f5 => ?_) n10 0 _ _ (by omega)
  refine j_iconst (pc := 105) C (v := 0) d_Days_giveWorth_105 (by decide) ?_
  refine j_istore (pc := 106) C (lv' := [(4, .int 0), (0, .ref (ad 0)), (1, .ref h), (2, .int va), (3, .ref (ad 2))]) d_Days_giveWorth_106 (by decide) rfl ?_
  refine j_locs (lv' := [(0, .ref (ad 0)), (1, .ref h), (2, .int va), (3, .ref (ad 2)), (4, .int 0)]) [1, 2, 3, 4, 0] rfl ?_
  refine j_lv (lv' := [(0, .ref (ad 0)), (1, .ref h), (2, .int va), (3, .ref (ad 2)), (4, .int (nI 0))]) rfl ?_
  refine lp_giveC C ad d n4 n10 h sa sd sw sl f1 f4 f5 va h4 b4 (fun f3 => ?_) n4 0 _ (by omega)
  exact j_vret (pc := 140) C hr (f3, f4, f5) trivial [0, 1, 2, 3, 4, 5, 6, 7, 8, 9, 10, 11, 12, 13] rfl (by decide) (by decide) (by decide) d_Days_giveWorth_140
theorem d_Days_pass_0 : decode prog_3_method_5_code 0 = .ok (.aload_n 0, 1) := by decide +kernel
theorem d_Days_pass_1 : decode prog_3_method_5_code 1 = .ok (.aload_n 1, 1) := by decide +kernel
theorem d_Days_pass_2 : decode prog_3_method_5_code 2 = .ok (.iload_n 2, 1) := by decide +kernel
theorem d_Days_pass_3 : decode prog_3_method_5_code 3 = .ok (.invokestatic 47, 3) := by decide +kernel
theorem kw_Days_47 : KW "NineBoards$Days" 47 ⟨"NineBoards$Days", "doAct", "(LNineBoards$Lake;LNineBoards$State;I)V"⟩ prog_3_method_6_code 3 none 3 := ⟨(mt_4 (List.mem_of_getElem? (i := 70) rfl) rfl), (mt_1 (List.mem_of_getElem? (i := 18) rfl) rfl), (mt_4 (List.mem_of_getElem? (i := 72) rfl) rfl), by decide +kernel⟩
theorem ks_Days_doAct : Cond.static ⟨"NineBoards$Days", "doAct", "(LNineBoards$Lake;LNineBoards$State;I)V"⟩ ∈ TB := (mt_4 (List.mem_of_getElem? (i := 71) rfl) rfl)
theorem d_Days_pass_6 : decode prog_3_method_5_code 6 = .ok (.aload_n 0, 1) := by decide +kernel
theorem d_Days_pass_7 : decode prog_3_method_5_code 7 = .ok (.aload_n 1, 1) := by decide +kernel
theorem d_Days_pass_8 : decode prog_3_method_5_code 8 = .ok (.invokestatic 51, 3) := by decide +kernel
theorem kw_Days_51 : KW "NineBoards$Days" 51 ⟨"NineBoards$Days", "letFlow", "(LNineBoards$Lake;LNineBoards$State;)V"⟩ prog_3_method_9_code 4 none 2 := ⟨(mt_4 (List.mem_of_getElem? (i := 77) rfl) rfl), (mt_1 (List.mem_of_getElem? (i := 18) rfl) rfl), (mt_4 (List.mem_of_getElem? (i := 79) rfl) rfl), by decide +kernel⟩
theorem ks_Days_letFlow : Cond.static ⟨"NineBoards$Days", "letFlow", "(LNineBoards$Lake;LNineBoards$State;)V"⟩ ∈ TB := (mt_4 (List.mem_of_getElem? (i := 78) rfl) rfl)
theorem d_Days_pass_11 : decode prog_3_method_5_code 11 = .ok (.aload_n 0, 1) := by decide +kernel
theorem d_Days_pass_12 : decode prog_3_method_5_code 12 = .ok (.getfield 55, 3) := by decide +kernel
theorem d_Days_pass_15 : decode prog_3_method_5_code 15 = .ok (.iconst 0, 1) := by decide +kernel
theorem d_Days_pass_16 : decode prog_3_method_5_code 16 = .ok (.aload_n 1, 1) := by decide +kernel
theorem d_Days_pass_17 : decode prog_3_method_5_code 17 = .ok (.getfield 59, 3) := by decide +kernel
theorem d_Days_pass_20 : decode prog_3_method_5_code 20 = .ok (.aload_n 0, 1) := by decide +kernel
theorem d_Days_pass_21 : decode prog_3_method_5_code 21 = .ok (.aload_n 1, 1) := by decide +kernel
theorem d_Days_pass_22 : decode prog_3_method_5_code 22 = .ok (.getfield 62, 3) := by decide +kernel
theorem d_Days_pass_25 : decode prog_3_method_5_code 25 = .ok (.invokevirtual 65, 3) := by decide +kernel
theorem d_Days_pass_28 : decode prog_3_method_5_code 28 = .ok (.aload_n 1, 1) := by decide +kernel
theorem d_Days_pass_29 : decode prog_3_method_5_code 29 = .ok (.getfield 62, 3) := by decide +kernel
theorem d_Days_pass_32 : decode prog_3_method_5_code 32 = .ok (.invokevirtual 69, 3) := by decide +kernel
theorem d_Days_pass_35 : decode prog_3_method_5_code 35 = .ok (.istore_n 3, 1) := by decide +kernel
theorem d_Days_pass_36 : decode prog_3_method_5_code 36 = .ok (.aload_n 1, 1) := by decide +kernel
theorem d_Days_pass_37 : decode prog_3_method_5_code 37 = .ok (.getfield 62, 3) := by decide +kernel
theorem d_Days_pass_40 : decode prog_3_method_5_code 40 = .ok (.iload_n 3, 1) := by decide +kernel
theorem d_Days_pass_41 : decode prog_3_method_5_code 41 = .ok (.iadd, 1) := by decide +kernel
theorem d_Days_pass_42 : decode prog_3_method_5_code 42 = .ok (.istore 4, 2) := by decide +kernel
theorem d_Days_pass_44 : decode prog_3_method_5_code 44 = .ok (.iconst 0, 1) := by decide +kernel
theorem d_Days_pass_45 : decode prog_3_method_5_code 45 = .ok (.iload 4, 2) := by decide +kernel
theorem d_Days_pass_47 : decode prog_3_method_5_code 47 = .ok (.aload_n 0, 1) := by decide +kernel
theorem d_Days_pass_48 : decode prog_3_method_5_code 48 = .ok (.getfield 75, 3) := by decide +kernel
theorem gf_Days_75 : GF "NineBoards$Days" 75 2 2 := ⟨_, _, _, rfl, ci_Lake, by decide, (mt_2 (List.mem_of_getElem? (i := 37) rfl) rfl)⟩
theorem d_Days_pass_51 : decode prog_3_method_5_code 51 = .ok (.isub, 1) := by decide +kernel
theorem d_Days_pass_52 : decode prog_3_method_5_code 52 = .ok (.invokestatic 78, 3) := by decide +kernel
theorem d_Days_pass_55 : decode prog_3_method_5_code 55 = .ok (.istore 5, 2) := by decide +kernel
theorem d_Days_pass_57 : decode prog_3_method_5_code 57 = .ok (.aload_n 1, 1) := by decide +kernel
theorem d_Days_pass_58 : decode prog_3_method_5_code 58 = .ok (.iload 4, 2) := by decide +kernel
theorem d_Days_pass_60 : decode prog_3_method_5_code 60 = .ok (.iload 5, 2) := by decide +kernel
theorem d_Days_pass_62 : decode prog_3_method_5_code 62 = .ok (.isub, 1) := by decide +kernel
theorem d_Days_pass_63 : decode prog_3_method_5_code 63 = .ok (.putfield 62, 3) := by decide +kernel
theorem d_Days_pass_66 : decode prog_3_method_5_code 66 = .ok (.aload_n 1, 1) := by decide +kernel
theorem d_Days_pass_67 : decode prog_3_method_5_code 67 = .ok (.getfield 62, 3) := by decide +kernel
theorem d_Days_pass_70 : decode prog_3_method_5_code 70 = .ok (.aload_n 0, 1) := by decide +kernel
theorem d_Days_pass_71 : decode prog_3_method_5_code 71 = .ok (.getfield 55, 3) := by decide +kernel
theorem d_Days_pass_74 : decode prog_3_method_5_code 74 = .ok (.iconst 1, 1) := by decide +kernel
theorem d_Days_pass_75 : decode prog_3_method_5_code 75 = .ok (.aload_n 1, 1) := by decide +kernel
theorem d_Days_pass_76 : decode prog_3_method_5_code 76 = .ok (.getfield 59, 3) := by decide +kernel
theorem d_Days_pass_79 : decode prog_3_method_5_code 79 = .ok (.aload_n 0, 1) := by decide +kernel
theorem d_Days_pass_80 : decode prog_3_method_5_code 80 = .ok (.aload_n 1, 1) := by decide +kernel
theorem d_Days_pass_81 : decode prog_3_method_5_code 81 = .ok (.getfield 62, 3) := by decide +kernel
theorem d_Days_pass_84 : decode prog_3_method_5_code 84 = .ok (.invokevirtual 65, 3) := by decide +kernel
theorem d_Days_pass_87 : decode prog_3_method_5_code 87 = .ok (.aload_n 1, 1) := by decide +kernel
theorem d_Days_pass_88 : decode prog_3_method_5_code 88 = .ok (.getfield 62, 3) := by decide +kernel
theorem d_Days_pass_91 : decode prog_3_method_5_code 91 = .ok (.invokevirtual 69, 3) := by decide +kernel
theorem d_Days_pass_94 : decode prog_3_method_5_code 94 = .ok (.invokestatic 84, 3) := by decide +kernel
theorem d_Days_pass_97 : decode prog_3_method_5_code 97 = .ok (.istore 6, 2) := by decide +kernel
theorem d_Days_pass_99 : decode prog_3_method_5_code 99 = .ok (.aload_n 1, 1) := by decide +kernel
theorem d_Days_pass_100 : decode prog_3_method_5_code 100 = .ok (.dup, 1) := by decide +kernel
theorem d_Days_pass_101 : decode prog_3_method_5_code 101 = .ok (.getfield 62, 3) := by decide +kernel
theorem d_Days_pass_104 : decode prog_3_method_5_code 104 = .ok (.iload 6, 2) := by decide +kernel
theorem d_Days_pass_106 : decode prog_3_method_5_code 106 = .ok (.isub, 1) := by decide +kernel
theorem d_Days_pass_107 : decode prog_3_method_5_code 107 = .ok (.putfield 62, 3) := by decide +kernel
theorem d_Days_pass_110 : decode prog_3_method_5_code 110 = .ok (.aload_n 1, 1) := by decide +kernel
theorem d_Days_pass_111 : decode prog_3_method_5_code 111 = .ok (.getfield 87, 3) := by decide +kernel
theorem d_Days_pass_114 : decode prog_3_method_5_code 114 = .ok (.iconst 1, 1) := by decide +kernel
theorem d_Days_pass_115 : decode prog_3_method_5_code 115 = .ok (.dup2, 1) := by decide +kernel
theorem d_Days_pass_116 : decode prog_3_method_5_code 116 = .ok (.laload, 1) := by decide +kernel
theorem d_Days_pass_117 : decode prog_3_method_5_code 117 = .ok (.iload_n 3, 1) := by decide +kernel
theorem d_Days_pass_118 : decode prog_3_method_5_code 118 = .ok (.i2l, 1) := by decide +kernel
theorem d_Days_pass_119 : decode prog_3_method_5_code 119 = .ok (.ladd, 1) := by decide +kernel
theorem d_Days_pass_120 : decode prog_3_method_5_code 120 = .ok (.lastore, 1) := by decide +kernel
theorem d_Days_pass_121 : decode prog_3_method_5_code 121 = .ok (.aload_n 1, 1) := by decide +kernel
theorem d_Days_pass_122 : decode prog_3_method_5_code 122 = .ok (.getfield 87, 3) := by decide +kernel
theorem d_Days_pass_125 : decode prog_3_method_5_code 125 = .ok (.iconst 2, 1) := by decide +kernel
theorem d_Days_pass_126 : decode prog_3_method_5_code 126 = .ok (.dup2, 1) := by decide +kernel
theorem d_Days_pass_127 : decode prog_3_method_5_code 127 = .ok (.laload, 1) := by decide +kernel
theorem d_Days_pass_128 : decode prog_3_method_5_code 128 = .ok (.iload 5, 2) := by decide +kernel
theorem d_Days_pass_130 : decode prog_3_method_5_code 130 = .ok (.i2l, 1) := by decide +kernel
theorem d_Days_pass_131 : decode prog_3_method_5_code 131 = .ok (.ladd, 1) := by decide +kernel
theorem d_Days_pass_132 : decode prog_3_method_5_code 132 = .ok (.lastore, 1) := by decide +kernel
theorem d_Days_pass_133 : decode prog_3_method_5_code 133 = .ok (.aload_n 1, 1) := by decide +kernel
theorem d_Days_pass_134 : decode prog_3_method_5_code 134 = .ok (.getfield 87, 3) := by decide +kernel
theorem d_Days_pass_137 : decode prog_3_method_5_code 137 = .ok (.iconst 4, 1) := by decide +kernel
theorem d_Days_pass_138 : decode prog_3_method_5_code 138 = .ok (.dup2, 1) := by decide +kernel
theorem d_Days_pass_139 : decode prog_3_method_5_code 139 = .ok (.laload, 1) := by decide +kernel
theorem d_Days_pass_140 : decode prog_3_method_5_code 140 = .ok (.iload 6, 2) := by decide +kernel
theorem d_Days_pass_142 : decode prog_3_method_5_code 142 = .ok (.i2l, 1) := by decide +kernel
theorem d_Days_pass_143 : decode prog_3_method_5_code 143 = .ok (.ladd, 1) := by decide +kernel
theorem d_Days_pass_144 : decode prog_3_method_5_code 144 = .ok (.lastore, 1) := by decide +kernel
theorem d_Days_pass_145 : decode prog_3_method_5_code 145 = .ok (.aload_n 0, 1) := by decide +kernel
theorem d_Days_pass_146 : decode prog_3_method_5_code 146 = .ok (.aload_n 1, 1) := by decide +kernel
theorem d_Days_pass_147 : decode prog_3_method_5_code 147 = .ok (.getfield 62, 3) := by decide +kernel
theorem d_Days_pass_150 : decode prog_3_method_5_code 150 = .ok (.invokevirtual 65, 3) := by decide +kernel
theorem d_Days_pass_153 : decode prog_3_method_5_code 153 = .ok (.aload_n 0, 1) := by decide +kernel
theorem d_Days_pass_154 : decode prog_3_method_5_code 154 = .ok (.getfield 91, 3) := by decide +kernel
theorem gf_Days_91 : GF "NineBoards$Days" 91 2 10 := ⟨_, _, _, rfl, ci_Lake, by decide, (mt_2 (List.mem_of_getElem? (i := 67) rfl) rfl)⟩
theorem d_Days_pass_157 : decode prog_3_method_5_code 157 = .ok (.if_icmp .ge 10, 3) := by decide +kernel
theorem d_Days_pass_167 : decode prog_3_method_5_code 167 = .ok (.iconst 0, 1) := by decide +kernel
theorem d_Days_pass_168 : decode prog_3_method_5_code 168 = .ok (.istore 7, 2) := by decide +kernel
theorem d_Days_pass_170 : decode prog_3_method_5_code 170 = .ok (.iload 7, 2) := by decide +kernel
theorem d_Days_pass_172 : decode prog_3_method_5_code 172 = .ok (.aload_n 0, 1) := by decide +kernel
theorem d_Days_pass_173 : decode prog_3_method_5_code 173 = .ok (.iload 4, 2) := by decide +kernel
theorem d_Days_pass_175 : decode prog_3_method_5_code 175 = .ok (.invokevirtual 65, 3) := by decide +kernel
theorem d_Days_pass_178 : decode prog_3_method_5_code 178 = .ok (.aload_n 0, 1) := by decide +kernel
theorem d_Days_pass_179 : decode prog_3_method_5_code 179 = .ok (.getfield 97, 3) := by decide +kernel
theorem gf_Days_97 : GF "NineBoards$Days" 97 2 12 := ⟨_, _, _, rfl, ci_Lake, by decide, (mt_2 (List.mem_of_getElem? (i := 73) rfl) rfl)⟩
theorem d_Days_pass_182 : decode prog_3_method_5_code 182 = .ok (.if_icmp .le 10, 3) := by decide +kernel
theorem d_Days_pass_192 : decode prog_3_method_5_code 192 = .ok (.iconst 0, 1) := by decide +kernel
theorem d_Days_pass_193 : decode prog_3_method_5_code 193 = .ok (.iadd, 1) := by decide +kernel
theorem d_Days_pass_194 : decode prog_3_method_5_code 194 = .ok (.istore 7, 2) := by decide +kernel
theorem d_Days_pass_196 : decode prog_3_method_5_code 196 = .ok (.aload_n 0, 1) := by decide +kernel
theorem d_Days_pass_197 : decode prog_3_method_5_code 197 = .ok (.aload_n 1, 1) := by decide +kernel
theorem d_Days_pass_198 : decode prog_3_method_5_code 198 = .ok (.iload 7, 2) := by decide +kernel
theorem d_Days_pass_200 : decode prog_3_method_5_code 200 = .ok (.invokestatic 103, 3) := by decide +kernel
theorem kw_Days_103 : KW "NineBoards$Days" 103 ⟨"NineBoards$Days", "giveWorth", "(LNineBoards$Lake;LNineBoards$State;I)V"⟩ prog_3_method_10_code 5 none 3 := ⟨(mt_4 (List.mem_of_getElem? (i := 103) rfl) rfl), (mt_1 (List.mem_of_getElem? (i := 18) rfl) rfl), (mt_4 (List.mem_of_getElem? (i := 105) rfl) rfl), by decide +kernel⟩
theorem ks_Days_giveWorth : Cond.static ⟨"NineBoards$Days", "giveWorth", "(LNineBoards$Lake;LNineBoards$State;I)V"⟩ ∈ TB := (mt_4 (List.mem_of_getElem? (i := 104) rfl) rfl)
theorem d_Days_pass_203 : decode prog_3_method_5_code 203 = .ok (.aload_n 1, 1) := by decide +kernel
theorem d_Days_pass_204 : decode prog_3_method_5_code 204 = .ok (.dup, 1) := by decide +kernel
theorem d_Days_pass_205 : decode prog_3_method_5_code 205 = .ok (.getfield 59, 3) := by decide +kernel
theorem d_Days_pass_208 : decode prog_3_method_5_code 208 = .ok (.iconst 1, 1) := by decide +kernel
theorem d_Days_pass_209 : decode prog_3_method_5_code 209 = .ok (.iadd, 1) := by decide +kernel
theorem d_Days_pass_210 : decode prog_3_method_5_code 210 = .ok (.putfield 59, 3) := by decide +kernel
theorem pf_Days_59 : PF "NineBoards$Days" 59 7 0 (.int) false := ⟨_, _, _, ct_State, rfl, ci_State, by decide, (mt_1 (List.mem_of_getElem? (i := 54) rfl) rfl), cp_State, cn_State, rfl, by decide +kernel, (fun h => by cases h)⟩
theorem d_Days_pass_213 : decode prog_3_method_5_code 213 = .ok (.return_, 1) := by decide +kernel
theorem d_Days_pass_185 : decode prog_3_method_5_code 185 = .ok (.aload_n 0, 1) := by decide +kernel
theorem d_Days_pass_186 : decode prog_3_method_5_code 186 = .ok (.getfield 100, 3) := by decide +kernel
theorem gf_Days_100 : GF "NineBoards$Days" 100 2 13 := ⟨_, _, _, rfl, ci_Lake, by decide, (mt_2 (List.mem_of_getElem? (i := 76) rfl) rfl)⟩
theorem d_Days_pass_189 : decode prog_3_method_5_code 189 = .ok (.goto 4, 3) := by decide +kernel
theorem d_Days_pass_160 : decode prog_3_method_5_code 160 = .ok (.aload_n 0, 1) := by decide +kernel
theorem d_Days_pass_161 : decode prog_3_method_5_code 161 = .ok (.getfield 94, 3) := by decide +kernel
theorem gf_Days_94 : GF "NineBoards$Days" 94 2 11 := ⟨_, _, _, rfl, ci_Lake, by decide, (mt_2 (List.mem_of_getElem? (i := 70) rfl) rfl)⟩
theorem d_Days_pass_164 : decode prog_3_method_5_code 164 = .ok (.goto 4, 3) := by decide +kernel
set_option maxHeartbeats 4000000 in
set_option maxRecDepth 100000 in
theorem c_pass (l : Launch) (D : va_G) (y : Nat → ClassId) (ad : Nat → Nat) (d : LD) (n4 : Nat) (n9 : Nat) (n10 : Nat) (n11 : Nat) (h : Nat) (sa : Nat → Nat) (sd : Int32) (sw : Int32) (sl : Int32) (f0 : Nat → Int32) (f1 : Nat → Int32) (f2 : Nat → Int64) (f3 : Nat → Int32) (f4 : Nat → Int32) (f5 : Nat → Int32) (f6 : Nat → Int64) (g : Nat → Int32) (va : Int32) (h4 : d.1 4 = nI n4) (b4 : n4 ≤ 6) (h9 : d.1 9 = nI n9) (b9 : n9 ≤ 9) (h10 : d.1 10 = nI n10) (b10 : n10 ≤ 16) (h11 : d.1 11 = nI n11) (b11 : n11 ≤ 8) (hJ : ∀ j, j < 9 → d.2 6 j = -1 ∨ ∃ q, q < 9 ∧ d.2 6 j = nI q) (hV : ∀ j, j < n4 → ∃ q, q < 9 ∧ d.2 8 j = nI q) (hT : ∀ j, j < n10 → (∃ q, q < 6 ∧ d.2 9 j = nI q) ∧ ∃ q, q < 9 ∧ d.2 10 j = nI q) : CT l D y ⟨"NineBoards$Days", "pass", "(LNineBoards$Lake;LNineBoards$State;I)V"⟩ prog_3_method_5_code 8 none ({ frames := 4, cells := 0, slots := 0, locals := 98 } : Room) [.ref (ad 0), .ref h, .int va] [(ad 0, .inr (2, [.int (d.1 0), .int (d.1 1), .int (d.1 2), .int (d.1 3), .ref (ad 1), .int (d.1 4), .ref (ad 11), .ref (ad 12), .ref (ad 2), .ref (ad 3), .int (d.1 5), .int (d.1 6), .int (d.1 7), .int (d.1 8)])), (ad 1, .inr (1, [.int (d.1 9), .ref (ad 4), .ref (ad 5), .ref (ad 6), .ref (ad 7), .ref (ad 8), .ref (ad 9), .ref (ad 10)])), (ad 2, .inr (8, [.int (d.1 10), .ref (ad 13), .ref (ad 14), .ref (ad 15), .ref (ad 16), .ref (ad 17), .ref (ad 18), .ref (ad 19)])), (ad 3, .inr (6, [.int (d.1 11), .int (d.1 12), .ref (ad 20), .ref (ad 21), .ref (ad 22), .ref (ad 23), .ref (ad 24), .ref (ad 25)])), (ad 4, .inl (y 0, 9, .inl (d.2 0))), (ad 5, .inl (y 0, 9, .inl (d.2 1))), (ad 6, .inl (y 0, 9, .inl (d.2 2))), (ad 7, .inl (y 0, 9, .inl (d.2 3))), (ad 8, .inl (y 0, 9, .inl (d.2 4))), (ad 9, .inl (y 0, 9, .inl (d.2 5))), (ad 10, .inl (y 0, 9, .inl (d.2 6))), (ad 11, .inl (y 0, 6, .inl (d.2 7))), (ad 12, .inl (y 0, 6, .inl (d.2 8))), (ad 13, .inl (y 0, 16, .inl (d.2 9))), (ad 14, .inl (y 0, 16, .inl (d.2 10))), (ad 15, .inl (y 0, 16, .inl (d.2 11))), (ad 16, .inl (y 0, 16, .inl (d.2 12))), (ad 17, .inl (y 0, 16, .inl (d.2 13))), (ad 18, .inl (y 0, 16, .inl (d.2 14))), (ad 19, .inl (y 0, 16, .inl (d.2 15))), (ad 20, .inl (y 0, 8, .inl (d.2 16))), (ad 21, .inl (y 0, 8, .inl (d.2 17))), (ad 22, .inl (y 0, 8, .inl (d.2 18))), (ad 23, .inl (y 0, 8, .inl (d.2 19))), (ad 24, .inl (y 0, 1600, .inl (d.2 20))), (ad 25, .inl (y 0, 40, .inl g)), (h, .inr (7, [.int sd, .int sw, .int sl, .ref (sa 0), .ref (sa 1), .ref (sa 2), .ref (sa 3), .ref (sa 4), .ref (sa 5), .ref (sa 6)])), (sa 0, .inl (y 0, 9, .inl f0)), (sa 1, .inl (y 0, 9, .inl f1)), (sa 2, .inl (y 1, 9, .inr (.inl f2))), (sa 3, .inl (y 0, 6, .inl f3)), (sa 4, .inl (y 0, 6, .inl f4)), (sa 5, .inl (y 0, 16, .inl f5)), (sa 6, .inl (y 1, 5, .inr (.inl f6)))] (QV D [(ad 0, .inr (2, [.int (d.1 0), .int (d.1 1), .int (d.1 2), .int (d.1 3), .ref (ad 1), .int (d.1 4), .ref (ad 11), .ref (ad 12), .ref (ad 2), .ref (ad 3), .int (d.1 5), .int (d.1 6), .int (d.1 7), .int (d.1 8)])), (ad 1, .inr (1, [.int (d.1 9), .ref (ad 4), .ref (ad 5), .ref (ad 6), .ref (ad 7), .ref (ad 8), .ref (ad 9), .ref (ad 10)])), (ad 2, .inr (8, [.int (d.1 10), .ref (ad 13), .ref (ad 14), .ref (ad 15), .ref (ad 16), .ref (ad 17), .ref (ad 18), .ref (ad 19)])), (ad 3, .inr (6, [.int (d.1 11), .int (d.1 12), .ref (ad 20), .ref (ad 21), .ref (ad 22), .ref (ad 23), .ref (ad 24), .ref (ad 25)])), (ad 4, .inl (y 0, 9, .inl (d.2 0))), (ad 5, .inl (y 0, 9, .inl (d.2 1))), (ad 6, .inl (y 0, 9, .inl (d.2 2))), (ad 7, .inl (y 0, 9, .inl (d.2 3))), (ad 8, .inl (y 0, 9, .inl (d.2 4))), (ad 9, .inl (y 0, 9, .inl (d.2 5))), (ad 10, .inl (y 0, 9, .inl (d.2 6))), (ad 11, .inl (y 0, 6, .inl (d.2 7))), (ad 12, .inl (y 0, 6, .inl (d.2 8))), (ad 13, .inl (y 0, 16, .inl (d.2 9))), (ad 14, .inl (y 0, 16, .inl (d.2 10))), (ad 15, .inl (y 0, 16, .inl (d.2 11))), (ad 16, .inl (y 0, 16, .inl (d.2 12))), (ad 17, .inl (y 0, 16, .inl (d.2 13))), (ad 18, .inl (y 0, 16, .inl (d.2 14))), (ad 19, .inl (y 0, 16, .inl (d.2 15))), (ad 20, .inl (y 0, 8, .inl (d.2 16))), (ad 21, .inl (y 0, 8, .inl (d.2 17))), (ad 22, .inl (y 0, 8, .inl (d.2 18))), (ad 23, .inl (y 0, 8, .inl (d.2 19))), (ad 24, .inl (y 0, 1600, .inl (d.2 20))), (ad 25, .inl (y 0, 40, .inl g)), (h, .inr (7, [.int sd, .int sw, .int sl, .ref (sa 0), .ref (sa 1), .ref (sa 2), .ref (sa 3), .ref (sa 4), .ref (sa 5), .ref (sa 6)])), (sa 0, .inl (y 0, 9, .inl f0)), (sa 1, .inl (y 0, 9, .inl f1)), (sa 2, .inl (y 1, 9, .inr (.inl f2))), (sa 3, .inl (y 0, 6, .inl f3)), (sa 4, .inl (y 0, 6, .inl f4)), (sa 5, .inl (y 0, 16, .inl f5)), (sa 6, .inl (y 1, 5, .inr (.inl f6)))] (fun (_ : SD × (Nat → Int32)) => True) (fun u => [(ad 0, .inr (2, [.int (d.1 0), .int (d.1 1), .int (d.1 2), .int (d.1 3), .ref (ad 1), .int (d.1 4), .ref (ad 11), .ref (ad 12), .ref (ad 2), .ref (ad 3), .int (d.1 5), .int (d.1 6), .int (d.1 7), .int (d.1 8)])), (ad 1, .inr (1, [.int (d.1 9), .ref (ad 4), .ref (ad 5), .ref (ad 6), .ref (ad 7), .ref (ad 8), .ref (ad 9), .ref (ad 10)])), (ad 2, .inr (8, [.int (d.1 10), .ref (ad 13), .ref (ad 14), .ref (ad 15), .ref (ad 16), .ref (ad 17), .ref (ad 18), .ref (ad 19)])), (ad 3, .inr (6, [.int (d.1 11), .int (d.1 12), .ref (ad 20), .ref (ad 21), .ref (ad 22), .ref (ad 23), .ref (ad 24), .ref (ad 25)])), (ad 4, .inl (y 0, 9, .inl (d.2 0))), (ad 5, .inl (y 0, 9, .inl (d.2 1))), (ad 6, .inl (y 0, 9, .inl (d.2 2))), (ad 7, .inl (y 0, 9, .inl (d.2 3))), (ad 8, .inl (y 0, 9, .inl (d.2 4))), (ad 9, .inl (y 0, 9, .inl (d.2 5))), (ad 10, .inl (y 0, 9, .inl (d.2 6))), (ad 11, .inl (y 0, 6, .inl (d.2 7))), (ad 12, .inl (y 0, 6, .inl (d.2 8))), (ad 13, .inl (y 0, 16, .inl (d.2 9))), (ad 14, .inl (y 0, 16, .inl (d.2 10))), (ad 15, .inl (y 0, 16, .inl (d.2 11))), (ad 16, .inl (y 0, 16, .inl (d.2 12))), (ad 17, .inl (y 0, 16, .inl (d.2 13))), (ad 18, .inl (y 0, 16, .inl (d.2 14))), (ad 19, .inl (y 0, 16, .inl (d.2 15))), (ad 20, .inl (y 0, 8, .inl (d.2 16))), (ad 21, .inl (y 0, 8, .inl (d.2 17))), (ad 22, .inl (y 0, 8, .inl (d.2 18))), (ad 23, .inl (y 0, 8, .inl (d.2 19))), (ad 24, .inl (y 0, 1600, .inl (d.2 20))), (ad 25, .inl (y 0, 40, .inl u.2)), (h, .inr (7, [.int (u.1.1 0), .int (u.1.1 1), .int (u.1.1 2), .ref (sa 0), .ref (sa 1), .ref (sa 2), .ref (sa 3), .ref (sa 4), .ref (sa 5), .ref (sa 6)])), (sa 0, .inl (y 0, 9, .inl (u.1.2.1 0))), (sa 1, .inl (y 0, 9, .inl (u.1.2.1 1))), (sa 2, .inl (y 1, 9, .inr (.inl (u.1.2.2 0)))), (sa 3, .inl (y 0, 6, .inl (u.1.2.1 2))), (sa 4, .inl (y 0, 6, .inl (u.1.2.1 3))), (sa 5, .inl (y 0, 16, .inl (u.1.2.1 4))), (sa 6, .inl (y 1, 5, .inr (.inl (u.1.2.2 1))))])) := by
  refine CT.of (by decide) (nb rfl) ?_
  intro p e s m args below meth c C hr
  refine j_lv (lv' := [(0, .ref (ad 0)), (1, .ref h), (2, .int va)]) rfl ?_
  refine j_aload_n (pc := 0) C d_Days_pass_0 rfl 0 rfl ?_
  refine j_aload_n (pc := 1) C d_Days_pass_1 rfl 1 rfl ?_
  refine j_iload_n (pc := 2) C d_Days_pass_2 rfl 2 rfl ?_
  refine j_callSv (pc := 3) C (c_doAct l D y ad d n4 h sa sd sw sl f0 va h4 b4 hJ hV) kw_Days_47 ks_Days_doAct ⟨by decide, by decide⟩ ⟨by decide, by decide⟩ (wr := [(ad 2, .inr (8, [.int (d.1 10), .ref (ad 13), .ref (ad 14), .ref (ad 15), .ref (ad 16), .ref (ad 17), .ref (ad 18), .ref (ad 19)])), (ad 3, .inr (6, [.int (d.1 11), .int (d.1 12), .ref (ad 20), .ref (ad 21), .ref (ad 22), .ref (ad 23), .ref (ad 24), .ref (ad 25)])), (ad 4, .inl (y 0, 9, .inl (d.2 0))), (ad 5, .inl (y 0, 9, .inl (d.2 1))), (ad 6, .inl (y 0, 9, .inl (d.2 2))), (ad 7, .inl (y 0, 9, .inl (d.2 3))), (ad 8, .inl (y 0, 9, .inl (d.2 4))), (ad 9, .inl (y 0, 9, .inl (d.2 5))), (ad 11, .inl (y 0, 6, .inl (d.2 7))), (ad 13, .inl (y 0, 16, .inl (d.2 9))), (ad 14, .inl (y 0, 16, .inl (d.2 10))), (ad 15, .inl (y 0, 16, .inl (d.2 11))), (ad 16, .inl (y 0, 16, .inl (d.2 12))), (ad 17, .inl (y 0, 16, .inl (d.2 13))), (ad 18, .inl (y 0, 16, .inl (d.2 14))), (ad 19, .inl (y 0, 16, .inl (d.2 15))), (ad 20, .inl (y 0, 8, .inl (d.2 16))), (ad 21, .inl (y 0, 8, .inl (d.2 17))), (ad 22, .inl (y 0, 8, .inl (d.2 18))), (ad 23, .inl (y 0, 8, .inl (d.2 19))), (ad 24, .inl (y 0, 1600, .inl (d.2 20))), (ad 25, .inl (y 0, 40, .inl g)), (sa 1, .inl (y 0, 9, .inl f1)), (sa 2, .inl (y 1, 9, .inr (.inl f2))), (sa 3, .inl (y 0, 6, .inl f3)), (sa 4, .inl (y 0, 6, .inl f4)), (sa 5, .inl (y 0, 16, .inl f5)), (sa 6, .inl (y 1, 5, .inr (.inl f6)))]) [0, 1, 10, 12, 26, 27] [2, 3, 4, 5, 6, 7, 8, 9, 11, 13, 14, 15, 16, 17, 18, 19, 20, 21, 22, 23, 24, 25, 28, 29, 30, 31, 32, 33] rfl rfl (by decide) (by decide) (by decide) (As := [.ref (ad 0), .ref h, .int va]) (rest := []) rfl (nb rfl) rfl d_Days_pass_3 (fun u1 _ => ?_)
  refine j_ws (ws' := [(ad 2, .inr (8, [.int (d.1 10), .ref (ad 13), .ref (ad 14), .ref (ad 15), .ref (ad 16), .ref (ad 17), .ref (ad 18), .ref (ad 19)])), (ad 3, .inr (6, [.int (d.1 11), .int (d.1 12), .ref (ad 20), .ref (ad 21), .ref (ad 22), .ref (ad 23), .ref (ad 24), .ref (ad 25)])), (ad 4, .inl (y 0, 9, .inl (d.2 0))), (ad 5, .inl (y 0, 9, .inl (d.2 1))), (ad 6, .inl (y 0, 9, .inl (d.2 2))), (ad 7, .inl (y 0, 9, .inl (d.2 3))), (ad 8, .inl (y 0, 9, .inl (d.2 4))), (ad 9, .inl (y 0, 9, .inl (d.2 5))), (ad 11, .inl (y 0, 6, .inl (d.2 7))), (ad 13, .inl (y 0, 16, .inl (d.2 9))), (ad 14, .inl (y 0, 16, .inl (d.2 10))), (ad 15, .inl (y 0, 16, .inl (d.2 11))), (ad 16, .inl (y 0, 16, .inl (d.2 12))), (ad 17, .inl (y 0, 16, .inl (d.2 13))), (ad 18, .inl (y 0, 16, .inl (d.2 14))), (ad 19, .inl (y 0, 16, .inl (d.2 15))), (ad 20, .inl (y 0, 8, .inl (d.2 16))), (ad 21, .inl (y 0, 8, .inl (d.2 17))), (ad 22, .inl (y 0, 8, .inl (d.2 18))), (ad 23, .inl (y 0, 8, .inl (d.2 19))), (ad 24, .inl (y 0, 1600, .inl (d.2 20))), (ad 25, .inl (y 0, 40, .inl g)), (sa 1, .inl (y 0, 9, .inl f1)), (sa 2, .inl (y 1, 9, .inr (.inl f2))), (sa 3, .inl (y 0, 6, .inl f3)), (sa 4, .inl (y 0, 6, .inl f4)), (sa 5, .inl (y 0, 16, .inl f5)), (sa 6, .inl (y 1, 5, .inr (.inl f6))), (ad 0, .inr (2, [.int (d.1 0), .int (d.1 1), .int (d.1 2), .int (d.1 3), .ref (ad 1), .int (d.1 4), .ref (ad 11), .ref (ad 12), .ref (ad 2), .ref (ad 3), .int (d.1 5), .int (d.1 6), .int (d.1 7), .int (d.1 8)])), (ad 1, .inr (1, [.int (d.1 9), .ref (ad 4), .ref (ad 5), .ref (ad 6), .ref (ad 7), .ref (ad 8), .ref (ad 9), .ref (ad 10)])), (ad 10, .inl (y 0, 9, .inl (d.2 6))), (ad 12, .inl (y 0, 6, .inl (d.2 8))), (h, .inr (7, [.int sd, .int sw, .int u1.1, .ref (sa 0), .ref (sa 1), .ref (sa 2), .ref (sa 3), .ref (sa 4), .ref (sa 5), .ref (sa 6)])), (sa 0, .inl (y 0, 9, .inl u1.2))]) rfl ?_
  refine j_aload_n (pc := 6) C d_Days_pass_6 rfl 0 rfl ?_
  refine j_aload_n (pc := 7) C d_Days_pass_7 rfl 1 rfl ?_
  refine j_callSv (pc := 8) C (c_letFlow l D y ad d n9 h sa sd sw u1.1 u1.2 f1 f2 f6 h9 b9) kw_Days_51 ks_Days_letFlow ⟨by decide, by decide⟩ ⟨by decide, by decide⟩ (wr := [(ad 2, .inr (8, [.int (d.1 10), .ref (ad 13), .ref (ad 14), .ref (ad 15), .ref (ad 16), .ref (ad 17), .ref (ad 18), .ref (ad 19)])), (ad 3, .inr (6, [.int (d.1 11), .int (d.1 12), .ref (ad 20), .ref (ad 21), .ref (ad 22), .ref (ad 23), .ref (ad 24), .ref (ad 25)])), (ad 4, .inl (y 0, 9, .inl (d.2 0))), (ad 8, .inl (y 0, 9, .inl (d.2 4))), (ad 11, .inl (y 0, 6, .inl (d.2 7))), (ad 13, .inl (y 0, 16, .inl (d.2 9))), (ad 14, .inl (y 0, 16, .inl (d.2 10))), (ad 15, .inl (y 0, 16, .inl (d.2 11))), (ad 16, .inl (y 0, 16, .inl (d.2 12))), (ad 17, .inl (y 0, 16, .inl (d.2 13))), (ad 18, .inl (y 0, 16, .inl (d.2 14))), (ad 19, .inl (y 0, 16, .inl (d.2 15))), (ad 20, .inl (y 0, 8, .inl (d.2 16))), (ad 21, .inl (y 0, 8, .inl (d.2 17))), (ad 22, .inl (y 0, 8, .inl (d.2 18))), (ad 23, .inl (y 0, 8, .inl (d.2 19))), (ad 24, .inl (y 0, 1600, .inl (d.2 20))), (ad 25, .inl (y 0, 40, .inl g)), (sa 3, .inl (y 0, 6, .inl f3)), (sa 4, .inl (y 0, 6, .inl f4)), (sa 5, .inl (y 0, 16, .inl f5)), (ad 10, .inl (y 0, 9, .inl (d.2 6))), (ad 12, .inl (y 0, 6, .inl (d.2 8)))]) [28, 29, 3, 4, 5, 7, 32, 33, 22, 23, 27] [0, 1, 2, 6, 8, 9, 10, 11, 12, 13, 14, 15, 16, 17, 18, 19, 20, 21, 24, 25, 26, 30, 31] rfl rfl (by decide) (by decide) (by decide) (As := [.ref (ad 0), .ref h]) (rest := []) rfl (nb rfl) rfl d_Days_pass_8 (fun u2 _ => ?_)
  refine j_ws (ws' := [(ad 2, .inr (8, [.int (d.1 10), .ref (ad 13), .ref (ad 14), .ref (ad 15), .ref (ad 16), .ref (ad 17), .ref (ad 18), .ref (ad 19)])), (ad 3, .inr (6, [.int (d.1 11), .int (d.1 12), .ref (ad 20), .ref (ad 21), .ref (ad 22), .ref (ad 23), .ref (ad 24), .ref (ad 25)])), (ad 4, .inl (y 0, 9, .inl (d.2 0))), (ad 8, .inl (y 0, 9, .inl (d.2 4))), (ad 11, .inl (y 0, 6, .inl (d.2 7))), (ad 13, .inl (y 0, 16, .inl (d.2 9))), (ad 14, .inl (y 0, 16, .inl (d.2 10))), (ad 15, .inl (y 0, 16, .inl (d.2 11))), (ad 16, .inl (y 0, 16, .inl (d.2 12))), (ad 17, .inl (y 0, 16, .inl (d.2 13))), (ad 18, .inl (y 0, 16, .inl (d.2 14))), (ad 19, .inl (y 0, 16, .inl (d.2 15))), (ad 20, .inl (y 0, 8, .inl (d.2 16))), (ad 21, .inl (y 0, 8, .inl (d.2 17))), (ad 22, .inl (y 0, 8, .inl (d.2 18))), (ad 23, .inl (y 0, 8, .inl (d.2 19))), (ad 24, .inl (y 0, 1600, .inl (d.2 20))), (ad 25, .inl (y 0, 40, .inl g)), (sa 3, .inl (y 0, 6, .inl f3)), (sa 4, .inl (y 0, 6, .inl f4)), (sa 5, .inl (y 0, 16, .inl f5)), (ad 10, .inl (y 0, 9, .inl (d.2 6))), (ad 12, .inl (y 0, 6, .inl (d.2 8))), (ad 0, .inr (2, [.int (d.1 0), .int (d.1 1), .int (d.1 2), .int (d.1 3), .ref (ad 1), .int (d.1 4), .ref (ad 11), .ref (ad 12), .ref (ad 2), .ref (ad 3), .int (d.1 5), .int (d.1 6), .int (d.1 7), .int (d.1 8)])), (ad 1, .inr (1, [.int (d.1 9), .ref (ad 4), .ref (ad 5), .ref (ad 6), .ref (ad 7), .ref (ad 8), .ref (ad 9), .ref (ad 10)])), (ad 5, .inl (y 0, 9, .inl (d.2 1))), (ad 6, .inl (y 0, 9, .inl (d.2 2))), (ad 7, .inl (y 0, 9, .inl (d.2 3))), (ad 9, .inl (y 0, 9, .inl (d.2 5))), (h, .inr (7, [.int sd, .int u2.1, .int u1.1, .ref (sa 0), .ref (sa 1), .ref (sa 2), .ref (sa 3), .ref (sa 4), .ref (sa 5), .ref (sa 6)])), (sa 0, .inl (y 0, 9, .inl u1.2)), (sa 1, .inl (y 0, 9, .inl u2.2.1)), (sa 2, .inl (y 1, 9, .inr (.inl u2.2.2.1))), (sa 6, .inl (y 1, 5, .inr (.inl u2.2.2.2)))]) rfl ?_
  refine j_aload_n (pc := 11) C d_Days_pass_11 rfl 0 rfl ?_
  refine j_get (pc := 12) C gf_Days_55 23 rfl rfl d_Days_pass_12 ?_
  refine j_iconst (pc := 15) C (v := 0) d_Days_pass_15 (by decide) ?_
  refine j_aload_n (pc := 16) C d_Days_pass_16 rfl 1 rfl ?_
  refine j_get (pc := 17) C gf_Days_59 29 rfl rfl d_Days_pass_17 ?_
  refine j_aload_n (pc := 20) C d_Days_pass_20 rfl 0 rfl ?_
  refine j_aload_n (pc := 21) C d_Days_pass_21 rfl 1 rfl ?_
  refine j_get (pc := 22) C gf_Days_62 29 rfl rfl d_Days_pass_22 ?_
  refine j_callVi (pc := 25) C (c_levelAt l D y ad d u2.1) kw_Days_65 kv_Lake_levelAt 0 2 rfl rfl ⟨by decide, by decide⟩ ⟨by decide, by decide⟩ (wr := [(ad 2, .inr (8, [.int (d.1 10), .ref (ad 13), .ref (ad 14), .ref (ad 15), .ref (ad 16), .ref (ad 17), .ref (ad 18), .ref (ad 19)])), (ad 3, .inr (6, [.int (d.1 11), .int (d.1 12), .ref (ad 20), .ref (ad 21), .ref (ad 22), .ref (ad 23), .ref (ad 24), .ref (ad 25)])), (ad 4, .inl (y 0, 9, .inl (d.2 0))), (ad 8, .inl (y 0, 9, .inl (d.2 4))), (ad 11, .inl (y 0, 6, .inl (d.2 7))), (ad 13, .inl (y 0, 16, .inl (d.2 9))), (ad 14, .inl (y 0, 16, .inl (d.2 10))), (ad 15, .inl (y 0, 16, .inl (d.2 11))), (ad 16, .inl (y 0, 16, .inl (d.2 12))), (ad 17, .inl (y 0, 16, .inl (d.2 13))), (ad 18, .inl (y 0, 16, .inl (d.2 14))), (ad 19, .inl (y 0, 16, .inl (d.2 15))), (ad 20, .inl (y 0, 8, .inl (d.2 16))), (ad 21, .inl (y 0, 8, .inl (d.2 17))), (ad 22, .inl (y 0, 8, .inl (d.2 18))), (ad 23, .inl (y 0, 8, .inl (d.2 19))), (ad 24, .inl (y 0, 1600, .inl (d.2 20))), (ad 25, .inl (y 0, 40, .inl g)), (sa 3, .inl (y 0, 6, .inl f3)), (sa 4, .inl (y 0, 6, .inl f4)), (sa 5, .inl (y 0, 16, .inl f5)), (ad 10, .inl (y 0, 9, .inl (d.2 6))), (ad 12, .inl (y 0, 6, .inl (d.2 8))), (ad 1, .inr (1, [.int (d.1 9), .ref (ad 4), .ref (ad 5), .ref (ad 6), .ref (ad 7), .ref (ad 8), .ref (ad 9), .ref (ad 10)])), (ad 5, .inl (y 0, 9, .inl (d.2 1))), (ad 6, .inl (y 0, 9, .inl (d.2 2))), (ad 7, .inl (y 0, 9, .inl (d.2 3))), (ad 9, .inl (y 0, 9, .inl (d.2 5))), (h, .inr (7, [.int sd, .int u2.1, .int u1.1, .ref (sa 0), .ref (sa 1), .ref (sa 2), .ref (sa 3), .ref (sa 4), .ref (sa 5), .ref (sa 6)])), (sa 0, .inl (y 0, 9, .inl u1.2)), (sa 1, .inl (y 0, 9, .inl u2.2.1)), (sa 2, .inl (y 1, 9, .inr (.inl u2.2.2.1))), (sa 6, .inl (y 1, 5, .inr (.inl u2.2.2.2)))]) [23] [0, 1, 2, 3, 4, 5, 6, 7, 8, 9, 10, 11, 12, 13, 14, 15, 16, 17, 18, 19, 20, 21, 22, 24, 25, 26, 27, 28, 29, 30, 31, 32, 33] rfl rfl (by decide) (by decide) (by decide) (As := [.int u2.1]) (rest := [.int sd, .int 0, .ref (ad 3)]) rfl (nb rfl) rfl d_Days_pass_25 (fun r3 _ hr3 => ?_)
  refine j_ws (ws' := [(ad 2, .inr (8, [.int (d.1 10), .ref (ad 13), .ref (ad 14), .ref (ad 15), .ref (ad 16), .ref (ad 17), .ref (ad 18), .ref (ad 19)])), (ad 3, .inr (6, [.int (d.1 11), .int (d.1 12), .ref (ad 20), .ref (ad 21), .ref (ad 22), .ref (ad 23), .ref (ad 24), .ref (ad 25)])), (ad 4, .inl (y 0, 9, .inl (d.2 0))), (ad 8, .inl (y 0, 9, .inl (d.2 4))), (ad 11, .inl (y 0, 6, .inl (d.2 7))), (ad 13, .inl (y 0, 16, .inl (d.2 9))), (ad 14, .inl (y 0, 16, .inl (d.2 10))), (ad 15, .inl (y 0, 16, .inl (d.2 11))), (ad 16, .inl (y 0, 16, .inl (d.2 12))), (ad 17, .inl (y 0, 16, .inl (d.2 13))), (ad 18, .inl (y 0, 16, .inl (d.2 14))), (ad 19, .inl (y 0, 16, .inl (d.2 15))), (ad 20, .inl (y 0, 8, .inl (d.2 16))), (ad 21, .inl (y 0, 8, .inl (d.2 17))), (ad 22, .inl (y 0, 8, .inl (d.2 18))), (ad 23, .inl (y 0, 8, .inl (d.2 19))), (ad 24, .inl (y 0, 1600, .inl (d.2 20))), (ad 25, .inl (y 0, 40, .inl g)), (sa 3, .inl (y 0, 6, .inl f3)), (sa 4, .inl (y 0, 6, .inl f4)), (sa 5, .inl (y 0, 16, .inl f5)), (ad 10, .inl (y 0, 9, .inl (d.2 6))), (ad 12, .inl (y 0, 6, .inl (d.2 8))), (ad 1, .inr (1, [.int (d.1 9), .ref (ad 4), .ref (ad 5), .ref (ad 6), .ref (ad 7), .ref (ad 8), .ref (ad 9), .ref (ad 10)])), (ad 5, .inl (y 0, 9, .inl (d.2 1))), (ad 6, .inl (y 0, 9, .inl (d.2 2))), (ad 7, .inl (y 0, 9, .inl (d.2 3))), (ad 9, .inl (y 0, 9, .inl (d.2 5))), (h, .inr (7, [.int sd, .int u2.1, .int u1.1, .ref (sa 0), .ref (sa 1), .ref (sa 2), .ref (sa 3), .ref (sa 4), .ref (sa 5), .ref (sa 6)])), (sa 0, .inl (y 0, 9, .inl u1.2)), (sa 1, .inl (y 0, 9, .inl u2.2.1)), (sa 2, .inl (y 1, 9, .inr (.inl u2.2.2.1))), (sa 6, .inl (y 1, 5, .inr (.inl u2.2.2.2))), (ad 0, .inr (2, [.int (d.1 0), .int (d.1 1), .int (d.1 2), .int (d.1 3), .ref (ad 1), .int (d.1 4), .ref (ad 11), .ref (ad 12), .ref (ad 2), .ref (ad 3), .int (d.1 5), .int (d.1 6), .int (d.1 7), .int (d.1 8)]))]) rfl ?_
  refine j_aload_n (pc := 28) C d_Days_pass_28 rfl 1 rfl ?_
  refine j_get (pc := 29) C gf_Days_62 28 rfl rfl d_Days_pass_29 ?_
  refine j_callVi (pc := 32) C (c_amount l D y ad d n11 0 sd r3 u2.1 g h11 b11) kw_Days_69 kv_Rules_amount 0 6 rfl rfl ⟨by decide, by decide⟩ ⟨by decide, by decide⟩ (wr := [(ad 2, .inr (8, [.int (d.1 10), .ref (ad 13), .ref (ad 14), .ref (ad 15), .ref (ad 16), .ref (ad 17), .ref (ad 18), .ref (ad 19)])), (ad 4, .inl (y 0, 9, .inl (d.2 0))), (ad 8, .inl (y 0, 9, .inl (d.2 4))), (ad 11, .inl (y 0, 6, .inl (d.2 7))), (ad 13, .inl (y 0, 16, .inl (d.2 9))), (ad 14, .inl (y 0, 16, .inl (d.2 10))), (ad 15, .inl (y 0, 16, .inl (d.2 11))), (ad 16, .inl (y 0, 16, .inl (d.2 12))), (ad 17, .inl (y 0, 16, .inl (d.2 13))), (ad 18, .inl (y 0, 16, .inl (d.2 14))), (ad 19, .inl (y 0, 16, .inl (d.2 15))), (sa 3, .inl (y 0, 6, .inl f3)), (sa 4, .inl (y 0, 6, .inl f4)), (sa 5, .inl (y 0, 16, .inl f5)), (ad 10, .inl (y 0, 9, .inl (d.2 6))), (ad 12, .inl (y 0, 6, .inl (d.2 8))), (ad 1, .inr (1, [.int (d.1 9), .ref (ad 4), .ref (ad 5), .ref (ad 6), .ref (ad 7), .ref (ad 8), .ref (ad 9), .ref (ad 10)])), (ad 5, .inl (y 0, 9, .inl (d.2 1))), (ad 6, .inl (y 0, 9, .inl (d.2 2))), (ad 7, .inl (y 0, 9, .inl (d.2 3))), (ad 9, .inl (y 0, 9, .inl (d.2 5))), (h, .inr (7, [.int sd, .int u2.1, .int u1.1, .ref (sa 0), .ref (sa 1), .ref (sa 2), .ref (sa 3), .ref (sa 4), .ref (sa 5), .ref (sa 6)])), (sa 0, .inl (y 0, 9, .inl u1.2)), (sa 1, .inl (y 0, 9, .inl u2.2.1)), (sa 2, .inl (y 1, 9, .inr (.inl u2.2.2.1))), (sa 6, .inl (y 1, 5, .inr (.inl u2.2.2.2))), (ad 0, .inr (2, [.int (d.1 0), .int (d.1 1), .int (d.1 2), .int (d.1 3), .ref (ad 1), .int (d.1 4), .ref (ad 11), .ref (ad 12), .ref (ad 2), .ref (ad 3), .int (d.1 5), .int (d.1 6), .int (d.1 7), .int (d.1 8)]))]) [1, 12, 13, 14, 15, 16, 17] [0, 2, 3, 4, 5, 6, 7, 8, 9, 10, 11, 18, 19, 20, 21, 22, 23, 24, 25, 26, 27, 28, 29, 30, 31, 32, 33] rfl rfl (by decide) (by decide) (by decide) (As := [.int 0, .int sd, .int r3, .int u2.1]) (rest := []) rfl (nb rfl) rfl d_Days_pass_32 (fun r4 u5 hr4 => ?_)
  refine j_ws (ws' := [(ad 2, .inr (8, [.int (d.1 10), .ref (ad 13), .ref (ad 14), .ref (ad 15), .ref (ad 16), .ref (ad 17), .ref (ad 18), .ref (ad 19)])), (ad 4, .inl (y 0, 9, .inl (d.2 0))), (ad 8, .inl (y 0, 9, .inl (d.2 4))), (ad 11, .inl (y 0, 6, .inl (d.2 7))), (ad 13, .inl (y 0, 16, .inl (d.2 9))), (ad 14, .inl (y 0, 16, .inl (d.2 10))), (ad 15, .inl (y 0, 16, .inl (d.2 11))), (ad 16, .inl (y 0, 16, .inl (d.2 12))), (ad 17, .inl (y 0, 16, .inl (d.2 13))), (ad 18, .inl (y 0, 16, .inl (d.2 14))), (ad 19, .inl (y 0, 16, .inl (d.2 15))), (sa 3, .inl (y 0, 6, .inl f3)), (sa 4, .inl (y 0, 6, .inl f4)), (sa 5, .inl (y 0, 16, .inl f5)), (ad 10, .inl (y 0, 9, .inl (d.2 6))), (ad 12, .inl (y 0, 6, .inl (d.2 8))), (ad 1, .inr (1, [.int (d.1 9), .ref (ad 4), .ref (ad 5), .ref (ad 6), .ref (ad 7), .ref (ad 8), .ref (ad 9), .ref (ad 10)])), (ad 5, .inl (y 0, 9, .inl (d.2 1))), (ad 6, .inl (y 0, 9, .inl (d.2 2))), (ad 7, .inl (y 0, 9, .inl (d.2 3))), (ad 9, .inl (y 0, 9, .inl (d.2 5))), (h, .inr (7, [.int sd, .int u2.1, .int u1.1, .ref (sa 0), .ref (sa 1), .ref (sa 2), .ref (sa 3), .ref (sa 4), .ref (sa 5), .ref (sa 6)])), (sa 0, .inl (y 0, 9, .inl u1.2)), (sa 1, .inl (y 0, 9, .inl u2.2.1)), (sa 2, .inl (y 1, 9, .inr (.inl u2.2.2.1))), (sa 6, .inl (y 1, 5, .inr (.inl u2.2.2.2))), (ad 0, .inr (2, [.int (d.1 0), .int (d.1 1), .int (d.1 2), .int (d.1 3), .ref (ad 1), .int (d.1 4), .ref (ad 11), .ref (ad 12), .ref (ad 2), .ref (ad 3), .int (d.1 5), .int (d.1 6), .int (d.1 7), .int (d.1 8)])), (ad 3, .inr (6, [.int (d.1 11), .int (d.1 12), .ref (ad 20), .ref (ad 21), .ref (ad 22), .ref (ad 23), .ref (ad 24), .ref (ad 25)])), (ad 20, .inl (y 0, 8, .inl (d.2 16))), (ad 21, .inl (y 0, 8, .inl (d.2 17))), (ad 22, .inl (y 0, 8, .inl (d.2 18))), (ad 23, .inl (y 0, 8, .inl (d.2 19))), (ad 24, .inl (y 0, 1600, .inl (d.2 20))), (ad 25, .inl (y 0, 40, .inl u5))]) rfl ?_
  refine j_istore_n (pc := 35) C (lv' := [(3, .int r4), (0, .ref (ad 0)), (1, .ref h), (2, .int va)]) d_Days_pass_35 rfl (by decide) rfl ?_
  refine j_aload_n (pc := 36) C d_Days_pass_36 rfl 2 rfl ?_
  refine j_get (pc := 37) C gf_Days_62 21 rfl rfl d_Days_pass_37 ?_
  refine j_iload_n (pc := 40) C d_Days_pass_40 rfl 0 rfl ?_
  refine j_iadd (pc := 41) C (v := u2.1 + r4) d_Days_pass_41 rfl ?_
  refine j_istore (pc := 42) C (lv' := [(4, .int (u2.1 + r4)), (3, .int r4), (0, .ref (ad 0)), (1, .ref h), (2, .int va)]) d_Days_pass_42 (by decide) rfl ?_
  refine j_iconst (pc := 44) C (v := 0) d_Days_pass_44 (by decide) ?_
  refine j_iload (pc := 45) C d_Days_pass_45 0 rfl ?_
  refine j_aload_n (pc := 47) C d_Days_pass_47 rfl 2 rfl ?_
  refine j_get (pc := 48) C gf_Days_75 26 rfl rfl d_Days_pass_48 ?_
  refine j_isub (pc := 51) C (v := (u2.1 + r4) - (d.1 2)) d_Days_pass_51 rfl ?_
  refine j_mmax (pc := 52) C (mt_4 (List.mem_of_getElem? (i := 102) rfl) rfl) (mt_1 (List.mem_of_getElem? (i := 34) rfl) rfl) (mt_1 (List.mem_of_getElem? (i := 3) rfl) rfl) (mt_1 (List.mem_of_getElem? (i := 35) rfl) rfl) (v := if 0 < (u2.1 + r4) - (d.1 2) then (u2.1 + r4) - (d.1 2) else 0) rfl (by decide) (nb rfl) (by decide) (by decide) d_Days_pass_52 ?_
  refine j_istore (pc := 55) C (lv' := [(5, .int (if 0 < (u2.1 + r4) - (d.1 2) then (u2.1 + r4) - (d.1 2) else 0)), (4, .int (u2.1 + r4)), (3, .int r4), (0, .ref (ad 0)), (1, .ref h), (2, .int va)]) d_Days_pass_55 (by decide) rfl ?_
  refine j_aload_n (pc := 57) C d_Days_pass_57 rfl 4 rfl ?_
  refine j_iload (pc := 58) C d_Days_pass_58 1 rfl ?_
  refine j_iload (pc := 60) C d_Days_pass_60 0 rfl ?_
  refine j_isub (pc := 62) C (v := (u2.1 + r4) - (if 0 < (u2.1 + r4) - (d.1 2) then (u2.1 + r4) - (d.1 2) else 0)) d_Days_pass_62 rfl ?_
  refine j_put (pc := 63) C pf_Days_62 21 (ws' := [(ad 2, .inr (8, [.int (d.1 10), .ref (ad 13), .ref (ad 14), .ref (ad 15), .ref (ad 16), .ref (ad 17), .ref (ad 18), .ref (ad 19)])), (ad 4, .inl (y 0, 9, .inl (d.2 0))), (ad 8, .inl (y 0, 9, .inl (d.2 4))), (ad 11, .inl (y 0, 6, .inl (d.2 7))), (ad 13, .inl (y 0, 16, .inl (d.2 9))), (ad 14, .inl (y 0, 16, .inl (d.2 10))), (ad 15, .inl (y 0, 16, .inl (d.2 11))), (ad 16, .inl (y 0, 16, .inl (d.2 12))), (ad 17, .inl (y 0, 16, .inl (d.2 13))), (ad 18, .inl (y 0, 16, .inl (d.2 14))), (ad 19, .inl (y 0, 16, .inl (d.2 15))), (sa 3, .inl (y 0, 6, .inl f3)), (sa 4, .inl (y 0, 6, .inl f4)), (sa 5, .inl (y 0, 16, .inl f5)), (ad 10, .inl (y 0, 9, .inl (d.2 6))), (ad 12, .inl (y 0, 6, .inl (d.2 8))), (ad 1, .inr (1, [.int (d.1 9), .ref (ad 4), .ref (ad 5), .ref (ad 6), .ref (ad 7), .ref (ad 8), .ref (ad 9), .ref (ad 10)])), (ad 5, .inl (y 0, 9, .inl (d.2 1))), (ad 6, .inl (y 0, 9, .inl (d.2 2))), (ad 7, .inl (y 0, 9, .inl (d.2 3))), (ad 9, .inl (y 0, 9, .inl (d.2 5))), (h, .inr (7, [.int sd, .int ((u2.1 + r4) - (if 0 < (u2.1 + r4) - (d.1 2) then (u2.1 + r4) - (d.1 2) else 0)), .int u1.1, .ref (sa 0), .ref (sa 1), .ref (sa 2), .ref (sa 3), .ref (sa 4), .ref (sa 5), .ref (sa 6)])), (sa 0, .inl (y 0, 9, .inl u1.2)), (sa 1, .inl (y 0, 9, .inl u2.2.1)), (sa 2, .inl (y 1, 9, .inr (.inl u2.2.2.1))), (sa 6, .inl (y 1, 5, .inr (.inl u2.2.2.2))), (ad 0, .inr (2, [.int (d.1 0), .int (d.1 1), .int (d.1 2), .int (d.1 3), .ref (ad 1), .int (d.1 4), .ref (ad 11), .ref (ad 12), .ref (ad 2), .ref (ad 3), .int (d.1 5), .int (d.1 6), .int (d.1 7), .int (d.1 8)])), (ad 3, .inr (6, [.int (d.1 11), .int (d.1 12), .ref (ad 20), .ref (ad 21), .ref (ad 22), .ref (ad 23), .ref (ad 24), .ref (ad 25)])), (ad 20, .inl (y 0, 8, .inl (d.2 16))), (ad 21, .inl (y 0, 8, .inl (d.2 17))), (ad 22, .inl (y 0, 8, .inl (d.2 18))), (ad 23, .inl (y 0, 8, .inl (d.2 19))), (ad 24, .inl (y 0, 1600, .inl (d.2 20))), (ad 25, .inl (y 0, 40, .inl u5))]) rfl rfl rfl (nl rfl) rfl d_Days_pass_63 ?_
  refine j_aload_n (pc := 66) C d_Days_pass_66 rfl 4 rfl ?_
  refine j_get (pc := 67) C gf_Days_62 21 rfl rfl d_Days_pass_67 ?_
  refine j_aload_n (pc := 70) C d_Days_pass_70 rfl 3 rfl ?_
  refine j_get (pc := 71) C gf_Days_55 26 rfl rfl d_Days_pass_71 ?_
  refine j_iconst (pc := 74) C (v := 1) d_Days_pass_74 (by decide) ?_
  refine j_aload_n (pc := 75) C d_Days_pass_75 rfl 4 rfl ?_
  refine j_get (pc := 76) C gf_Days_59 21 rfl rfl d_Days_pass_76 ?_
  refine j_aload_n (pc := 79) C d_Days_pass_79 rfl 3 rfl ?_
  refine j_aload_n (pc := 80) C d_Days_pass_80 rfl 4 rfl ?_
  refine j_get (pc := 81) C gf_Days_62 21 rfl rfl d_Days_pass_81 ?_
  refine j_callVi (pc := 84) C (c_levelAt l D y ad d ((u2.1 + r4) - (if 0 < (u2.1 + r4) - (d.1 2) then (u2.1 + r4) - (d.1 2) else 0))) kw_Days_65 kv_Lake_levelAt 0 2 rfl rfl ⟨by decide, by decide⟩ ⟨by decide, by decide⟩ (wr := [(ad 2, .inr (8, [.int (d.1 10), .ref (ad 13), .ref (ad 14), .ref (ad 15), .ref (ad 16), .ref (ad 17), .ref (ad 18), .ref (ad 19)])), (ad 4, .inl (y 0, 9, .inl (d.2 0))), (ad 8, .inl (y 0, 9, .inl (d.2 4))), (ad 11, .inl (y 0, 6, .inl (d.2 7))), (ad 13, .inl (y 0, 16, .inl (d.2 9))), (ad 14, .inl (y 0, 16, .inl (d.2 10))), (ad 15, .inl (y 0, 16, .inl (d.2 11))), (ad 16, .inl (y 0, 16, .inl (d.2 12))), (ad 17, .inl (y 0, 16, .inl (d.2 13))), (ad 18, .inl (y 0, 16, .inl (d.2 14))), (ad 19, .inl (y 0, 16, .inl (d.2 15))), (sa 3, .inl (y 0, 6, .inl f3)), (sa 4, .inl (y 0, 6, .inl f4)), (sa 5, .inl (y 0, 16, .inl f5)), (ad 10, .inl (y 0, 9, .inl (d.2 6))), (ad 12, .inl (y 0, 6, .inl (d.2 8))), (ad 1, .inr (1, [.int (d.1 9), .ref (ad 4), .ref (ad 5), .ref (ad 6), .ref (ad 7), .ref (ad 8), .ref (ad 9), .ref (ad 10)])), (ad 5, .inl (y 0, 9, .inl (d.2 1))), (ad 6, .inl (y 0, 9, .inl (d.2 2))), (ad 7, .inl (y 0, 9, .inl (d.2 3))), (ad 9, .inl (y 0, 9, .inl (d.2 5))), (h, .inr (7, [.int sd, .int ((u2.1 + r4) - (if 0 < (u2.1 + r4) - (d.1 2) then (u2.1 + r4) - (d.1 2) else 0)), .int u1.1, .ref (sa 0), .ref (sa 1), .ref (sa 2), .ref (sa 3), .ref (sa 4), .ref (sa 5), .ref (sa 6)])), (sa 0, .inl (y 0, 9, .inl u1.2)), (sa 1, .inl (y 0, 9, .inl u2.2.1)), (sa 2, .inl (y 1, 9, .inr (.inl u2.2.2.1))), (sa 6, .inl (y 1, 5, .inr (.inl u2.2.2.2))), (ad 3, .inr (6, [.int (d.1 11), .int (d.1 12), .ref (ad 20), .ref (ad 21), .ref (ad 22), .ref (ad 23), .ref (ad 24), .ref (ad 25)])), (ad 20, .inl (y 0, 8, .inl (d.2 16))), (ad 21, .inl (y 0, 8, .inl (d.2 17))), (ad 22, .inl (y 0, 8, .inl (d.2 18))), (ad 23, .inl (y 0, 8, .inl (d.2 19))), (ad 24, .inl (y 0, 1600, .inl (d.2 20))), (ad 25, .inl (y 0, 40, .inl u5))]) [26] [0, 1, 2, 3, 4, 5, 6, 7, 8, 9, 10, 11, 12, 13, 14, 15, 16, 17, 18, 19, 20, 21, 22, 23, 24, 25, 27, 28, 29, 30, 31, 32, 33] rfl rfl (by decide) (by decide) (by decide) (As := [.int ((u2.1 + r4) - (if 0 < (u2.1 + r4) - (d.1 2) then (u2.1 + r4) - (d.1 2) else 0))]) (rest := [.int sd, .int 1, .ref (ad 3), .int ((u2.1 + r4) - (if 0 < (u2.1 + r4) - (d.1 2) then (u2.1 + r4) - (d.1 2) else 0))]) rfl (nb rfl) rfl d_Days_pass_84 (fun r6 _ hr6 => ?_)
  refine j_ws (ws' := [(ad 2, .inr (8, [.int (d.1 10), .ref (ad 13), .ref (ad 14), .ref (ad 15), .ref (ad 16), .ref (ad 17), .ref (ad 18), .ref (ad 19)])), (ad 4, .inl (y 0, 9, .inl (d.2 0))), (ad 8, .inl (y 0, 9, .inl (d.2 4))), (ad 11, .inl (y 0, 6, .inl (d.2 7))), (ad 13, .inl (y 0, 16, .inl (d.2 9))), (ad 14, .inl (y 0, 16, .inl (d.2 10))), (ad 15, .inl (y 0, 16, .inl (d.2 11))), (ad 16, .inl (y 0, 16, .inl (d.2 12))), (ad 17, .inl (y 0, 16, .inl (d.2 13))), (ad 18, .inl (y 0, 16, .inl (d.2 14))), (ad 19, .inl (y 0, 16, .inl (d.2 15))), (sa 3, .inl (y 0, 6, .inl f3)), (sa 4, .inl (y 0, 6, .inl f4)), (sa 5, .inl (y 0, 16, .inl f5)), (ad 10, .inl (y 0, 9, .inl (d.2 6))), (ad 12, .inl (y 0, 6, .inl (d.2 8))), (ad 1, .inr (1, [.int (d.1 9), .ref (ad 4), .ref (ad 5), .ref (ad 6), .ref (ad 7), .ref (ad 8), .ref (ad 9), .ref (ad 10)])), (ad 5, .inl (y 0, 9, .inl (d.2 1))), (ad 6, .inl (y 0, 9, .inl (d.2 2))), (ad 7, .inl (y 0, 9, .inl (d.2 3))), (ad 9, .inl (y 0, 9, .inl (d.2 5))), (h, .inr (7, [.int sd, .int ((u2.1 + r4) - (if 0 < (u2.1 + r4) - (d.1 2) then (u2.1 + r4) - (d.1 2) else 0)), .int u1.1, .ref (sa 0), .ref (sa 1), .ref (sa 2), .ref (sa 3), .ref (sa 4), .ref (sa 5), .ref (sa 6)])), (sa 0, .inl (y 0, 9, .inl u1.2)), (sa 1, .inl (y 0, 9, .inl u2.2.1)), (sa 2, .inl (y 1, 9, .inr (.inl u2.2.2.1))), (sa 6, .inl (y 1, 5, .inr (.inl u2.2.2.2))), (ad 3, .inr (6, [.int (d.1 11), .int (d.1 12), .ref (ad 20), .ref (ad 21), .ref (ad 22), .ref (ad 23), .ref (ad 24), .ref (ad 25)])), (ad 20, .inl (y 0, 8, .inl (d.2 16))), (ad 21, .inl (y 0, 8, .inl (d.2 17))), (ad 22, .inl (y 0, 8, .inl (d.2 18))), (ad 23, .inl (y 0, 8, .inl (d.2 19))), (ad 24, .inl (y 0, 1600, .inl (d.2 20))), (ad 25, .inl (y 0, 40, .inl u5)), (ad 0, .inr (2, [.int (d.1 0), .int (d.1 1), .int (d.1 2), .int (d.1 3), .ref (ad 1), .int (d.1 4), .ref (ad 11), .ref (ad 12), .ref (ad 2), .ref (ad 3), .int (d.1 5), .int (d.1 6), .int (d.1 7), .int (d.1 8)]))]) rfl ?_
  refine j_aload_n (pc := 87) C d_Days_pass_87 rfl 4 rfl ?_
  refine j_get (pc := 88) C gf_Days_62 21 rfl rfl d_Days_pass_88 ?_
  refine j_callVi (pc := 91) C (c_amount l D y ad d n11 1 sd r6 ((u2.1 + r4) - (if 0 < (u2.1 + r4) - (d.1 2) then (u2.1 + r4) - (d.1 2) else 0)) u5 h11 b11) kw_Days_69 kv_Rules_amount 0 6 rfl rfl ⟨by decide, by decide⟩ ⟨by decide, by decide⟩ (wr := [(ad 2, .inr (8, [.int (d.1 10), .ref (ad 13), .ref (ad 14), .ref (ad 15), .ref (ad 16), .ref (ad 17), .ref (ad 18), .ref (ad 19)])), (ad 4, .inl (y 0, 9, .inl (d.2 0))), (ad 8, .inl (y 0, 9, .inl (d.2 4))), (ad 11, .inl (y 0, 6, .inl (d.2 7))), (ad 13, .inl (y 0, 16, .inl (d.2 9))), (ad 14, .inl (y 0, 16, .inl (d.2 10))), (ad 15, .inl (y 0, 16, .inl (d.2 11))), (ad 16, .inl (y 0, 16, .inl (d.2 12))), (ad 17, .inl (y 0, 16, .inl (d.2 13))), (ad 18, .inl (y 0, 16, .inl (d.2 14))), (ad 19, .inl (y 0, 16, .inl (d.2 15))), (sa 3, .inl (y 0, 6, .inl f3)), (sa 4, .inl (y 0, 6, .inl f4)), (sa 5, .inl (y 0, 16, .inl f5)), (ad 10, .inl (y 0, 9, .inl (d.2 6))), (ad 12, .inl (y 0, 6, .inl (d.2 8))), (ad 1, .inr (1, [.int (d.1 9), .ref (ad 4), .ref (ad 5), .ref (ad 6), .ref (ad 7), .ref (ad 8), .ref (ad 9), .ref (ad 10)])), (ad 5, .inl (y 0, 9, .inl (d.2 1))), (ad 6, .inl (y 0, 9, .inl (d.2 2))), (ad 7, .inl (y 0, 9, .inl (d.2 3))), (ad 9, .inl (y 0, 9, .inl (d.2 5))), (h, .inr (7, [.int sd, .int ((u2.1 + r4) - (if 0 < (u2.1 + r4) - (d.1 2) then (u2.1 + r4) - (d.1 2) else 0)), .int u1.1, .ref (sa 0), .ref (sa 1), .ref (sa 2), .ref (sa 3), .ref (sa 4), .ref (sa 5), .ref (sa 6)])), (sa 0, .inl (y 0, 9, .inl u1.2)), (sa 1, .inl (y 0, 9, .inl u2.2.1)), (sa 2, .inl (y 1, 9, .inr (.inl u2.2.2.1))), (sa 6, .inl (y 1, 5, .inr (.inl u2.2.2.2))), (ad 0, .inr (2, [.int (d.1 0), .int (d.1 1), .int (d.1 2), .int (d.1 3), .ref (ad 1), .int (d.1 4), .ref (ad 11), .ref (ad 12), .ref (ad 2), .ref (ad 3), .int (d.1 5), .int (d.1 6), .int (d.1 7), .int (d.1 8)]))]) [26, 27, 28, 29, 30, 31, 32] [0, 1, 2, 3, 4, 5, 6, 7, 8, 9, 10, 11, 12, 13, 14, 15, 16, 17, 18, 19, 20, 21, 22, 23, 24, 25, 33] rfl rfl (by decide) (by decide) (by decide) (As := [.int 1, .int sd, .int r6, .int ((u2.1 + r4) - (if 0 < (u2.1 + r4) - (d.1 2) then (u2.1 + r4) - (d.1 2) else 0))]) (rest := [.int ((u2.1 + r4) - (if 0 < (u2.1 + r4) - (d.1 2) then (u2.1 + r4) - (d.1 2) else 0))]) rfl (nb rfl) rfl d_Days_pass_91 (fun r7 u8 hr7 => ?_)
  refine j_ws (ws' := [(ad 2, .inr (8, [.int (d.1 10), .ref (ad 13), .ref (ad 14), .ref (ad 15), .ref (ad 16), .ref (ad 17), .ref (ad 18), .ref (ad 19)])), (ad 4, .inl (y 0, 9, .inl (d.2 0))), (ad 8, .inl (y 0, 9, .inl (d.2 4))), (ad 11, .inl (y 0, 6, .inl (d.2 7))), (ad 13, .inl (y 0, 16, .inl (d.2 9))), (ad 14, .inl (y 0, 16, .inl (d.2 10))), (ad 15, .inl (y 0, 16, .inl (d.2 11))), (ad 16, .inl (y 0, 16, .inl (d.2 12))), (ad 17, .inl (y 0, 16, .inl (d.2 13))), (ad 18, .inl (y 0, 16, .inl (d.2 14))), (ad 19, .inl (y 0, 16, .inl (d.2 15))), (sa 3, .inl (y 0, 6, .inl f3)), (sa 4, .inl (y 0, 6, .inl f4)), (sa 5, .inl (y 0, 16, .inl f5)), (ad 10, .inl (y 0, 9, .inl (d.2 6))), (ad 12, .inl (y 0, 6, .inl (d.2 8))), (ad 1, .inr (1, [.int (d.1 9), .ref (ad 4), .ref (ad 5), .ref (ad 6), .ref (ad 7), .ref (ad 8), .ref (ad 9), .ref (ad 10)])), (ad 5, .inl (y 0, 9, .inl (d.2 1))), (ad 6, .inl (y 0, 9, .inl (d.2 2))), (ad 7, .inl (y 0, 9, .inl (d.2 3))), (ad 9, .inl (y 0, 9, .inl (d.2 5))), (h, .inr (7, [.int sd, .int ((u2.1 + r4) - (if 0 < (u2.1 + r4) - (d.1 2) then (u2.1 + r4) - (d.1 2) else 0)), .int u1.1, .ref (sa 0), .ref (sa 1), .ref (sa 2), .ref (sa 3), .ref (sa 4), .ref (sa 5), .ref (sa 6)])), (sa 0, .inl (y 0, 9, .inl u1.2)), (sa 1, .inl (y 0, 9, .inl u2.2.1)), (sa 2, .inl (y 1, 9, .inr (.inl u2.2.2.1))), (sa 6, .inl (y 1, 5, .inr (.inl u2.2.2.2))), (ad 0, .inr (2, [.int (d.1 0), .int (d.1 1), .int (d.1 2), .int (d.1 3), .ref (ad 1), .int (d.1 4), .ref (ad 11), .ref (ad 12), .ref (ad 2), .ref (ad 3), .int (d.1 5), .int (d.1 6), .int (d.1 7), .int (d.1 8)])), (ad 3, .inr (6, [.int (d.1 11), .int (d.1 12), .ref (ad 20), .ref (ad 21), .ref (ad 22), .ref (ad 23), .ref (ad 24), .ref (ad 25)])), (ad 20, .inl (y 0, 8, .inl (d.2 16))), (ad 21, .inl (y 0, 8, .inl (d.2 17))), (ad 22, .inl (y 0, 8, .inl (d.2 18))), (ad 23, .inl (y 0, 8, .inl (d.2 19))), (ad 24, .inl (y 0, 1600, .inl (d.2 20))), (ad 25, .inl (y 0, 40, .inl u8))]) rfl ?_
  refine j_mmin (pc := 94) C (mt_4 (List.mem_of_getElem? (i := 12) rfl) rfl) (mt_3 (List.mem_of_getElem? (i := 56) rfl) rfl) (mt_1 (List.mem_of_getElem? (i := 3) rfl) rfl) (mt_3 (List.mem_of_getElem? (i := 57) rfl) rfl) (v := if r7 < (u2.1 + r4) - (if 0 < (u2.1 + r4) - (d.1 2) then (u2.1 + r4) - (d.1 2) else 0) then r7 else (u2.1 + r4) - (if 0 < (u2.1 + r4) - (d.1 2) then (u2.1 + r4) - (d.1 2) else 0)) rfl (by decide) (nb rfl) (by decide) (by decide) d_Days_pass_94 ?_
  refine j_istore (pc := 97) C (lv' := [(6, .int (if r7 < (u2.1 + r4) - (if 0 < (u2.1 + r4) - (d.1 2) then (u2.1 + r4) - (d.1 2) else 0) then r7 else (u2.1 + r4) - (if 0 < (u2.1 + r4) - (d.1 2) then (u2.1 + r4) - (d.1 2) else 0))), (5, .int (if 0 < (u2.1 + r4) - (d.1 2) then (u2.1 + r4) - (d.1 2) else 0)), (4, .int (u2.1 + r4)), (3, .int r4), (0, .ref (ad 0)), (1, .ref h), (2, .int va)]) d_Days_pass_97 (by decide) rfl ?_
  refine j_aload_n (pc := 99) C d_Days_pass_99 rfl 5 rfl ?_
  refine j_dup (pc := 100) C d_Days_pass_100 rfl ?_
  refine j_get (pc := 101) C gf_Days_62 21 rfl rfl d_Days_pass_101 ?_
  refine j_iload (pc := 104) C d_Days_pass_104 0 rfl ?_
  refine j_isub (pc := 106) C (v := ((u2.1 + r4) - (if 0 < (u2.1 + r4) - (d.1 2) then (u2.1 + r4) - (d.1 2) else 0)) - (if r7 < (u2.1 + r4) - (if 0 < (u2.1 + r4) - (d.1 2) then (u2.1 + r4) - (d.1 2) else 0) then r7 else (u2.1 + r4) - (if 0 < (u2.1 + r4) - (d.1 2) then (u2.1 + r4) - (d.1 2) else 0))) d_Days_pass_106 rfl ?_
  refine j_put (pc := 107) C pf_Days_62 21 (ws' := [(ad 2, .inr (8, [.int (d.1 10), .ref (ad 13), .ref (ad 14), .ref (ad 15), .ref (ad 16), .ref (ad 17), .ref (ad 18), .ref (ad 19)])), (ad 4, .inl (y 0, 9, .inl (d.2 0))), (ad 8, .inl (y 0, 9, .inl (d.2 4))), (ad 11, .inl (y 0, 6, .inl (d.2 7))), (ad 13, .inl (y 0, 16, .inl (d.2 9))), (ad 14, .inl (y 0, 16, .inl (d.2 10))), (ad 15, .inl (y 0, 16, .inl (d.2 11))), (ad 16, .inl (y 0, 16, .inl (d.2 12))), (ad 17, .inl (y 0, 16, .inl (d.2 13))), (ad 18, .inl (y 0, 16, .inl (d.2 14))), (ad 19, .inl (y 0, 16, .inl (d.2 15))), (sa 3, .inl (y 0, 6, .inl f3)), (sa 4, .inl (y 0, 6, .inl f4)), (sa 5, .inl (y 0, 16, .inl f5)), (ad 10, .inl (y 0, 9, .inl (d.2 6))), (ad 12, .inl (y 0, 6, .inl (d.2 8))), (ad 1, .inr (1, [.int (d.1 9), .ref (ad 4), .ref (ad 5), .ref (ad 6), .ref (ad 7), .ref (ad 8), .ref (ad 9), .ref (ad 10)])), (ad 5, .inl (y 0, 9, .inl (d.2 1))), (ad 6, .inl (y 0, 9, .inl (d.2 2))), (ad 7, .inl (y 0, 9, .inl (d.2 3))), (ad 9, .inl (y 0, 9, .inl (d.2 5))), (h, .inr (7, [.int sd, .int (((u2.1 + r4) - (if 0 < (u2.1 + r4) - (d.1 2) then (u2.1 + r4) - (d.1 2) else 0)) - (if r7 < (u2.1 + r4) - (if 0 < (u2.1 + r4) - (d.1 2) then (u2.1 + r4) - (d.1 2) else 0) then r7 else (u2.1 + r4) - (if 0 < (u2.1 + r4) - (d.1 2) then (u2.1 + r4) - (d.1 2) else 0))), .int u1.1, .ref (sa 0), .ref (sa 1), .ref (sa 2), .ref (sa 3), .ref (sa 4), .ref (sa 5), .ref (sa 6)])), (sa 0, .inl (y 0, 9, .inl u1.2)), (sa 1, .inl (y 0, 9, .inl u2.2.1)), (sa 2, .inl (y 1, 9, .inr (.inl u2.2.2.1))), (sa 6, .inl (y 1, 5, .inr (.inl u2.2.2.2))), (ad 0, .inr (2, [.int (d.1 0), .int (d.1 1), .int (d.1 2), .int (d.1 3), .ref (ad 1), .int (d.1 4), .ref (ad 11), .ref (ad 12), .ref (ad 2), .ref (ad 3), .int (d.1 5), .int (d.1 6), .int (d.1 7), .int (d.1 8)])), (ad 3, .inr (6, [.int (d.1 11), .int (d.1 12), .ref (ad 20), .ref (ad 21), .ref (ad 22), .ref (ad 23), .ref (ad 24), .ref (ad 25)])), (ad 20, .inl (y 0, 8, .inl (d.2 16))), (ad 21, .inl (y 0, 8, .inl (d.2 17))), (ad 22, .inl (y 0, 8, .inl (d.2 18))), (ad 23, .inl (y 0, 8, .inl (d.2 19))), (ad 24, .inl (y 0, 1600, .inl (d.2 20))), (ad 25, .inl (y 0, 40, .inl u8))]) rfl rfl rfl (nl rfl) rfl d_Days_pass_107 ?_
  refine j_aload_n (pc := 110) C d_Days_pass_110 rfl 5 rfl ?_
  refine j_get (pc := 111) C gf_Days_87 21 rfl rfl d_Days_pass_111 ?_
  refine j_iconst (pc := 114) C (v := 1) d_Days_pass_114 (by decide) ?_
  refine j_dup2 (pc := 115) C d_Days_pass_115 rfl rfl ?_
  refine j_lald (pc := 116) C 25 rfl (v := u2.2.2.2 1) (vin (by decide)) rfl d_Days_pass_116 ?_
  refine j_iload_n (pc := 117) C d_Days_pass_117 rfl 3 rfl ?_
  refine j_i2l (pc := 118) C (v := r4.toInt64) d_Days_pass_118 rfl ?_
  refine j_ladd (pc := 119) C (v := (u2.2.2.2 1) + r4.toInt64) d_Days_pass_119 rfl ?_
  refine j_last (pc := 120) C 25 rfl (ws' := [(ad 2, .inr (8, [.int (d.1 10), .ref (ad 13), .ref (ad 14), .ref (ad 15), .ref (ad 16), .ref (ad 17), .ref (ad 18), .ref (ad 19)])), (ad 4, .inl (y 0, 9, .inl (d.2 0))), (ad 8, .inl (y 0, 9, .inl (d.2 4))), (ad 11, .inl (y 0, 6, .inl (d.2 7))), (ad 13, .inl (y 0, 16, .inl (d.2 9))), (ad 14, .inl (y 0, 16, .inl (d.2 10))), (ad 15, .inl (y 0, 16, .inl (d.2 11))), (ad 16, .inl (y 0, 16, .inl (d.2 12))), (ad 17, .inl (y 0, 16, .inl (d.2 13))), (ad 18, .inl (y 0, 16, .inl (d.2 14))), (ad 19, .inl (y 0, 16, .inl (d.2 15))), (sa 3, .inl (y 0, 6, .inl f3)), (sa 4, .inl (y 0, 6, .inl f4)), (sa 5, .inl (y 0, 16, .inl f5)), (ad 10, .inl (y 0, 9, .inl (d.2 6))), (ad 12, .inl (y 0, 6, .inl (d.2 8))), (ad 1, .inr (1, [.int (d.1 9), .ref (ad 4), .ref (ad 5), .ref (ad 6), .ref (ad 7), .ref (ad 8), .ref (ad 9), .ref (ad 10)])), (ad 5, .inl (y 0, 9, .inl (d.2 1))), (ad 6, .inl (y 0, 9, .inl (d.2 2))), (ad 7, .inl (y 0, 9, .inl (d.2 3))), (ad 9, .inl (y 0, 9, .inl (d.2 5))), (h, .inr (7, [.int sd, .int (((u2.1 + r4) - (if 0 < (u2.1 + r4) - (d.1 2) then (u2.1 + r4) - (d.1 2) else 0)) - (if r7 < (u2.1 + r4) - (if 0 < (u2.1 + r4) - (d.1 2) then (u2.1 + r4) - (d.1 2) else 0) then r7 else (u2.1 + r4) - (if 0 < (u2.1 + r4) - (d.1 2) then (u2.1 + r4) - (d.1 2) else 0))), .int u1.1, .ref (sa 0), .ref (sa 1), .ref (sa 2), .ref (sa 3), .ref (sa 4), .ref (sa 5), .ref (sa 6)])), (sa 0, .inl (y 0, 9, .inl u1.2)), (sa 1, .inl (y 0, 9, .inl u2.2.1)), (sa 2, .inl (y 1, 9, .inr (.inl u2.2.2.1))), (sa 6, .inl (y 1, 5, .inr (.inl (vp_updL u2.2.2.2 1 ((u2.2.2.2 1) + r4.toInt64))))), (ad 0, .inr (2, [.int (d.1 0), .int (d.1 1), .int (d.1 2), .int (d.1 3), .ref (ad 1), .int (d.1 4), .ref (ad 11), .ref (ad 12), .ref (ad 2), .ref (ad 3), .int (d.1 5), .int (d.1 6), .int (d.1 7), .int (d.1 8)])), (ad 3, .inr (6, [.int (d.1 11), .int (d.1 12), .ref (ad 20), .ref (ad 21), .ref (ad 22), .ref (ad 23), .ref (ad 24), .ref (ad 25)])), (ad 20, .inl (y 0, 8, .inl (d.2 16))), (ad 21, .inl (y 0, 8, .inl (d.2 17))), (ad 22, .inl (y 0, 8, .inl (d.2 18))), (ad 23, .inl (y 0, 8, .inl (d.2 19))), (ad 24, .inl (y 0, 1600, .inl (d.2 20))), (ad 25, .inl (y 0, 40, .inl u8))]) (vin (by decide)) rfl d_Days_pass_120 ?_
  refine j_aload_n (pc := 121) C d_Days_pass_121 rfl 5 rfl ?_
  refine j_get (pc := 122) C gf_Days_87 21 rfl rfl d_Days_pass_122 ?_
  refine j_iconst (pc := 125) C (v := 2) d_Days_pass_125 (by decide) ?_
  refine j_dup2 (pc := 126) C d_Days_pass_126 rfl rfl ?_
  refine j_lald (pc := 127) C 25 rfl (v := (vp_updL u2.2.2.2 1 ((u2.2.2.2 1) + r4.toInt64)) 2) (vin (by decide)) rfl d_Days_pass_127 ?_
  refine j_iload (pc := 128) C d_Days_pass_128 1 rfl ?_
  refine j_i2l (pc := 130) C (v := (if 0 < (u2.1 + r4) - (d.1 2) then (u2.1 + r4) - (d.1 2) else 0).toInt64) d_Days_pass_130 rfl ?_
  refine j_ladd (pc := 131) C (v := ((vp_updL u2.2.2.2 1 ((u2.2.2.2 1) + r4.toInt64)) 2) + ((if 0 < (u2.1 + r4) - (d.1 2) then (u2.1 + r4) - (d.1 2) else 0).toInt64)) d_Days_pass_131 rfl ?_
  refine j_last (pc := 132) C 25 rfl (ws' := [(ad 2, .inr (8, [.int (d.1 10), .ref (ad 13), .ref (ad 14), .ref (ad 15), .ref (ad 16), .ref (ad 17), .ref (ad 18), .ref (ad 19)])), (ad 4, .inl (y 0, 9, .inl (d.2 0))), (ad 8, .inl (y 0, 9, .inl (d.2 4))), (ad 11, .inl (y 0, 6, .inl (d.2 7))), (ad 13, .inl (y 0, 16, .inl (d.2 9))), (ad 14, .inl (y 0, 16, .inl (d.2 10))), (ad 15, .inl (y 0, 16, .inl (d.2 11))), (ad 16, .inl (y 0, 16, .inl (d.2 12))), (ad 17, .inl (y 0, 16, .inl (d.2 13))), (ad 18, .inl (y 0, 16, .inl (d.2 14))), (ad 19, .inl (y 0, 16, .inl (d.2 15))), (sa 3, .inl (y 0, 6, .inl f3)), (sa 4, .inl (y 0, 6, .inl f4)), (sa 5, .inl (y 0, 16, .inl f5)), (ad 10, .inl (y 0, 9, .inl (d.2 6))), (ad 12, .inl (y 0, 6, .inl (d.2 8))), (ad 1, .inr (1, [.int (d.1 9), .ref (ad 4), .ref (ad 5), .ref (ad 6), .ref (ad 7), .ref (ad 8), .ref (ad 9), .ref (ad 10)])), (ad 5, .inl (y 0, 9, .inl (d.2 1))), (ad 6, .inl (y 0, 9, .inl (d.2 2))), (ad 7, .inl (y 0, 9, .inl (d.2 3))), (ad 9, .inl (y 0, 9, .inl (d.2 5))), (h, .inr (7, [.int sd, .int (((u2.1 + r4) - (if 0 < (u2.1 + r4) - (d.1 2) then (u2.1 + r4) - (d.1 2) else 0)) - (if r7 < (u2.1 + r4) - (if 0 < (u2.1 + r4) - (d.1 2) then (u2.1 + r4) - (d.1 2) else 0) then r7 else (u2.1 + r4) - (if 0 < (u2.1 + r4) - (d.1 2) then (u2.1 + r4) - (d.1 2) else 0))), .int u1.1, .ref (sa 0), .ref (sa 1), .ref (sa 2), .ref (sa 3), .ref (sa 4), .ref (sa 5), .ref (sa 6)])), (sa 0, .inl (y 0, 9, .inl u1.2)), (sa 1, .inl (y 0, 9, .inl u2.2.1)), (sa 2, .inl (y 1, 9, .inr (.inl u2.2.2.1))), (sa 6, .inl (y 1, 5, .inr (.inl (vp_updL (vp_updL u2.2.2.2 1 ((u2.2.2.2 1) + r4.toInt64)) 2 (((vp_updL u2.2.2.2 1 ((u2.2.2.2 1) + r4.toInt64)) 2) + ((if 0 < (u2.1 + r4) - (d.1 2) then (u2.1 + r4) - (d.1 2) else 0).toInt64)))))), (ad 0, .inr (2, [.int (d.1 0), .int (d.1 1), .int (d.1 2), .int (d.1 3), .ref (ad 1), .int (d.1 4), .ref (ad 11), .ref (ad 12), .ref (ad 2), .ref (ad 3), .int (d.1 5), .int (d.1 6), .int (d.1 7), .int (d.1 8)])), (ad 3, .inr (6, [.int (d.1 11), .int (d.1 12), .ref (ad 20), .ref (ad 21), .ref (ad 22), .ref (ad 23), .ref (ad 24), .ref (ad 25)])), (ad 20, .inl (y 0, 8, .inl (d.2 16))), (ad 21, .inl (y 0, 8, .inl (d.2 17))), (ad 22, .inl (y 0, 8, .inl (d.2 18))), (ad 23, .inl (y 0, 8, .inl (d.2 19))), (ad 24, .inl (y 0, 1600, .inl (d.2 20))), (ad 25, .inl (y 0, 40, .inl u8))]) (vin (by decide)) rfl d_Days_pass_132 ?_
  refine j_aload_n (pc := 133) C d_Days_pass_133 rfl 5 rfl ?_
  refine j_get (pc := 134) C gf_Days_87 21 rfl rfl d_Days_pass_134 ?_
  refine j_iconst (pc := 137) C (v := 4) d_Days_pass_137 (by decide) ?_
  refine j_dup2 (pc := 138) C d_Days_pass_138 rfl rfl ?_
  refine j_lald (pc := 139) C 25 rfl (v := (vp_updL (vp_updL u2.2.2.2 1 ((u2.2.2.2 1) + r4.toInt64)) 2 (((vp_updL u2.2.2.2 1 ((u2.2.2.2 1) + r4.toInt64)) 2) + ((if 0 < (u2.1 + r4) - (d.1 2) then (u2.1 + r4) - (d.1 2) else 0).toInt64))) 4) (vin (by decide)) rfl d_Days_pass_139 ?_
  refine j_iload (pc := 140) C d_Days_pass_140 0 rfl ?_
  refine j_i2l (pc := 142) C (v := (if r7 < (u2.1 + r4) - (if 0 < (u2.1 + r4) - (d.1 2) then (u2.1 + r4) - (d.1 2) else 0) then r7 else (u2.1 + r4) - (if 0 < (u2.1 + r4) - (d.1 2) then (u2.1 + r4) - (d.1 2) else 0)).toInt64) d_Days_pass_142 rfl ?_
  refine j_ladd (pc := 143) C (v := ((vp_updL (vp_updL u2.2.2.2 1 ((u2.2.2.2 1) + r4.toInt64)) 2 (((vp_updL u2.2.2.2 1 ((u2.2.2.2 1) + r4.toInt64)) 2) + ((if 0 < (u2.1 + r4) - (d.1 2) then (u2.1 + r4) - (d.1 2) else 0).toInt64))) 4) + ((if r7 < (u2.1 + r4) - (if 0 < (u2.1 + r4) - (d.1 2) then (u2.1 + r4) - (d.1 2) else 0) then r7 else (u2.1 + r4) - (if 0 < (u2.1 + r4) - (d.1 2) then (u2.1 + r4) - (d.1 2) else 0)).toInt64)) d_Days_pass_143 rfl ?_
  refine j_last (pc := 144) C 25 rfl (ws' := [(ad 2, .inr (8, [.int (d.1 10), .ref (ad 13), .ref (ad 14), .ref (ad 15), .ref (ad 16), .ref (ad 17), .ref (ad 18), .ref (ad 19)])), (ad 4, .inl (y 0, 9, .inl (d.2 0))), (ad 8, .inl (y 0, 9, .inl (d.2 4))), (ad 11, .inl (y 0, 6, .inl (d.2 7))), (ad 13, .inl (y 0, 16, .inl (d.2 9))), (ad 14, .inl (y 0, 16, .inl (d.2 10))), (ad 15, .inl (y 0, 16, .inl (d.2 11))), (ad 16, .inl (y 0, 16, .inl (d.2 12))), (ad 17, .inl (y 0, 16, .inl (d.2 13))), (ad 18, .inl (y 0, 16, .inl (d.2 14))), (ad 19, .inl (y 0, 16, .inl (d.2 15))), (sa 3, .inl (y 0, 6, .inl f3)), (sa 4, .inl (y 0, 6, .inl f4)), (sa 5, .inl (y 0, 16, .inl f5)), (ad 10, .inl (y 0, 9, .inl (d.2 6))), (ad 12, .inl (y 0, 6, .inl (d.2 8))), (ad 1, .inr (1, [.int (d.1 9), .ref (ad 4), .ref (ad 5), .ref (ad 6), .ref (ad 7), .ref (ad 8), .ref (ad 9), .ref (ad 10)])), (ad 5, .inl (y 0, 9, .inl (d.2 1))), (ad 6, .inl (y 0, 9, .inl (d.2 2))), (ad 7, .inl (y 0, 9, .inl (d.2 3))), (ad 9, .inl (y 0, 9, .inl (d.2 5))), (h, .inr (7, [.int sd, .int (((u2.1 + r4) - (if 0 < (u2.1 + r4) - (d.1 2) then (u2.1 + r4) - (d.1 2) else 0)) - (if r7 < (u2.1 + r4) - (if 0 < (u2.1 + r4) - (d.1 2) then (u2.1 + r4) - (d.1 2) else 0) then r7 else (u2.1 + r4) - (if 0 < (u2.1 + r4) - (d.1 2) then (u2.1 + r4) - (d.1 2) else 0))), .int u1.1, .ref (sa 0), .ref (sa 1), .ref (sa 2), .ref (sa 3), .ref (sa 4), .ref (sa 5), .ref (sa 6)])), (sa 0, .inl (y 0, 9, .inl u1.2)), (sa 1, .inl (y 0, 9, .inl u2.2.1)), (sa 2, .inl (y 1, 9, .inr (.inl u2.2.2.1))), (sa 6, .inl (y 1, 5, .inr (.inl (vp_updL (vp_updL (vp_updL u2.2.2.2 1 ((u2.2.2.2 1) + r4.toInt64)) 2 (((vp_updL u2.2.2.2 1 ((u2.2.2.2 1) + r4.toInt64)) 2) + ((if 0 < (u2.1 + r4) - (d.1 2) then (u2.1 + r4) - (d.1 2) else 0).toInt64))) 4 (((vp_updL (vp_updL u2.2.2.2 1 ((u2.2.2.2 1) + r4.toInt64)) 2 (((vp_updL u2.2.2.2 1 ((u2.2.2.2 1) + r4.toInt64)) 2) + ((if 0 < (u2.1 + r4) - (d.1 2) then (u2.1 + r4) - (d.1 2) else 0).toInt64))) 4) + ((if r7 < (u2.1 + r4) - (if 0 < (u2.1 + r4) - (d.1 2) then (u2.1 + r4) - (d.1 2) else 0) then r7 else (u2.1 + r4) - (if 0 < (u2.1 + r4) - (d.1 2) then (u2.1 + r4) - (d.1 2) else 0)).toInt64)))))), (ad 0, .inr (2, [.int (d.1 0), .int (d.1 1), .int (d.1 2), .int (d.1 3), .ref (ad 1), .int (d.1 4), .ref (ad 11), .ref (ad 12), .ref (ad 2), .ref (ad 3), .int (d.1 5), .int (d.1 6), .int (d.1 7), .int (d.1 8)])), (ad 3, .inr (6, [.int (d.1 11), .int (d.1 12), .ref (ad 20), .ref (ad 21), .ref (ad 22), .ref (ad 23), .ref (ad 24), .ref (ad 25)])), (ad 20, .inl (y 0, 8, .inl (d.2 16))), (ad 21, .inl (y 0, 8, .inl (d.2 17))), (ad 22, .inl (y 0, 8, .inl (d.2 18))), (ad 23, .inl (y 0, 8, .inl (d.2 19))), (ad 24, .inl (y 0, 1600, .inl (d.2 20))), (ad 25, .inl (y 0, 40, .inl u8))]) (vin (by decide)) rfl d_Days_pass_144 ?_
  refine j_aload_n (pc := 145) C d_Days_pass_145 rfl 4 rfl ?_
  refine j_aload_n (pc := 146) C d_Days_pass_146 rfl 5 rfl ?_
  refine j_get (pc := 147) C gf_Days_62 21 rfl rfl d_Days_pass_147 ?_
  refine j_callVi (pc := 150) C (c_levelAt l D y ad d (((u2.1 + r4) - (if 0 < (u2.1 + r4) - (d.1 2) then (u2.1 + r4) - (d.1 2) else 0)) - (if r7 < (u2.1 + r4) - (if 0 < (u2.1 + r4) - (d.1 2) then (u2.1 + r4) - (d.1 2) else 0) then r7 else (u2.1 + r4) - (if 0 < (u2.1 + r4) - (d.1 2) then (u2.1 + r4) - (d.1 2) else 0)))) kw_Days_65 kv_Lake_levelAt 0 2 rfl rfl ⟨by decide, by decide⟩ ⟨by decide, by decide⟩ (wr := [(ad 2, .inr (8, [.int (d.1 10), .ref (ad 13), .ref (ad 14), .ref (ad 15), .ref (ad 16), .ref (ad 17), .ref (ad 18), .ref (ad 19)])), (ad 4, .inl (y 0, 9, .inl (d.2 0))), (ad 8, .inl (y 0, 9, .inl (d.2 4))), (ad 11, .inl (y 0, 6, .inl (d.2 7))), (ad 13, .inl (y 0, 16, .inl (d.2 9))), (ad 14, .inl (y 0, 16, .inl (d.2 10))), (ad 15, .inl (y 0, 16, .inl (d.2 11))), (ad 16, .inl (y 0, 16, .inl (d.2 12))), (ad 17, .inl (y 0, 16, .inl (d.2 13))), (ad 18, .inl (y 0, 16, .inl (d.2 14))), (ad 19, .inl (y 0, 16, .inl (d.2 15))), (sa 3, .inl (y 0, 6, .inl f3)), (sa 4, .inl (y 0, 6, .inl f4)), (sa 5, .inl (y 0, 16, .inl f5)), (ad 10, .inl (y 0, 9, .inl (d.2 6))), (ad 12, .inl (y 0, 6, .inl (d.2 8))), (ad 1, .inr (1, [.int (d.1 9), .ref (ad 4), .ref (ad 5), .ref (ad 6), .ref (ad 7), .ref (ad 8), .ref (ad 9), .ref (ad 10)])), (ad 5, .inl (y 0, 9, .inl (d.2 1))), (ad 6, .inl (y 0, 9, .inl (d.2 2))), (ad 7, .inl (y 0, 9, .inl (d.2 3))), (ad 9, .inl (y 0, 9, .inl (d.2 5))), (h, .inr (7, [.int sd, .int (((u2.1 + r4) - (if 0 < (u2.1 + r4) - (d.1 2) then (u2.1 + r4) - (d.1 2) else 0)) - (if r7 < (u2.1 + r4) - (if 0 < (u2.1 + r4) - (d.1 2) then (u2.1 + r4) - (d.1 2) else 0) then r7 else (u2.1 + r4) - (if 0 < (u2.1 + r4) - (d.1 2) then (u2.1 + r4) - (d.1 2) else 0))), .int u1.1, .ref (sa 0), .ref (sa 1), .ref (sa 2), .ref (sa 3), .ref (sa 4), .ref (sa 5), .ref (sa 6)])), (sa 0, .inl (y 0, 9, .inl u1.2)), (sa 1, .inl (y 0, 9, .inl u2.2.1)), (sa 2, .inl (y 1, 9, .inr (.inl u2.2.2.1))), (sa 6, .inl (y 1, 5, .inr (.inl (vp_updL (vp_updL (vp_updL u2.2.2.2 1 ((u2.2.2.2 1) + r4.toInt64)) 2 (((vp_updL u2.2.2.2 1 ((u2.2.2.2 1) + r4.toInt64)) 2) + ((if 0 < (u2.1 + r4) - (d.1 2) then (u2.1 + r4) - (d.1 2) else 0).toInt64))) 4 (((vp_updL (vp_updL u2.2.2.2 1 ((u2.2.2.2 1) + r4.toInt64)) 2 (((vp_updL u2.2.2.2 1 ((u2.2.2.2 1) + r4.toInt64)) 2) + ((if 0 < (u2.1 + r4) - (d.1 2) then (u2.1 + r4) - (d.1 2) else 0).toInt64))) 4) + ((if r7 < (u2.1 + r4) - (if 0 < (u2.1 + r4) - (d.1 2) then (u2.1 + r4) - (d.1 2) else 0) then r7 else (u2.1 + r4) - (if 0 < (u2.1 + r4) - (d.1 2) then (u2.1 + r4) - (d.1 2) else 0)).toInt64)))))), (ad 3, .inr (6, [.int (d.1 11), .int (d.1 12), .ref (ad 20), .ref (ad 21), .ref (ad 22), .ref (ad 23), .ref (ad 24), .ref (ad 25)])), (ad 20, .inl (y 0, 8, .inl (d.2 16))), (ad 21, .inl (y 0, 8, .inl (d.2 17))), (ad 22, .inl (y 0, 8, .inl (d.2 18))), (ad 23, .inl (y 0, 8, .inl (d.2 19))), (ad 24, .inl (y 0, 1600, .inl (d.2 20))), (ad 25, .inl (y 0, 40, .inl u8))]) [26] [0, 1, 2, 3, 4, 5, 6, 7, 8, 9, 10, 11, 12, 13, 14, 15, 16, 17, 18, 19, 20, 21, 22, 23, 24, 25, 27, 28, 29, 30, 31, 32, 33] rfl rfl (by decide) (by decide) (by decide) (As := [.int (((u2.1 + r4) - (if 0 < (u2.1 + r4) - (d.1 2) then (u2.1 + r4) - (d.1 2) else 0)) - (if r7 < (u2.1 + r4) - (if 0 < (u2.1 + r4) - (d.1 2) then (u2.1 + r4) - (d.1 2) else 0) then r7 else (u2.1 + r4) - (if 0 < (u2.1 + r4) - (d.1 2) then (u2.1 + r4) - (d.1 2) else 0)))]) (rest := []) rfl (nb rfl) rfl d_Days_pass_150 (fun r9 _ hr9 => ?_)
  refine j_ws (ws' := [(ad 2, .inr (8, [.int (d.1 10), .ref (ad 13), .ref (ad 14), .ref (ad 15), .ref (ad 16), .ref (ad 17), .ref (ad 18), .ref (ad 19)])), (ad 4, .inl (y 0, 9, .inl (d.2 0))), (ad 8, .inl (y 0, 9, .inl (d.2 4))), (ad 11, .inl (y 0, 6, .inl (d.2 7))), (ad 13, .inl (y 0, 16, .inl (d.2 9))), (ad 14, .inl (y 0, 16, .inl (d.2 10))), (ad 15, .inl (y 0, 16, .inl (d.2 11))), (ad 16, .inl (y 0, 16, .inl (d.2 12))), (ad 17, .inl (y 0, 16, .inl (d.2 13))), (ad 18, .inl (y 0, 16, .inl (d.2 14))), (ad 19, .inl (y 0, 16, .inl (d.2 15))), (sa 3, .inl (y 0, 6, .inl f3)), (sa 4, .inl (y 0, 6, .inl f4)), (sa 5, .inl (y 0, 16, .inl f5)), (ad 10, .inl (y 0, 9, .inl (d.2 6))), (ad 12, .inl (y 0, 6, .inl (d.2 8))), (ad 1, .inr (1, [.int (d.1 9), .ref (ad 4), .ref (ad 5), .ref (ad 6), .ref (ad 7), .ref (ad 8), .ref (ad 9), .ref (ad 10)])), (ad 5, .inl (y 0, 9, .inl (d.2 1))), (ad 6, .inl (y 0, 9, .inl (d.2 2))), (ad 7, .inl (y 0, 9, .inl (d.2 3))), (ad 9, .inl (y 0, 9, .inl (d.2 5))), (h, .inr (7, [.int sd, .int (((u2.1 + r4) - (if 0 < (u2.1 + r4) - (d.1 2) then (u2.1 + r4) - (d.1 2) else 0)) - (if r7 < (u2.1 + r4) - (if 0 < (u2.1 + r4) - (d.1 2) then (u2.1 + r4) - (d.1 2) else 0) then r7 else (u2.1 + r4) - (if 0 < (u2.1 + r4) - (d.1 2) then (u2.1 + r4) - (d.1 2) else 0))), .int u1.1, .ref (sa 0), .ref (sa 1), .ref (sa 2), .ref (sa 3), .ref (sa 4), .ref (sa 5), .ref (sa 6)])), (sa 0, .inl (y 0, 9, .inl u1.2)), (sa 1, .inl (y 0, 9, .inl u2.2.1)), (sa 2, .inl (y 1, 9, .inr (.inl u2.2.2.1))), (sa 6, .inl (y 1, 5, .inr (.inl (vp_updL (vp_updL (vp_updL u2.2.2.2 1 ((u2.2.2.2 1) + r4.toInt64)) 2 (((vp_updL u2.2.2.2 1 ((u2.2.2.2 1) + r4.toInt64)) 2) + ((if 0 < (u2.1 + r4) - (d.1 2) then (u2.1 + r4) - (d.1 2) else 0).toInt64))) 4 (((vp_updL (vp_updL u2.2.2.2 1 ((u2.2.2.2 1) + r4.toInt64)) 2 (((vp_updL u2.2.2.2 1 ((u2.2.2.2 1) + r4.toInt64)) 2) + ((if 0 < (u2.1 + r4) - (d.1 2) then (u2.1 + r4) - (d.1 2) else 0).toInt64))) 4) + ((if r7 < (u2.1 + r4) - (if 0 < (u2.1 + r4) - (d.1 2) then (u2.1 + r4) - (d.1 2) else 0) then r7 else (u2.1 + r4) - (if 0 < (u2.1 + r4) - (d.1 2) then (u2.1 + r4) - (d.1 2) else 0)).toInt64)))))), (ad 3, .inr (6, [.int (d.1 11), .int (d.1 12), .ref (ad 20), .ref (ad 21), .ref (ad 22), .ref (ad 23), .ref (ad 24), .ref (ad 25)])), (ad 20, .inl (y 0, 8, .inl (d.2 16))), (ad 21, .inl (y 0, 8, .inl (d.2 17))), (ad 22, .inl (y 0, 8, .inl (d.2 18))), (ad 23, .inl (y 0, 8, .inl (d.2 19))), (ad 24, .inl (y 0, 1600, .inl (d.2 20))), (ad 25, .inl (y 0, 40, .inl u8)), (ad 0, .inr (2, [.int (d.1 0), .int (d.1 1), .int (d.1 2), .int (d.1 3), .ref (ad 1), .int (d.1 4), .ref (ad 11), .ref (ad 12), .ref (ad 2), .ref (ad 3), .int (d.1 5), .int (d.1 6), .int (d.1 7), .int (d.1 8)]))]) rfl ?_
  refine j_aload_n (pc := 153) C d_Days_pass_153 rfl 4 rfl ?_
  refine j_get (pc := 154) C gf_Days_91 33 rfl rfl d_Days_pass_154 ?_
  refine j_icmp_ge (pc := 157) C (tgt := 167) d_Days_pass_157 (by decide) (fun c10 => ?_) (fun c10 => ?_)
  · refine j_iconst (pc := 167) C (v := 0) d_Days_pass_167 (by decide) ?_
    refine j_istore (pc := 168) C (lv' := [(7, .int 0), (6, .int (if r7 < (u2.1 + r4) - (if 0 < (u2.1 + r4) - (d.1 2) then (u2.1 + r4) - (d.1 2) else 0) then r7 else (u2.1 + r4) - (if 0 < (u2.1 + r4) - (d.1 2) then (u2.1 + r4) - (d.1 2) else 0))), (5, .int (if 0 < (u2.1 + r4) - (d.1 2) then (u2.1 + r4) - (d.1 2) else 0)), (4, .int (u2.1 + r4)), (3, .int r4), (0, .ref (ad 0)), (1, .ref h), (2, .int va)]) d_Days_pass_168 (by decide) rfl ?_
    refine j_iload (pc := 170) C d_Days_pass_170 0 rfl ?_
    refine j_aload_n (pc := 172) C d_Days_pass_172 rfl 5 rfl ?_
    refine j_iload (pc := 173) C d_Days_pass_173 3 rfl ?_
    refine j_callVi (pc := 175) C (c_levelAt l D y ad d (u2.1 + r4)) kw_Days_65 kv_Lake_levelAt 0 2 rfl rfl ⟨by decide, by decide⟩ ⟨by decide, by decide⟩ (wr := [(ad 2, .inr (8, [.int (d.1 10), .ref (ad 13), .ref (ad 14), .ref (ad 15), .ref (ad 16), .ref (ad 17), .ref (ad 18), .ref (ad 19)])), (ad 4, .inl (y 0, 9, .inl (d.2 0))), (ad 8, .inl (y 0, 9, .inl (d.2 4))), (ad 11, .inl (y 0, 6, .inl (d.2 7))), (ad 13, .inl (y 0, 16, .inl (d.2 9))), (ad 14, .inl (y 0, 16, .inl (d.2 10))), (ad 15, .inl (y 0, 16, .inl (d.2 11))), (ad 16, .inl (y 0, 16, .inl (d.2 12))), (ad 17, .inl (y 0, 16, .inl (d.2 13))), (ad 18, .inl (y 0, 16, .inl (d.2 14))), (ad 19, .inl (y 0, 16, .inl (d.2 15))), (sa 3, .inl (y 0, 6, .inl f3)), (sa 4, .inl (y 0, 6, .inl f4)), (sa 5, .inl (y 0, 16, .inl f5)), (ad 10, .inl (y 0, 9, .inl (d.2 6))), (ad 12, .inl (y 0, 6, .inl (d.2 8))), (ad 1, .inr (1, [.int (d.1 9), .ref (ad 4), .ref (ad 5), .ref (ad 6), .ref (ad 7), .ref (ad 8), .ref (ad 9), .ref (ad 10)])), (ad 5, .inl (y 0, 9, .inl (d.2 1))), (ad 6, .inl (y 0, 9, .inl (d.2 2))), (ad 7, .inl (y 0, 9, .inl (d.2 3))), (ad 9, .inl (y 0, 9, .inl (d.2 5))), (h, .inr (7, [.int sd, .int (((u2.1 + r4) - (if 0 < (u2.1 + r4) - (d.1 2) then (u2.1 + r4) - (d.1 2) else 0)) - (if r7 < (u2.1 + r4) - (if 0 < (u2.1 + r4) - (d.1 2) then (u2.1 + r4) - (d.1 2) else 0) then r7 else (u2.1 + r4) - (if 0 < (u2.1 + r4) - (d.1 2) then (u2.1 + r4) - (d.1 2) else 0))), .int u1.1, .ref (sa 0), .ref (sa 1), .ref (sa 2), .ref (sa 3), .ref (sa 4), .ref (sa 5), .ref (sa 6)])), (sa 0, .inl (y 0, 9, .inl u1.2)), (sa 1, .inl (y 0, 9, .inl u2.2.1)), (sa 2, .inl (y 1, 9, .inr (.inl u2.2.2.1))), (sa 6, .inl (y 1, 5, .inr (.inl (vp_updL (vp_updL (vp_updL u2.2.2.2 1 ((u2.2.2.2 1) + r4.toInt64)) 2 (((vp_updL u2.2.2.2 1 ((u2.2.2.2 1) + r4.toInt64)) 2) + ((if 0 < (u2.1 + r4) - (d.1 2) then (u2.1 + r4) - (d.1 2) else 0).toInt64))) 4 (((vp_updL (vp_updL u2.2.2.2 1 ((u2.2.2.2 1) + r4.toInt64)) 2 (((vp_updL u2.2.2.2 1 ((u2.2.2.2 1) + r4.toInt64)) 2) + ((if 0 < (u2.1 + r4) - (d.1 2) then (u2.1 + r4) - (d.1 2) else 0).toInt64))) 4) + ((if r7 < (u2.1 + r4) - (if 0 < (u2.1 + r4) - (d.1 2) then (u2.1 + r4) - (d.1 2) else 0) then r7 else (u2.1 + r4) - (if 0 < (u2.1 + r4) - (d.1 2) then (u2.1 + r4) - (d.1 2) else 0)).toInt64)))))), (ad 3, .inr (6, [.int (d.1 11), .int (d.1 12), .ref (ad 20), .ref (ad 21), .ref (ad 22), .ref (ad 23), .ref (ad 24), .ref (ad 25)])), (ad 20, .inl (y 0, 8, .inl (d.2 16))), (ad 21, .inl (y 0, 8, .inl (d.2 17))), (ad 22, .inl (y 0, 8, .inl (d.2 18))), (ad 23, .inl (y 0, 8, .inl (d.2 19))), (ad 24, .inl (y 0, 1600, .inl (d.2 20))), (ad 25, .inl (y 0, 40, .inl u8))]) [33] [0, 1, 2, 3, 4, 5, 6, 7, 8, 9, 10, 11, 12, 13, 14, 15, 16, 17, 18, 19, 20, 21, 22, 23, 24, 25, 26, 27, 28, 29, 30, 31, 32] rfl rfl (by decide) (by decide) (by decide) (As := [.int (u2.1 + r4)]) (rest := [.int 0]) rfl (nb rfl) rfl d_Days_pass_175 (fun r11 _ hr11 => ?_)
    refine j_ws (ws' := [(ad 2, .inr (8, [.int (d.1 10), .ref (ad 13), .ref (ad 14), .ref (ad 15), .ref (ad 16), .ref (ad 17), .ref (ad 18), .ref (ad 19)])), (ad 4, .inl (y 0, 9, .inl (d.2 0))), (ad 8, .inl (y 0, 9, .inl (d.2 4))), (ad 11, .inl (y 0, 6, .inl (d.2 7))), (ad 13, .inl (y 0, 16, .inl (d.2 9))), (ad 14, .inl (y 0, 16, .inl (d.2 10))), (ad 15, .inl (y 0, 16, .inl (d.2 11))), (ad 16, .inl (y 0, 16, .inl (d.2 12))), (ad 17, .inl (y 0, 16, .inl (d.2 13))), (ad 18, .inl (y 0, 16, .inl (d.2 14))), (ad 19, .inl (y 0, 16, .inl (d.2 15))), (sa 3, .inl (y 0, 6, .inl f3)), (sa 4, .inl (y 0, 6, .inl f4)), (sa 5, .inl (y 0, 16, .inl f5)), (ad 10, .inl (y 0, 9, .inl (d.2 6))), (ad 12, .inl (y 0, 6, .inl (d.2 8))), (ad 1, .inr (1, [.int (d.1 9), .ref (ad 4), .ref (ad 5), .ref (ad 6), .ref (ad 7), .ref (ad 8), .ref (ad 9), .ref (ad 10)])), (ad 5, .inl (y 0, 9, .inl (d.2 1))), (ad 6, .inl (y 0, 9, .inl (d.2 2))), (ad 7, .inl (y 0, 9, .inl (d.2 3))), (ad 9, .inl (y 0, 9, .inl (d.2 5))), (h, .inr (7, [.int sd, .int (((u2.1 + r4) - (if 0 < (u2.1 + r4) - (d.1 2) then (u2.1 + r4) - (d.1 2) else 0)) - (if r7 < (u2.1 + r4) - (if 0 < (u2.1 + r4) - (d.1 2) then (u2.1 + r4) - (d.1 2) else 0) then r7 else (u2.1 + r4) - (if 0 < (u2.1 + r4) - (d.1 2) then (u2.1 + r4) - (d.1 2) else 0))), .int u1.1, .ref (sa 0), .ref (sa 1), .ref (sa 2), .ref (sa 3), .ref (sa 4), .ref (sa 5), .ref (sa 6)])), (sa 0, .inl (y 0, 9, .inl u1.2)), (sa 1, .inl (y 0, 9, .inl u2.2.1)), (sa 2, .inl (y 1, 9, .inr (.inl u2.2.2.1))), (sa 6, .inl (y 1, 5, .inr (.inl (vp_updL (vp_updL (vp_updL u2.2.2.2 1 ((u2.2.2.2 1) + r4.toInt64)) 2 (((vp_updL u2.2.2.2 1 ((u2.2.2.2 1) + r4.toInt64)) 2) + ((if 0 < (u2.1 + r4) - (d.1 2) then (u2.1 + r4) - (d.1 2) else 0).toInt64))) 4 (((vp_updL (vp_updL u2.2.2.2 1 ((u2.2.2.2 1) + r4.toInt64)) 2 (((vp_updL u2.2.2.2 1 ((u2.2.2.2 1) + r4.toInt64)) 2) + ((if 0 < (u2.1 + r4) - (d.1 2) then (u2.1 + r4) - (d.1 2) else 0).toInt64))) 4) + ((if r7 < (u2.1 + r4) - (if 0 < (u2.1 + r4) - (d.1 2) then (u2.1 + r4) - (d.1 2) else 0) then r7 else (u2.1 + r4) - (if 0 < (u2.1 + r4) - (d.1 2) then (u2.1 + r4) - (d.1 2) else 0)).toInt64)))))), (ad 3, .inr (6, [.int (d.1 11), .int (d.1 12), .ref (ad 20), .ref (ad 21), .ref (ad 22), .ref (ad 23), .ref (ad 24), .ref (ad 25)])), (ad 20, .inl (y 0, 8, .inl (d.2 16))), (ad 21, .inl (y 0, 8, .inl (d.2 17))), (ad 22, .inl (y 0, 8, .inl (d.2 18))), (ad 23, .inl (y 0, 8, .inl (d.2 19))), (ad 24, .inl (y 0, 1600, .inl (d.2 20))), (ad 25, .inl (y 0, 40, .inl u8)), (ad 0, .inr (2, [.int (d.1 0), .int (d.1 1), .int (d.1 2), .int (d.1 3), .ref (ad 1), .int (d.1 4), .ref (ad 11), .ref (ad 12), .ref (ad 2), .ref (ad 3), .int (d.1 5), .int (d.1 6), .int (d.1 7), .int (d.1 8)]))]) rfl ?_
    refine j_aload_n (pc := 178) C d_Days_pass_178 rfl 5 rfl ?_
    refine j_get (pc := 179) C gf_Days_97 33 rfl rfl d_Days_pass_179 ?_
    refine j_icmp_le (pc := 182) C (tgt := 192) d_Days_pass_182 (by decide) (fun c12 => ?_) (fun c12 => ?_)
    · refine j_iconst (pc := 192) C (v := 0) d_Days_pass_192 (by decide) ?_
      refine j_iadd (pc := 193) C (v := 0) d_Days_pass_193 (by decide) ?_
      refine j_istore (pc := 194) C (lv' := [(7, .int 0), (6, .int (if r7 < (u2.1 + r4) - (if 0 < (u2.1 + r4) - (d.1 2) then (u2.1 + r4) - (d.1 2) else 0) then r7 else (u2.1 + r4) - (if 0 < (u2.1 + r4) - (d.1 2) then (u2.1 + r4) - (d.1 2) else 0))), (5, .int (if 0 < (u2.1 + r4) - (d.1 2) then (u2.1 + r4) - (d.1 2) else 0)), (4, .int (u2.1 + r4)), (3, .int r4), (0, .ref (ad 0)), (1, .ref h), (2, .int va)]) d_Days_pass_194 (by decide) rfl ?_
      refine j_aload_n (pc := 196) C d_Days_pass_196 rfl 5 rfl ?_
      refine j_aload_n (pc := 197) C d_Days_pass_197 rfl 6 rfl ?_
      refine j_iload (pc := 198) C d_Days_pass_198 0 rfl ?_
      refine j_callSv (pc := 200) C (c_giveWorth l D y ad d n4 n10 h sa sd (((u2.1 + r4) - (if 0 < (u2.1 + r4) - (d.1 2) then (u2.1 + r4) - (d.1 2) else 0)) - (if r7 < (u2.1 + r4) - (if 0 < (u2.1 + r4) - (d.1 2) then (u2.1 + r4) - (d.1 2) else 0) then r7 else (u2.1 + r4) - (if 0 < (u2.1 + r4) - (d.1 2) then (u2.1 + r4) - (d.1 2) else 0))) u1.1 u2.2.1 f3 f4 f5 0 h4 b4 h10 b10 hT) kw_Days_103 ks_Days_giveWorth ⟨by decide, by decide⟩ ⟨by decide, by decide⟩ (wr := [(ad 4, .inl (y 0, 9, .inl (d.2 0))), (ad 8, .inl (y 0, 9, .inl (d.2 4))), (ad 11, .inl (y 0, 6, .inl (d.2 7))), (ad 10, .inl (y 0, 9, .inl (d.2 6))), (ad 12, .inl (y 0, 6, .inl (d.2 8))), (ad 1, .inr (1, [.int (d.1 9), .ref (ad 4), .ref (ad 5), .ref (ad 6), .ref (ad 7), .ref (ad 8), .ref (ad 9), .ref (ad 10)])), (ad 5, .inl (y 0, 9, .inl (d.2 1))), (ad 6, .inl (y 0, 9, .inl (d.2 2))), (ad 7, .inl (y 0, 9, .inl (d.2 3))), (ad 9, .inl (y 0, 9, .inl (d.2 5))), (sa 0, .inl (y 0, 9, .inl u1.2)), (sa 2, .inl (y 1, 9, .inr (.inl u2.2.2.1))), (sa 6, .inl (y 1, 5, .inr (.inl (vp_updL (vp_updL (vp_updL u2.2.2.2 1 ((u2.2.2.2 1) + r4.toInt64)) 2 (((vp_updL u2.2.2.2 1 ((u2.2.2.2 1) + r4.toInt64)) 2) + ((if 0 < (u2.1 + r4) - (d.1 2) then (u2.1 + r4) - (d.1 2) else 0).toInt64))) 4 (((vp_updL (vp_updL u2.2.2.2 1 ((u2.2.2.2 1) + r4.toInt64)) 2 (((vp_updL u2.2.2.2 1 ((u2.2.2.2 1) + r4.toInt64)) 2) + ((if 0 < (u2.1 + r4) - (d.1 2) then (u2.1 + r4) - (d.1 2) else 0).toInt64))) 4) + ((if r7 < (u2.1 + r4) - (if 0 < (u2.1 + r4) - (d.1 2) then (u2.1 + r4) - (d.1 2) else 0) then r7 else (u2.1 + r4) - (if 0 < (u2.1 + r4) - (d.1 2) then (u2.1 + r4) - (d.1 2) else 0)).toInt64)))))), (ad 3, .inr (6, [.int (d.1 11), .int (d.1 12), .ref (ad 20), .ref (ad 21), .ref (ad 22), .ref (ad 23), .ref (ad 24), .ref (ad 25)])), (ad 20, .inl (y 0, 8, .inl (d.2 16))), (ad 21, .inl (y 0, 8, .inl (d.2 17))), (ad 22, .inl (y 0, 8, .inl (d.2 18))), (ad 23, .inl (y 0, 8, .inl (d.2 19))), (ad 24, .inl (y 0, 1600, .inl (d.2 20))), (ad 25, .inl (y 0, 40, .inl u8))]) [33, 0, 4, 5, 6, 7, 8, 9, 10, 21, 23, 11, 12, 13] [1, 2, 3, 14, 15, 16, 17, 18, 19, 20, 22, 24, 25, 26, 27, 28, 29, 30, 31, 32] rfl rfl (by decide) (by decide) (by decide) (As := [.ref (ad 0), .ref h, .int 0]) (rest := []) rfl (nb rfl) rfl d_Days_pass_200 (fun u13 _ => ?_)
      refine j_ws (ws' := [(ad 4, .inl (y 0, 9, .inl (d.2 0))), (ad 8, .inl (y 0, 9, .inl (d.2 4))), (ad 11, .inl (y 0, 6, .inl (d.2 7))), (ad 10, .inl (y 0, 9, .inl (d.2 6))), (ad 12, .inl (y 0, 6, .inl (d.2 8))), (ad 1, .inr (1, [.int (d.1 9), .ref (ad 4), .ref (ad 5), .ref (ad 6), .ref (ad 7), .ref (ad 8), .ref (ad 9), .ref (ad 10)])), (ad 5, .inl (y 0, 9, .inl (d.2 1))), (ad 6, .inl (y 0, 9, .inl (d.2 2))), (ad 7, .inl (y 0, 9, .inl (d.2 3))), (ad 9, .inl (y 0, 9, .inl (d.2 5))), (sa 0, .inl (y 0, 9, .inl u1.2)), (sa 2, .inl (y 1, 9, .inr (.inl u2.2.2.1))), (sa 6, .inl (y 1, 5, .inr (.inl (vp_updL (vp_updL (vp_updL u2.2.2.2 1 ((u2.2.2.2 1) + r4.toInt64)) 2 (((vp_updL u2.2.2.2 1 ((u2.2.2.2 1) + r4.toInt64)) 2) + ((if 0 < (u2.1 + r4) - (d.1 2) then (u2.1 + r4) - (d.1 2) else 0).toInt64))) 4 (((vp_updL (vp_updL u2.2.2.2 1 ((u2.2.2.2 1) + r4.toInt64)) 2 (((vp_updL u2.2.2.2 1 ((u2.2.2.2 1) + r4.toInt64)) 2) + ((if 0 < (u2.1 + r4) - (d.1 2) then (u2.1 + r4) - (d.1 2) else 0).toInt64))) 4) + ((if r7 < (u2.1 + r4) - (if 0 < (u2.1 + r4) - (d.1 2) then (u2.1 + r4) - (d.1 2) else 0) then r7 else (u2.1 + r4) - (if 0 < (u2.1 + r4) - (d.1 2) then (u2.1 + r4) - (d.1 2) else 0)).toInt64)))))), (ad 3, .inr (6, [.int (d.1 11), .int (d.1 12), .ref (ad 20), .ref (ad 21), .ref (ad 22), .ref (ad 23), .ref (ad 24), .ref (ad 25)])), (ad 20, .inl (y 0, 8, .inl (d.2 16))), (ad 21, .inl (y 0, 8, .inl (d.2 17))), (ad 22, .inl (y 0, 8, .inl (d.2 18))), (ad 23, .inl (y 0, 8, .inl (d.2 19))), (ad 24, .inl (y 0, 1600, .inl (d.2 20))), (ad 25, .inl (y 0, 40, .inl u8)), (ad 0, .inr (2, [.int (d.1 0), .int (d.1 1), .int (d.1 2), .int (d.1 3), .ref (ad 1), .int (d.1 4), .ref (ad 11), .ref (ad 12), .ref (ad 2), .ref (ad 3), .int (d.1 5), .int (d.1 6), .int (d.1 7), .int (d.1 8)])), (ad 2, .inr (8, [.int (d.1 10), .ref (ad 13), .ref (ad 14), .ref (ad 15), .ref (ad 16), .ref (ad 17), .ref (ad 18), .ref (ad 19)])), (ad 13, .inl (y 0, 16, .inl (d.2 9))), (ad 14, .inl (y 0, 16, .inl (d.2 10))), (ad 15, .inl (y 0, 16, .inl (d.2 11))), (ad 16, .inl (y 0, 16, .inl (d.2 12))), (ad 17, .inl (y 0, 16, .inl (d.2 13))), (ad 18, .inl (y 0, 16, .inl (d.2 14))), (ad 19, .inl (y 0, 16, .inl (d.2 15))), (h, .inr (7, [.int sd, .int (((u2.1 + r4) - (if 0 < (u2.1 + r4) - (d.1 2) then (u2.1 + r4) - (d.1 2) else 0)) - (if r7 < (u2.1 + r4) - (if 0 < (u2.1 + r4) - (d.1 2) then (u2.1 + r4) - (d.1 2) else 0) then r7 else (u2.1 + r4) - (if 0 < (u2.1 + r4) - (d.1 2) then (u2.1 + r4) - (d.1 2) else 0))), .int u1.1, .ref (sa 0), .ref (sa 1), .ref (sa 2), .ref (sa 3), .ref (sa 4), .ref (sa 5), .ref (sa 6)])), (sa 1, .inl (y 0, 9, .inl u2.2.1)), (sa 3, .inl (y 0, 6, .inl u13.1)), (sa 4, .inl (y 0, 6, .inl u13.2.1)), (sa 5, .inl (y 0, 16, .inl u13.2.2))]) rfl ?_
      refine j_aload_n (pc := 203) C d_Days_pass_203 rfl 6 rfl ?_
      refine j_dup (pc := 204) C d_Days_pass_204 rfl ?_
      refine j_get (pc := 205) C gf_Days_59 29 rfl rfl d_Days_pass_205 ?_
      refine j_iconst (pc := 208) C (v := 1) d_Days_pass_208 (by decide) ?_
      refine j_iadd (pc := 209) C (v := sd + 1) d_Days_pass_209 rfl ?_
      refine j_put (pc := 210) C pf_Days_59 29 (ws' := [(ad 4, .inl (y 0, 9, .inl (d.2 0))), (ad 8, .inl (y 0, 9, .inl (d.2 4))), (ad 11, .inl (y 0, 6, .inl (d.2 7))), (ad 10, .inl (y 0, 9, .inl (d.2 6))), (ad 12, .inl (y 0, 6, .inl (d.2 8))), (ad 1, .inr (1, [.int (d.1 9), .ref (ad 4), .ref (ad 5), .ref (ad 6), .ref (ad 7), .ref (ad 8), .ref (ad 9), .ref (ad 10)])), (ad 5, .inl (y 0, 9, .inl (d.2 1))), (ad 6, .inl (y 0, 9, .inl (d.2 2))), (ad 7, .inl (y 0, 9, .inl (d.2 3))), (ad 9, .inl (y 0, 9, .inl (d.2 5))), (sa 0, .inl (y 0, 9, .inl u1.2)), (sa 2, .inl (y 1, 9, .inr (.inl u2.2.2.1))), (sa 6, .inl (y 1, 5, .inr (.inl (vp_updL (vp_updL (vp_updL u2.2.2.2 1 ((u2.2.2.2 1) + r4.toInt64)) 2 (((vp_updL u2.2.2.2 1 ((u2.2.2.2 1) + r4.toInt64)) 2) + ((if 0 < (u2.1 + r4) - (d.1 2) then (u2.1 + r4) - (d.1 2) else 0).toInt64))) 4 (((vp_updL (vp_updL u2.2.2.2 1 ((u2.2.2.2 1) + r4.toInt64)) 2 (((vp_updL u2.2.2.2 1 ((u2.2.2.2 1) + r4.toInt64)) 2) + ((if 0 < (u2.1 + r4) - (d.1 2) then (u2.1 + r4) - (d.1 2) else 0).toInt64))) 4) + ((if r7 < (u2.1 + r4) - (if 0 < (u2.1 + r4) - (d.1 2) then (u2.1 + r4) - (d.1 2) else 0) then r7 else (u2.1 + r4) - (if 0 < (u2.1 + r4) - (d.1 2) then (u2.1 + r4) - (d.1 2) else 0)).toInt64)))))), (ad 3, .inr (6, [.int (d.1 11), .int (d.1 12), .ref (ad 20), .ref (ad 21), .ref (ad 22), .ref (ad 23), .ref (ad 24), .ref (ad 25)])), (ad 20, .inl (y 0, 8, .inl (d.2 16))), (ad 21, .inl (y 0, 8, .inl (d.2 17))), (ad 22, .inl (y 0, 8, .inl (d.2 18))), (ad 23, .inl (y 0, 8, .inl (d.2 19))), (ad 24, .inl (y 0, 1600, .inl (d.2 20))), (ad 25, .inl (y 0, 40, .inl u8)), (ad 0, .inr (2, [.int (d.1 0), .int (d.1 1), .int (d.1 2), .int (d.1 3), .ref (ad 1), .int (d.1 4), .ref (ad 11), .ref (ad 12), .ref (ad 2), .ref (ad 3), .int (d.1 5), .int (d.1 6), .int (d.1 7), .int (d.1 8)])), (ad 2, .inr (8, [.int (d.1 10), .ref (ad 13), .ref (ad 14), .ref (ad 15), .ref (ad 16), .ref (ad 17), .ref (ad 18), .ref (ad 19)])), (ad 13, .inl (y 0, 16, .inl (d.2 9))), (ad 14, .inl (y 0, 16, .inl (d.2 10))), (ad 15, .inl (y 0, 16, .inl (d.2 11))), (ad 16, .inl (y 0, 16, .inl (d.2 12))), (ad 17, .inl (y 0, 16, .inl (d.2 13))), (ad 18, .inl (y 0, 16, .inl (d.2 14))), (ad 19, .inl (y 0, 16, .inl (d.2 15))), (h, .inr (7, [.int (sd + 1), .int (((u2.1 + r4) - (if 0 < (u2.1 + r4) - (d.1 2) then (u2.1 + r4) - (d.1 2) else 0)) - (if r7 < (u2.1 + r4) - (if 0 < (u2.1 + r4) - (d.1 2) then (u2.1 + r4) - (d.1 2) else 0) then r7 else (u2.1 + r4) - (if 0 < (u2.1 + r4) - (d.1 2) then (u2.1 + r4) - (d.1 2) else 0))), .int u1.1, .ref (sa 0), .ref (sa 1), .ref (sa 2), .ref (sa 3), .ref (sa 4), .ref (sa 5), .ref (sa 6)])), (sa 1, .inl (y 0, 9, .inl u2.2.1)), (sa 3, .inl (y 0, 6, .inl u13.1)), (sa 4, .inl (y 0, 6, .inl u13.2.1)), (sa 5, .inl (y 0, 16, .inl u13.2.2))]) rfl rfl rfl (nl rfl) rfl d_Days_pass_210 ?_
      exact j_vret (pc := 213) C hr ((fun k => [sd + 1, ((u2.1 + r4) - (if 0 < (u2.1 + r4) - (d.1 2) then (u2.1 + r4) - (d.1 2) else 0)) - (if r7 < (u2.1 + r4) - (if 0 < (u2.1 + r4) - (d.1 2) then (u2.1 + r4) - (d.1 2) else 0) then r7 else (u2.1 + r4) - (if 0 < (u2.1 + r4) - (d.1 2) then (u2.1 + r4) - (d.1 2) else 0)), u1.1].getD k 0, fun k => [u1.2, u2.2.1, u13.1, u13.2.1, u13.2.2].getD k (fun _ => 0), fun k => [u2.2.2.1, (vp_updL (vp_updL (vp_updL u2.2.2.2 1 ((u2.2.2.2 1) + r4.toInt64)) 2 (((vp_updL u2.2.2.2 1 ((u2.2.2.2 1) + r4.toInt64)) 2) + ((if 0 < (u2.1 + r4) - (d.1 2) then (u2.1 + r4) - (d.1 2) else 0).toInt64))) 4 (((vp_updL (vp_updL u2.2.2.2 1 ((u2.2.2.2 1) + r4.toInt64)) 2 (((vp_updL u2.2.2.2 1 ((u2.2.2.2 1) + r4.toInt64)) 2) + ((if 0 < (u2.1 + r4) - (d.1 2) then (u2.1 + r4) - (d.1 2) else 0).toInt64))) 4) + ((if r7 < (u2.1 + r4) - (if 0 < (u2.1 + r4) - (d.1 2) then (u2.1 + r4) - (d.1 2) else 0) then r7 else (u2.1 + r4) - (if 0 < (u2.1 + r4) - (d.1 2) then (u2.1 + r4) - (d.1 2) else 0)).toInt64)))].getD k (fun _ => 0)), u8) trivial [20, 5, 21, 13, 0, 6, 7, 8, 1, 9, 3, 2, 4, 22, 23, 24, 25, 26, 27, 28, 14, 15, 16, 17, 18, 19, 29, 10, 30, 11, 31, 32, 33, 12] rfl (by decide) (by decide) (by decide) d_Days_pass_213
    · refine j_aload_n (pc := 185) C d_Days_pass_185 rfl 5 rfl ?_
      refine j_get (pc := 186) C gf_Days_100 33 rfl rfl d_Days_pass_186 ?_
      refine j_goto (pc := 189) C (tgt := 193) d_Days_pass_189 (by decide) ?_
      refine j_iadd (pc := 193) C (v := 0 + (d.1 8)) d_Days_pass_193 rfl ?_
      refine j_istore (pc := 194) C (lv' := [(7, .int (0 + (d.1 8))), (6, .int (if r7 < (u2.1 + r4) - (if 0 < (u2.1 + r4) - (d.1 2) then (u2.1 + r4) - (d.1 2) else 0) then r7 else (u2.1 + r4) - (if 0 < (u2.1 + r4) - (d.1 2) then (u2.1 + r4) - (d.1 2) else 0))), (5, .int (if 0 < (u2.1 + r4) - (d.1 2) then (u2.1 + r4) - (d.1 2) else 0)), (4, .int (u2.1 + r4)), (3, .int r4), (0, .ref (ad 0)), (1, .ref h), (2, .int va)]) d_Days_pass_194 (by decide) rfl ?_
      refine j_aload_n (pc := 196) C d_Days_pass_196 rfl 5 rfl ?_
      refine j_aload_n (pc := 197) C d_Days_pass_197 rfl 6 rfl ?_
      refine j_iload (pc := 198) C d_Days_pass_198 0 rfl ?_
      refine j_callSv (pc := 200) C (c_giveWorth l D y ad d n4 n10 h sa sd (((u2.1 + r4) - (if 0 < (u2.1 + r4) - (d.1 2) then (u2.1 + r4) - (d.1 2) else 0)) - (if r7 < (u2.1 + r4) - (if 0 < (u2.1 + r4) - (d.1 2) then (u2.1 + r4) - (d.1 2) else 0) then r7 else (u2.1 + r4) - (if 0 < (u2.1 + r4) - (d.1 2) then (u2.1 + r4) - (d.1 2) else 0))) u1.1 u2.2.1 f3 f4 f5 (0 + (d.1 8)) h4 b4 h10 b10 hT) kw_Days_103 ks_Days_giveWorth ⟨by decide, by decide⟩ ⟨by decide, by decide⟩ (wr := [(ad 4, .inl (y 0, 9, .inl (d.2 0))), (ad 8, .inl (y 0, 9, .inl (d.2 4))), (ad 11, .inl (y 0, 6, .inl (d.2 7))), (ad 10, .inl (y 0, 9, .inl (d.2 6))), (ad 12, .inl (y 0, 6, .inl (d.2 8))), (ad 1, .inr (1, [.int (d.1 9), .ref (ad 4), .ref (ad 5), .ref (ad 6), .ref (ad 7), .ref (ad 8), .ref (ad 9), .ref (ad 10)])), (ad 5, .inl (y 0, 9, .inl (d.2 1))), (ad 6, .inl (y 0, 9, .inl (d.2 2))), (ad 7, .inl (y 0, 9, .inl (d.2 3))), (ad 9, .inl (y 0, 9, .inl (d.2 5))), (sa 0, .inl (y 0, 9, .inl u1.2)), (sa 2, .inl (y 1, 9, .inr (.inl u2.2.2.1))), (sa 6, .inl (y 1, 5, .inr (.inl (vp_updL (vp_updL (vp_updL u2.2.2.2 1 ((u2.2.2.2 1) + r4.toInt64)) 2 (((vp_updL u2.2.2.2 1 ((u2.2.2.2 1) + r4.toInt64)) 2) + ((if 0 < (u2.1 + r4) - (d.1 2) then (u2.1 + r4) - (d.1 2) else 0).toInt64))) 4 (((vp_updL (vp_updL u2.2.2.2 1 ((u2.2.2.2 1) + r4.toInt64)) 2 (((vp_updL u2.2.2.2 1 ((u2.2.2.2 1) + r4.toInt64)) 2) + ((if 0 < (u2.1 + r4) - (d.1 2) then (u2.1 + r4) - (d.1 2) else 0).toInt64))) 4) + ((if r7 < (u2.1 + r4) - (if 0 < (u2.1 + r4) - (d.1 2) then (u2.1 + r4) - (d.1 2) else 0) then r7 else (u2.1 + r4) - (if 0 < (u2.1 + r4) - (d.1 2) then (u2.1 + r4) - (d.1 2) else 0)).toInt64)))))), (ad 3, .inr (6, [.int (d.1 11), .int (d.1 12), .ref (ad 20), .ref (ad 21), .ref (ad 22), .ref (ad 23), .ref (ad 24), .ref (ad 25)])), (ad 20, .inl (y 0, 8, .inl (d.2 16))), (ad 21, .inl (y 0, 8, .inl (d.2 17))), (ad 22, .inl (y 0, 8, .inl (d.2 18))), (ad 23, .inl (y 0, 8, .inl (d.2 19))), (ad 24, .inl (y 0, 1600, .inl (d.2 20))), (ad 25, .inl (y 0, 40, .inl u8))]) [33, 0, 4, 5, 6, 7, 8, 9, 10, 21, 23, 11, 12, 13] [1, 2, 3, 14, 15, 16, 17, 18, 19, 20, 22, 24, 25, 26, 27, 28, 29, 30, 31, 32] rfl rfl (by decide) (by decide) (by decide) (As := [.ref (ad 0), .ref h, .int (0 + (d.1 8))]) (rest := []) rfl (nb rfl) rfl d_Days_pass_200 (fun u14 _ => ?_)
      refine j_ws (ws' := [(ad 4, .inl (y 0, 9, .inl (d.2 0))), (ad 8, .inl (y 0, 9, .inl (d.2 4))), (ad 11, .inl (y 0, 6, .inl (d.2 7))), (ad 10, .inl (y 0, 9, .inl (d.2 6))), (ad 12, .inl (y 0, 6, .inl (d.2 8))), (ad 1, .inr (1, [.int (d.1 9), .ref (ad 4), .ref (ad 5), .ref (ad 6), .ref (ad 7), .ref (ad 8), .ref (ad 9), .ref (ad 10)])), (ad 5, .inl (y 0, 9, .inl (d.2 1))), (ad 6, .inl (y 0, 9, .inl (d.2 2))), (ad 7, .inl (y 0, 9, .inl (d.2 3))), (ad 9, .inl (y 0, 9, .inl (d.2 5))), (sa 0, .inl (y 0, 9, .inl u1.2)), (sa 2, .inl (y 1, 9, .inr (.inl u2.2.2.1))), (sa 6, .inl (y 1, 5, .inr (.inl (vp_updL (vp_updL (vp_updL u2.2.2.2 1 ((u2.2.2.2 1) + r4.toInt64)) 2 (((vp_updL u2.2.2.2 1 ((u2.2.2.2 1) + r4.toInt64)) 2) + ((if 0 < (u2.1 + r4) - (d.1 2) then (u2.1 + r4) - (d.1 2) else 0).toInt64))) 4 (((vp_updL (vp_updL u2.2.2.2 1 ((u2.2.2.2 1) + r4.toInt64)) 2 (((vp_updL u2.2.2.2 1 ((u2.2.2.2 1) + r4.toInt64)) 2) + ((if 0 < (u2.1 + r4) - (d.1 2) then (u2.1 + r4) - (d.1 2) else 0).toInt64))) 4) + ((if r7 < (u2.1 + r4) - (if 0 < (u2.1 + r4) - (d.1 2) then (u2.1 + r4) - (d.1 2) else 0) then r7 else (u2.1 + r4) - (if 0 < (u2.1 + r4) - (d.1 2) then (u2.1 + r4) - (d.1 2) else 0)).toInt64)))))), (ad 3, .inr (6, [.int (d.1 11), .int (d.1 12), .ref (ad 20), .ref (ad 21), .ref (ad 22), .ref (ad 23), .ref (ad 24), .ref (ad 25)])), (ad 20, .inl (y 0, 8, .inl (d.2 16))), (ad 21, .inl (y 0, 8, .inl (d.2 17))), (ad 22, .inl (y 0, 8, .inl (d.2 18))), (ad 23, .inl (y 0, 8, .inl (d.2 19))), (ad 24, .inl (y 0, 1600, .inl (d.2 20))), (ad 25, .inl (y 0, 40, .inl u8)), (ad 0, .inr (2, [.int (d.1 0), .int (d.1 1), .int (d.1 2), .int (d.1 3), .ref (ad 1), .int (d.1 4), .ref (ad 11), .ref (ad 12), .ref (ad 2), .ref (ad 3), .int (d.1 5), .int (d.1 6), .int (d.1 7), .int (d.1 8)])), (ad 2, .inr (8, [.int (d.1 10), .ref (ad 13), .ref (ad 14), .ref (ad 15), .ref (ad 16), .ref (ad 17), .ref (ad 18), .ref (ad 19)])), (ad 13, .inl (y 0, 16, .inl (d.2 9))), (ad 14, .inl (y 0, 16, .inl (d.2 10))), (ad 15, .inl (y 0, 16, .inl (d.2 11))), (ad 16, .inl (y 0, 16, .inl (d.2 12))), (ad 17, .inl (y 0, 16, .inl (d.2 13))), (ad 18, .inl (y 0, 16, .inl (d.2 14))), (ad 19, .inl (y 0, 16, .inl (d.2 15))), (h, .inr (7, [.int sd, .int (((u2.1 + r4) - (if 0 < (u2.1 + r4) - (d.1 2) then (u2.1 + r4) - (d.1 2) else 0)) - (if r7 < (u2.1 + r4) - (if 0 < (u2.1 + r4) - (d.1 2) then (u2.1 + r4) - (d.1 2) else 0) then r7 else (u2.1 + r4) - (if 0 < (u2.1 + r4) - (d.1 2) then (u2.1 + r4) - (d.1 2) else 0))), .int u1.1, .ref (sa 0), .ref (sa 1), .ref (sa 2), .ref (sa 3), .ref (sa 4), .ref (sa 5), .ref (sa 6)])), (sa 1, .inl (y 0, 9, .inl u2.2.1)), (sa 3, .inl (y 0, 6, .inl u14.1)), (sa 4, .inl (y 0, 6, .inl u14.2.1)), (sa 5, .inl (y 0, 16, .inl u14.2.2))]) rfl ?_
      refine j_aload_n (pc := 203) C d_Days_pass_203 rfl 6 rfl ?_
      refine j_dup (pc := 204) C d_Days_pass_204 rfl ?_
      refine j_get (pc := 205) C gf_Days_59 29 rfl rfl d_Days_pass_205 ?_
      refine j_iconst (pc := 208) C (v := 1) d_Days_pass_208 (by decide) ?_
      refine j_iadd (pc := 209) C (v := sd + 1) d_Days_pass_209 rfl ?_
      refine j_put (pc := 210) C pf_Days_59 29 (ws' := [(ad 4, .inl (y 0, 9, .inl (d.2 0))), (ad 8, .inl (y 0, 9, .inl (d.2 4))), (ad 11, .inl (y 0, 6, .inl (d.2 7))), (ad 10, .inl (y 0, 9, .inl (d.2 6))), (ad 12, .inl (y 0, 6, .inl (d.2 8))), (ad 1, .inr (1, [.int (d.1 9), .ref (ad 4), .ref (ad 5), .ref (ad 6), .ref (ad 7), .ref (ad 8), .ref (ad 9), .ref (ad 10)])), (ad 5, .inl (y 0, 9, .inl (d.2 1))), (ad 6, .inl (y 0, 9, .inl (d.2 2))), (ad 7, .inl (y 0, 9, .inl (d.2 3))), (ad 9, .inl (y 0, 9, .inl (d.2 5))), (sa 0, .inl (y 0, 9, .inl u1.2)), (sa 2, .inl (y 1, 9, .inr (.inl u2.2.2.1))), (sa 6, .inl (y 1, 5, .inr (.inl (vp_updL (vp_updL (vp_updL u2.2.2.2 1 ((u2.2.2.2 1) + r4.toInt64)) 2 (((vp_updL u2.2.2.2 1 ((u2.2.2.2 1) + r4.toInt64)) 2) + ((if 0 < (u2.1 + r4) - (d.1 2) then (u2.1 + r4) - (d.1 2) else 0).toInt64))) 4 (((vp_updL (vp_updL u2.2.2.2 1 ((u2.2.2.2 1) + r4.toInt64)) 2 (((vp_updL u2.2.2.2 1 ((u2.2.2.2 1) + r4.toInt64)) 2) + ((if 0 < (u2.1 + r4) - (d.1 2) then (u2.1 + r4) - (d.1 2) else 0).toInt64))) 4) + ((if r7 < (u2.1 + r4) - (if 0 < (u2.1 + r4) - (d.1 2) then (u2.1 + r4) - (d.1 2) else 0) then r7 else (u2.1 + r4) - (if 0 < (u2.1 + r4) - (d.1 2) then (u2.1 + r4) - (d.1 2) else 0)).toInt64)))))), (ad 3, .inr (6, [.int (d.1 11), .int (d.1 12), .ref (ad 20), .ref (ad 21), .ref (ad 22), .ref (ad 23), .ref (ad 24), .ref (ad 25)])), (ad 20, .inl (y 0, 8, .inl (d.2 16))), (ad 21, .inl (y 0, 8, .inl (d.2 17))), (ad 22, .inl (y 0, 8, .inl (d.2 18))), (ad 23, .inl (y 0, 8, .inl (d.2 19))), (ad 24, .inl (y 0, 1600, .inl (d.2 20))), (ad 25, .inl (y 0, 40, .inl u8)), (ad 0, .inr (2, [.int (d.1 0), .int (d.1 1), .int (d.1 2), .int (d.1 3), .ref (ad 1), .int (d.1 4), .ref (ad 11), .ref (ad 12), .ref (ad 2), .ref (ad 3), .int (d.1 5), .int (d.1 6), .int (d.1 7), .int (d.1 8)])), (ad 2, .inr (8, [.int (d.1 10), .ref (ad 13), .ref (ad 14), .ref (ad 15), .ref (ad 16), .ref (ad 17), .ref (ad 18), .ref (ad 19)])), (ad 13, .inl (y 0, 16, .inl (d.2 9))), (ad 14, .inl (y 0, 16, .inl (d.2 10))), (ad 15, .inl (y 0, 16, .inl (d.2 11))), (ad 16, .inl (y 0, 16, .inl (d.2 12))), (ad 17, .inl (y 0, 16, .inl (d.2 13))), (ad 18, .inl (y 0, 16, .inl (d.2 14))), (ad 19, .inl (y 0, 16, .inl (d.2 15))), (h, .inr (7, [.int (sd + 1), .int (((u2.1 + r4) - (if 0 < (u2.1 + r4) - (d.1 2) then (u2.1 + r4) - (d.1 2) else 0)) - (if r7 < (u2.1 + r4) - (if 0 < (u2.1 + r4) - (d.1 2) then (u2.1 + r4) - (d.1 2) else 0) then r7 else (u2.1 + r4) - (if 0 < (u2.1 + r4) - (d.1 2) then (u2.1 + r4) - (d.1 2) else 0))), .int u1.1, .ref (sa 0), .ref (sa 1), .ref (sa 2), .ref (sa 3), .ref (sa 4), .ref (sa 5), .ref (sa 6)])), (sa 1, .inl (y 0, 9, .inl u2.2.1)), (sa 3, .inl (y 0, 6, .inl u14.1)), (sa 4, .inl (y 0, 6, .inl u14.2.1)), (sa 5, .inl (y 0, 16, .inl u14.2.2))]) rfl rfl rfl (nl rfl) rfl d_Days_pass_210 ?_
      exact j_vret (pc := 213) C hr ((fun k => [sd + 1, ((u2.1 + r4) - (if 0 < (u2.1 + r4) - (d.1 2) then (u2.1 + r4) - (d.1 2) else 0)) - (if r7 < (u2.1 + r4) - (if 0 < (u2.1 + r4) - (d.1 2) then (u2.1 + r4) - (d.1 2) else 0) then r7 else (u2.1 + r4) - (if 0 < (u2.1 + r4) - (d.1 2) then (u2.1 + r4) - (d.1 2) else 0)), u1.1].getD k 0, fun k => [u1.2, u2.2.1, u14.1, u14.2.1, u14.2.2].getD k (fun _ => 0), fun k => [u2.2.2.1, (vp_updL (vp_updL (vp_updL u2.2.2.2 1 ((u2.2.2.2 1) + r4.toInt64)) 2 (((vp_updL u2.2.2.2 1 ((u2.2.2.2 1) + r4.toInt64)) 2) + ((if 0 < (u2.1 + r4) - (d.1 2) then (u2.1 + r4) - (d.1 2) else 0).toInt64))) 4 (((vp_updL (vp_updL u2.2.2.2 1 ((u2.2.2.2 1) + r4.toInt64)) 2 (((vp_updL u2.2.2.2 1 ((u2.2.2.2 1) + r4.toInt64)) 2) + ((if 0 < (u2.1 + r4) - (d.1 2) then (u2.1 + r4) - (d.1 2) else 0).toInt64))) 4) + ((if r7 < (u2.1 + r4) - (if 0 < (u2.1 + r4) - (d.1 2) then (u2.1 + r4) - (d.1 2) else 0) then r7 else (u2.1 + r4) - (if 0 < (u2.1 + r4) - (d.1 2) then (u2.1 + r4) - (d.1 2) else 0)).toInt64)))].getD k (fun _ => 0)), u8) trivial [20, 5, 21, 13, 0, 6, 7, 8, 1, 9, 3, 2, 4, 22, 23, 24, 25, 26, 27, 28, 14, 15, 16, 17, 18, 19, 29, 10, 30, 11, 31, 32, 33, 12] rfl (by decide) (by decide) (by decide) d_Days_pass_213
  · refine j_aload_n (pc := 160) C d_Days_pass_160 rfl 4 rfl ?_
    refine j_get (pc := 161) C gf_Days_94 33 rfl rfl d_Days_pass_161 ?_
    refine j_goto (pc := 164) C (tgt := 168) d_Days_pass_164 (by decide) ?_
    refine j_istore (pc := 168) C (lv' := [(7, .int (d.1 6)), (6, .int (if r7 < (u2.1 + r4) - (if 0 < (u2.1 + r4) - (d.1 2) then (u2.1 + r4) - (d.1 2) else 0) then r7 else (u2.1 + r4) - (if 0 < (u2.1 + r4) - (d.1 2) then (u2.1 + r4) - (d.1 2) else 0))), (5, .int (if 0 < (u2.1 + r4) - (d.1 2) then (u2.1 + r4) - (d.1 2) else 0)), (4, .int (u2.1 + r4)), (3, .int r4), (0, .ref (ad 0)), (1, .ref h), (2, .int va)]) d_Days_pass_168 (by decide) rfl ?_
    refine j_iload (pc := 170) C d_Days_pass_170 0 rfl ?_
    refine j_aload_n (pc := 172) C d_Days_pass_172 rfl 5 rfl ?_
    refine j_iload (pc := 173) C d_Days_pass_173 3 rfl ?_
    refine j_callVi (pc := 175) C (c_levelAt l D y ad d (u2.1 + r4)) kw_Days_65 kv_Lake_levelAt 0 2 rfl rfl ⟨by decide, by decide⟩ ⟨by decide, by decide⟩ (wr := [(ad 2, .inr (8, [.int (d.1 10), .ref (ad 13), .ref (ad 14), .ref (ad 15), .ref (ad 16), .ref (ad 17), .ref (ad 18), .ref (ad 19)])), (ad 4, .inl (y 0, 9, .inl (d.2 0))), (ad 8, .inl (y 0, 9, .inl (d.2 4))), (ad 11, .inl (y 0, 6, .inl (d.2 7))), (ad 13, .inl (y 0, 16, .inl (d.2 9))), (ad 14, .inl (y 0, 16, .inl (d.2 10))), (ad 15, .inl (y 0, 16, .inl (d.2 11))), (ad 16, .inl (y 0, 16, .inl (d.2 12))), (ad 17, .inl (y 0, 16, .inl (d.2 13))), (ad 18, .inl (y 0, 16, .inl (d.2 14))), (ad 19, .inl (y 0, 16, .inl (d.2 15))), (sa 3, .inl (y 0, 6, .inl f3)), (sa 4, .inl (y 0, 6, .inl f4)), (sa 5, .inl (y 0, 16, .inl f5)), (ad 10, .inl (y 0, 9, .inl (d.2 6))), (ad 12, .inl (y 0, 6, .inl (d.2 8))), (ad 1, .inr (1, [.int (d.1 9), .ref (ad 4), .ref (ad 5), .ref (ad 6), .ref (ad 7), .ref (ad 8), .ref (ad 9), .ref (ad 10)])), (ad 5, .inl (y 0, 9, .inl (d.2 1))), (ad 6, .inl (y 0, 9, .inl (d.2 2))), (ad 7, .inl (y 0, 9, .inl (d.2 3))), (ad 9, .inl (y 0, 9, .inl (d.2 5))), (h, .inr (7, [.int sd, .int (((u2.1 + r4) - (if 0 < (u2.1 + r4) - (d.1 2) then (u2.1 + r4) - (d.1 2) else 0)) - (if r7 < (u2.1 + r4) - (if 0 < (u2.1 + r4) - (d.1 2) then (u2.1 + r4) - (d.1 2) else 0) then r7 else (u2.1 + r4) - (if 0 < (u2.1 + r4) - (d.1 2) then (u2.1 + r4) - (d.1 2) else 0))), .int u1.1, .ref (sa 0), .ref (sa 1), .ref (sa 2), .ref (sa 3), .ref (sa 4), .ref (sa 5), .ref (sa 6)])), (sa 0, .inl (y 0, 9, .inl u1.2)), (sa 1, .inl (y 0, 9, .inl u2.2.1)), (sa 2, .inl (y 1, 9, .inr (.inl u2.2.2.1))), (sa 6, .inl (y 1, 5, .inr (.inl (vp_updL (vp_updL (vp_updL u2.2.2.2 1 ((u2.2.2.2 1) + r4.toInt64)) 2 (((vp_updL u2.2.2.2 1 ((u2.2.2.2 1) + r4.toInt64)) 2) + ((if 0 < (u2.1 + r4) - (d.1 2) then (u2.1 + r4) - (d.1 2) else 0).toInt64))) 4 (((vp_updL (vp_updL u2.2.2.2 1 ((u2.2.2.2 1) + r4.toInt64)) 2 (((vp_updL u2.2.2.2 1 ((u2.2.2.2 1) + r4.toInt64)) 2) + ((if 0 < (u2.1 + r4) - (d.1 2) then (u2.1 + r4) - (d.1 2) else 0).toInt64))) 4) + ((if r7 < (u2.1 + r4) - (if 0 < (u2.1 + r4) - (d.1 2) then (u2.1 + r4) - (d.1 2) else 0) then r7 else (u2.1 + r4) - (if 0 < (u2.1 + r4) - (d.1 2) then (u2.1 + r4) - (d.1 2) else 0)).toInt64)))))), (ad 3, .inr (6, [.int (d.1 11), .int (d.1 12), .ref (ad 20), .ref (ad 21), .ref (ad 22), .ref (ad 23), .ref (ad 24), .ref (ad 25)])), (ad 20, .inl (y 0, 8, .inl (d.2 16))), (ad 21, .inl (y 0, 8, .inl (d.2 17))), (ad 22, .inl (y 0, 8, .inl (d.2 18))), (ad 23, .inl (y 0, 8, .inl (d.2 19))), (ad 24, .inl (y 0, 1600, .inl (d.2 20))), (ad 25, .inl (y 0, 40, .inl u8))]) [33] [0, 1, 2, 3, 4, 5, 6, 7, 8, 9, 10, 11, 12, 13, 14, 15, 16, 17, 18, 19, 20, 21, 22, 23, 24, 25, 26, 27, 28, 29, 30, 31, 32] rfl rfl (by decide) (by decide) (by decide) (As := [.int (u2.1 + r4)]) (rest := [.int (d.1 6)]) rfl (nb rfl) rfl d_Days_pass_175 (fun r15 _ hr15 => ?_)
    refine j_ws (ws' := [(ad 2, .inr (8, [.int (d.1 10), .ref (ad 13), .ref (ad 14), .ref (ad 15), .ref (ad 16), .ref (ad 17), .ref (ad 18), .ref (ad 19)])), (ad 4, .inl (y 0, 9, .inl (d.2 0))), (ad 8, .inl (y 0, 9, .inl (d.2 4))), (ad 11, .inl (y 0, 6, .inl (d.2 7))), (ad 13, .inl (y 0, 16, .inl (d.2 9))), (ad 14, .inl (y 0, 16, .inl (d.2 10))), (ad 15, .inl (y 0, 16, .inl (d.2 11))), (ad 16, .inl (y 0, 16, .inl (d.2 12))), (ad 17, .inl (y 0, 16, .inl (d.2 13))), (ad 18, .inl (y 0, 16, .inl (d.2 14))), (ad 19, .inl (y 0, 16, .inl (d.2 15))), (sa 3, .inl (y 0, 6, .inl f3)), (sa 4, .inl (y 0, 6, .inl f4)), (sa 5, .inl (y 0, 16, .inl f5)), (ad 10, .inl (y 0, 9, .inl (d.2 6))), (ad 12, .inl (y 0, 6, .inl (d.2 8))), (ad 1, .inr (1, [.int (d.1 9), .ref (ad 4), .ref (ad 5), .ref (ad 6), .ref (ad 7), .ref (ad 8), .ref (ad 9), .ref (ad 10)])), (ad 5, .inl (y 0, 9, .inl (d.2 1))), (ad 6, .inl (y 0, 9, .inl (d.2 2))), (ad 7, .inl (y 0, 9, .inl (d.2 3))), (ad 9, .inl (y 0, 9, .inl (d.2 5))), (h, .inr (7, [.int sd, .int (((u2.1 + r4) - (if 0 < (u2.1 + r4) - (d.1 2) then (u2.1 + r4) - (d.1 2) else 0)) - (if r7 < (u2.1 + r4) - (if 0 < (u2.1 + r4) - (d.1 2) then (u2.1 + r4) - (d.1 2) else 0) then r7 else (u2.1 + r4) - (if 0 < (u2.1 + r4) - (d.1 2) then (u2.1 + r4) - (d.1 2) else 0))), .int u1.1, .ref (sa 0), .ref (sa 1), .ref (sa 2), .ref (sa 3), .ref (sa 4), .ref (sa 5), .ref (sa 6)])), (sa 0, .inl (y 0, 9, .inl u1.2)), (sa 1, .inl (y 0, 9, .inl u2.2.1)), (sa 2, .inl (y 1, 9, .inr (.inl u2.2.2.1))), (sa 6, .inl (y 1, 5, .inr (.inl (vp_updL (vp_updL (vp_updL u2.2.2.2 1 ((u2.2.2.2 1) + r4.toInt64)) 2 (((vp_updL u2.2.2.2 1 ((u2.2.2.2 1) + r4.toInt64)) 2) + ((if 0 < (u2.1 + r4) - (d.1 2) then (u2.1 + r4) - (d.1 2) else 0).toInt64))) 4 (((vp_updL (vp_updL u2.2.2.2 1 ((u2.2.2.2 1) + r4.toInt64)) 2 (((vp_updL u2.2.2.2 1 ((u2.2.2.2 1) + r4.toInt64)) 2) + ((if 0 < (u2.1 + r4) - (d.1 2) then (u2.1 + r4) - (d.1 2) else 0).toInt64))) 4) + ((if r7 < (u2.1 + r4) - (if 0 < (u2.1 + r4) - (d.1 2) then (u2.1 + r4) - (d.1 2) else 0) then r7 else (u2.1 + r4) - (if 0 < (u2.1 + r4) - (d.1 2) then (u2.1 + r4) - (d.1 2) else 0)).toInt64)))))), (ad 3, .inr (6, [.int (d.1 11), .int (d.1 12), .ref (ad 20), .ref (ad 21), .ref (ad 22), .ref (ad 23), .ref (ad 24), .ref (ad 25)])), (ad 20, .inl (y 0, 8, .inl (d.2 16))), (ad 21, .inl (y 0, 8, .inl (d.2 17))), (ad 22, .inl (y 0, 8, .inl (d.2 18))), (ad 23, .inl (y 0, 8, .inl (d.2 19))), (ad 24, .inl (y 0, 1600, .inl (d.2 20))), (ad 25, .inl (y 0, 40, .inl u8)), (ad 0, .inr (2, [.int (d.1 0), .int (d.1 1), .int (d.1 2), .int (d.1 3), .ref (ad 1), .int (d.1 4), .ref (ad 11), .ref (ad 12), .ref (ad 2), .ref (ad 3), .int (d.1 5), .int (d.1 6), .int (d.1 7), .int (d.1 8)]))]) rfl ?_
    refine j_aload_n (pc := 178) C d_Days_pass_178 rfl 5 rfl ?_
    refine j_get (pc := 179) C gf_Days_97 33 rfl rfl d_Days_pass_179 ?_
    refine j_icmp_le (pc := 182) C (tgt := 192) d_Days_pass_182 (by decide) (fun c16 => ?_) (fun c16 => ?_)
    · refine j_iconst (pc := 192) C (v := 0) d_Days_pass_192 (by decide) ?_
      refine j_iadd (pc := 193) C (v := (d.1 6) + 0) d_Days_pass_193 rfl ?_
      refine j_istore (pc := 194) C (lv' := [(7, .int ((d.1 6) + 0)), (6, .int (if r7 < (u2.1 + r4) - (if 0 < (u2.1 + r4) - (d.1 2) then (u2.1 + r4) - (d.1 2) else 0) then r7 else (u2.1 + r4) - (if 0 < (u2.1 + r4) - (d.1 2) then (u2.1 + r4) - (d.1 2) else 0))), (5, .int (if 0 < (u2.1 + r4) - (d.1 2) then (u2.1 + r4) - (d.1 2) else 0)), (4, .int (u2.1 + r4)), (3, .int r4), (0, .ref (ad 0)), (1, .ref h), (2, .int va)]) d_Days_pass_194 (by decide) rfl ?_
      refine j_aload_n (pc := 196) C d_Days_pass_196 rfl 5 rfl ?_
      refine j_aload_n (pc := 197) C d_Days_pass_197 rfl 6 rfl ?_
      refine j_iload (pc := 198) C d_Days_pass_198 0 rfl ?_
      refine j_callSv (pc := 200) C (c_giveWorth l D y ad d n4 n10 h sa sd (((u2.1 + r4) - (if 0 < (u2.1 + r4) - (d.1 2) then (u2.1 + r4) - (d.1 2) else 0)) - (if r7 < (u2.1 + r4) - (if 0 < (u2.1 + r4) - (d.1 2) then (u2.1 + r4) - (d.1 2) else 0) then r7 else (u2.1 + r4) - (if 0 < (u2.1 + r4) - (d.1 2) then (u2.1 + r4) - (d.1 2) else 0))) u1.1 u2.2.1 f3 f4 f5 ((d.1 6) + 0) h4 b4 h10 b10 hT) kw_Days_103 ks_Days_giveWorth ⟨by decide, by decide⟩ ⟨by decide, by decide⟩ (wr := [(ad 4, .inl (y 0, 9, .inl (d.2 0))), (ad 8, .inl (y 0, 9, .inl (d.2 4))), (ad 11, .inl (y 0, 6, .inl (d.2 7))), (ad 10, .inl (y 0, 9, .inl (d.2 6))), (ad 12, .inl (y 0, 6, .inl (d.2 8))), (ad 1, .inr (1, [.int (d.1 9), .ref (ad 4), .ref (ad 5), .ref (ad 6), .ref (ad 7), .ref (ad 8), .ref (ad 9), .ref (ad 10)])), (ad 5, .inl (y 0, 9, .inl (d.2 1))), (ad 6, .inl (y 0, 9, .inl (d.2 2))), (ad 7, .inl (y 0, 9, .inl (d.2 3))), (ad 9, .inl (y 0, 9, .inl (d.2 5))), (sa 0, .inl (y 0, 9, .inl u1.2)), (sa 2, .inl (y 1, 9, .inr (.inl u2.2.2.1))), (sa 6, .inl (y 1, 5, .inr (.inl (vp_updL (vp_updL (vp_updL u2.2.2.2 1 ((u2.2.2.2 1) + r4.toInt64)) 2 (((vp_updL u2.2.2.2 1 ((u2.2.2.2 1) + r4.toInt64)) 2) + ((if 0 < (u2.1 + r4) - (d.1 2) then (u2.1 + r4) - (d.1 2) else 0).toInt64))) 4 (((vp_updL (vp_updL u2.2.2.2 1 ((u2.2.2.2 1) + r4.toInt64)) 2 (((vp_updL u2.2.2.2 1 ((u2.2.2.2 1) + r4.toInt64)) 2) + ((if 0 < (u2.1 + r4) - (d.1 2) then (u2.1 + r4) - (d.1 2) else 0).toInt64))) 4) + ((if r7 < (u2.1 + r4) - (if 0 < (u2.1 + r4) - (d.1 2) then (u2.1 + r4) - (d.1 2) else 0) then r7 else (u2.1 + r4) - (if 0 < (u2.1 + r4) - (d.1 2) then (u2.1 + r4) - (d.1 2) else 0)).toInt64)))))), (ad 3, .inr (6, [.int (d.1 11), .int (d.1 12), .ref (ad 20), .ref (ad 21), .ref (ad 22), .ref (ad 23), .ref (ad 24), .ref (ad 25)])), (ad 20, .inl (y 0, 8, .inl (d.2 16))), (ad 21, .inl (y 0, 8, .inl (d.2 17))), (ad 22, .inl (y 0, 8, .inl (d.2 18))), (ad 23, .inl (y 0, 8, .inl (d.2 19))), (ad 24, .inl (y 0, 1600, .inl (d.2 20))), (ad 25, .inl (y 0, 40, .inl u8))]) [33, 0, 4, 5, 6, 7, 8, 9, 10, 21, 23, 11, 12, 13] [1, 2, 3, 14, 15, 16, 17, 18, 19, 20, 22, 24, 25, 26, 27, 28, 29, 30, 31, 32] rfl rfl (by decide) (by decide) (by decide) (As := [.ref (ad 0), .ref h, .int ((d.1 6) + 0)]) (rest := []) rfl (nb rfl) rfl d_Days_pass_200 (fun u17 _ => ?_)
      refine j_ws (ws' := [(ad 4, .inl (y 0, 9, .inl (d.2 0))), (ad 8, .inl (y 0, 9, .inl (d.2 4))), (ad 11, .inl (y 0, 6, .inl (d.2 7))), (ad 10, .inl (y 0, 9, .inl (d.2 6))), (ad 12, .inl (y 0, 6, .inl (d.2 8))), (ad 1, .inr (1, [.int (d.1 9), .ref (ad 4), .ref (ad 5), .ref (ad 6), .ref (ad 7), .ref (ad 8), .ref (ad 9), .ref (ad 10)])), (ad 5, .inl (y 0, 9, .inl (d.2 1))), (ad 6, .inl (y 0, 9, .inl (d.2 2))), (ad 7, .inl (y 0, 9, .inl (d.2 3))), (ad 9, .inl (y 0, 9, .inl (d.2 5))), (sa 0, .inl (y 0, 9, .inl u1.2)), (sa 2, .inl (y 1, 9, .inr (.inl u2.2.2.1))), (sa 6, .inl (y 1, 5, .inr (.inl (vp_updL (vp_updL (vp_updL u2.2.2.2 1 ((u2.2.2.2 1) + r4.toInt64)) 2 (((vp_updL u2.2.2.2 1 ((u2.2.2.2 1) + r4.toInt64)) 2) + ((if 0 < (u2.1 + r4) - (d.1 2) then (u2.1 + r4) - (d.1 2) else 0).toInt64))) 4 (((vp_updL (vp_updL u2.2.2.2 1 ((u2.2.2.2 1) + r4.toInt64)) 2 (((vp_updL u2.2.2.2 1 ((u2.2.2.2 1) + r4.toInt64)) 2) + ((if 0 < (u2.1 + r4) - (d.1 2) then (u2.1 + r4) - (d.1 2) else 0).toInt64))) 4) + ((if r7 < (u2.1 + r4) - (if 0 < (u2.1 + r4) - (d.1 2) then (u2.1 + r4) - (d.1 2) else 0) then r7 else (u2.1 + r4) - (if 0 < (u2.1 + r4) - (d.1 2) then (u2.1 + r4) - (d.1 2) else 0)).toInt64)))))), (ad 3, .inr (6, [.int (d.1 11), .int (d.1 12), .ref (ad 20), .ref (ad 21), .ref (ad 22), .ref (ad 23), .ref (ad 24), .ref (ad 25)])), (ad 20, .inl (y 0, 8, .inl (d.2 16))), (ad 21, .inl (y 0, 8, .inl (d.2 17))), (ad 22, .inl (y 0, 8, .inl (d.2 18))), (ad 23, .inl (y 0, 8, .inl (d.2 19))), (ad 24, .inl (y 0, 1600, .inl (d.2 20))), (ad 25, .inl (y 0, 40, .inl u8)), (ad 0, .inr (2, [.int (d.1 0), .int (d.1 1), .int (d.1 2), .int (d.1 3), .ref (ad 1), .int (d.1 4), .ref (ad 11), .ref (ad 12), .ref (ad 2), .ref (ad 3), .int (d.1 5), .int (d.1 6), .int (d.1 7), .int (d.1 8)])), (ad 2, .inr (8, [.int (d.1 10), .ref (ad 13), .ref (ad 14), .ref (ad 15), .ref (ad 16), .ref (ad 17), .ref (ad 18), .ref (ad 19)])), (ad 13, .inl (y 0, 16, .inl (d.2 9))), (ad 14, .inl (y 0, 16, .inl (d.2 10))), (ad 15, .inl (y 0, 16, .inl (d.2 11))), (ad 16, .inl (y 0, 16, .inl (d.2 12))), (ad 17, .inl (y 0, 16, .inl (d.2 13))), (ad 18, .inl (y 0, 16, .inl (d.2 14))), (ad 19, .inl (y 0, 16, .inl (d.2 15))), (h, .inr (7, [.int sd, .int (((u2.1 + r4) - (if 0 < (u2.1 + r4) - (d.1 2) then (u2.1 + r4) - (d.1 2) else 0)) - (if r7 < (u2.1 + r4) - (if 0 < (u2.1 + r4) - (d.1 2) then (u2.1 + r4) - (d.1 2) else 0) then r7 else (u2.1 + r4) - (if 0 < (u2.1 + r4) - (d.1 2) then (u2.1 + r4) - (d.1 2) else 0))), .int u1.1, .ref (sa 0), .ref (sa 1), .ref (sa 2), .ref (sa 3), .ref (sa 4), .ref (sa 5), .ref (sa 6)])), (sa 1, .inl (y 0, 9, .inl u2.2.1)), (sa 3, .inl (y 0, 6, .inl u17.1)), (sa 4, .inl (y 0, 6, .inl u17.2.1)), (sa 5, .inl (y 0, 16, .inl u17.2.2))]) rfl ?_
      refine j_aload_n (pc := 203) C d_Days_pass_203 rfl 6 rfl ?_
      refine j_dup (pc := 204) C d_Days_pass_204 rfl ?_
      refine j_get (pc := 205) C gf_Days_59 29 rfl rfl d_Days_pass_205 ?_
      refine j_iconst (pc := 208) C (v := 1) d_Days_pass_208 (by decide) ?_
      refine j_iadd (pc := 209) C (v := sd + 1) d_Days_pass_209 rfl ?_
      refine j_put (pc := 210) C pf_Days_59 29 (ws' := [(ad 4, .inl (y 0, 9, .inl (d.2 0))), (ad 8, .inl (y 0, 9, .inl (d.2 4))), (ad 11, .inl (y 0, 6, .inl (d.2 7))), (ad 10, .inl (y 0, 9, .inl (d.2 6))), (ad 12, .inl (y 0, 6, .inl (d.2 8))), (ad 1, .inr (1, [.int (d.1 9), .ref (ad 4), .ref (ad 5), .ref (ad 6), .ref (ad 7), .ref (ad 8), .ref (ad 9), .ref (ad 10)])), (ad 5, .inl (y 0, 9, .inl (d.2 1))), (ad 6, .inl (y 0, 9, .inl (d.2 2))), (ad 7, .inl (y 0, 9, .inl (d.2 3))), (ad 9, .inl (y 0, 9, .inl (d.2 5))), (sa 0, .inl (y 0, 9, .inl u1.2)), (sa 2, .inl (y 1, 9, .inr (.inl u2.2.2.1))), (sa 6, .inl (y 1, 5, .inr (.inl (vp_updL (vp_updL (vp_updL u2.2.2.2 1 ((u2.2.2.2 1) + r4.toInt64)) 2 (((vp_updL u2.2.2.2 1 ((u2.2.2.2 1) + r4.toInt64)) 2) + ((if 0 < (u2.1 + r4) - (d.1 2) then (u2.1 + r4) - (d.1 2) else 0).toInt64))) 4 (((vp_updL (vp_updL u2.2.2.2 1 ((u2.2.2.2 1) + r4.toInt64)) 2 (((vp_updL u2.2.2.2 1 ((u2.2.2.2 1) + r4.toInt64)) 2) + ((if 0 < (u2.1 + r4) - (d.1 2) then (u2.1 + r4) - (d.1 2) else 0).toInt64))) 4) + ((if r7 < (u2.1 + r4) - (if 0 < (u2.1 + r4) - (d.1 2) then (u2.1 + r4) - (d.1 2) else 0) then r7 else (u2.1 + r4) - (if 0 < (u2.1 + r4) - (d.1 2) then (u2.1 + r4) - (d.1 2) else 0)).toInt64)))))), (ad 3, .inr (6, [.int (d.1 11), .int (d.1 12), .ref (ad 20), .ref (ad 21), .ref (ad 22), .ref (ad 23), .ref (ad 24), .ref (ad 25)])), (ad 20, .inl (y 0, 8, .inl (d.2 16))), (ad 21, .inl (y 0, 8, .inl (d.2 17))), (ad 22, .inl (y 0, 8, .inl (d.2 18))), (ad 23, .inl (y 0, 8, .inl (d.2 19))), (ad 24, .inl (y 0, 1600, .inl (d.2 20))), (ad 25, .inl (y 0, 40, .inl u8)), (ad 0, .inr (2, [.int (d.1 0), .int (d.1 1), .int (d.1 2), .int (d.1 3), .ref (ad 1), .int (d.1 4), .ref (ad 11), .ref (ad 12), .ref (ad 2), .ref (ad 3), .int (d.1 5), .int (d.1 6), .int (d.1 7), .int (d.1 8)])), (ad 2, .inr (8, [.int (d.1 10), .ref (ad 13), .ref (ad 14), .ref (ad 15), .ref (ad 16), .ref (ad 17), .ref (ad 18), .ref (ad 19)])), (ad 13, .inl (y 0, 16, .inl (d.2 9))), (ad 14, .inl (y 0, 16, .inl (d.2 10))), (ad 15, .inl (y 0, 16, .inl (d.2 11))), (ad 16, .inl (y 0, 16, .inl (d.2 12))), (ad 17, .inl (y 0, 16, .inl (d.2 13))), (ad 18, .inl (y 0, 16, .inl (d.2 14))), (ad 19, .inl (y 0, 16, .inl (d.2 15))), (h, .inr (7, [.int (sd + 1), .int (((u2.1 + r4) - (if 0 < (u2.1 + r4) - (d.1 2) then (u2.1 + r4) - (d.1 2) else 0)) - (if r7 < (u2.1 + r4) - (if 0 < (u2.1 + r4) - (d.1 2) then (u2.1 + r4) - (d.1 2) else 0) then r7 else (u2.1 + r4) - (if 0 < (u2.1 + r4) - (d.1 2) then (u2.1 + r4) - (d.1 2) else 0))), .int u1.1, .ref (sa 0), .ref (sa 1), .ref (sa 2), .ref (sa 3), .ref (sa 4), .ref (sa 5), .ref (sa 6)])), (sa 1, .inl (y 0, 9, .inl u2.2.1)), (sa 3, .inl (y 0, 6, .inl u17.1)), (sa 4, .inl (y 0, 6, .inl u17.2.1)), (sa 5, .inl (y 0, 16, .inl u17.2.2))]) rfl rfl rfl (nl rfl) rfl d_Days_pass_210 ?_
      exact j_vret (pc := 213) C hr ((fun k => [sd + 1, ((u2.1 + r4) - (if 0 < (u2.1 + r4) - (d.1 2) then (u2.1 + r4) - (d.1 2) else 0)) - (if r7 < (u2.1 + r4) - (if 0 < (u2.1 + r4) - (d.1 2) then (u2.1 + r4) - (d.1 2) else 0) then r7 else (u2.1 + r4) - (if 0 < (u2.1 + r4) - (d.1 2) then (u2.1 + r4) - (d.1 2) else 0)), u1.1].getD k 0, fun k => [u1.2, u2.2.1, u17.1, u17.2.1, u17.2.2].getD k (fun _ => 0), fun k => [u2.2.2.1, (vp_updL (vp_updL (vp_updL u2.2.2.2 1 ((u2.2.2.2 1) + r4.toInt64)) 2 (((vp_updL u2.2.2.2 1 ((u2.2.2.2 1) + r4.toInt64)) 2) + ((if 0 < (u2.1 + r4) - (d.1 2) then (u2.1 + r4) - (d.1 2) else 0).toInt64))) 4 (((vp_updL (vp_updL u2.2.2.2 1 ((u2.2.2.2 1) + r4.toInt64)) 2 (((vp_updL u2.2.2.2 1 ((u2.2.2.2 1) + r4.toInt64)) 2) + ((if 0 < (u2.1 + r4) - (d.1 2) then (u2.1 + r4) - (d.1 2) else 0).toInt64))) 4) + ((if r7 < (u2.1 + r4) - (if 0 < (u2.1 + r4) - (d.1 2) then (u2.1 + r4) - (d.1 2) else 0) then r7 else (u2.1 + r4) - (if 0 < (u2.1 + r4) - (d.1 2) then (u2.1 + r4) - (d.1 2) else 0)).toInt64)))].getD k (fun _ => 0)), u8) trivial [20, 5, 21, 13, 0, 6, 7, 8, 1, 9, 3, 2, 4, 22, 23, 24, 25, 26, 27, 28, 14, 15, 16, 17, 18, 19, 29, 10, 30, 11, 31, 32, 33, 12] rfl (by decide) (by decide) (by decide) d_Days_pass_213
    · refine j_aload_n (pc := 185) C d_Days_pass_185 rfl 5 rfl ?_
      refine j_get (pc := 186) C gf_Days_100 33 rfl rfl d_Days_pass_186 ?_
      refine j_goto (pc := 189) C (tgt := 193) d_Days_pass_189 (by decide) ?_
      refine j_iadd (pc := 193) C (v := (d.1 6) + (d.1 8)) d_Days_pass_193 rfl ?_
      refine j_istore (pc := 194) C (lv' := [(7, .int ((d.1 6) + (d.1 8))), (6, .int (if r7 < (u2.1 + r4) - (if 0 < (u2.1 + r4) - (d.1 2) then (u2.1 + r4) - (d.1 2) else 0) then r7 else (u2.1 + r4) - (if 0 < (u2.1 + r4) - (d.1 2) then (u2.1 + r4) - (d.1 2) else 0))), (5, .int (if 0 < (u2.1 + r4) - (d.1 2) then (u2.1 + r4) - (d.1 2) else 0)), (4, .int (u2.1 + r4)), (3, .int r4), (0, .ref (ad 0)), (1, .ref h), (2, .int va)]) d_Days_pass_194 (by decide) rfl ?_
      refine j_aload_n (pc := 196) C d_Days_pass_196 rfl 5 rfl ?_
      refine j_aload_n (pc := 197) C d_Days_pass_197 rfl 6 rfl ?_
      refine j_iload (pc := 198) C d_Days_pass_198 0 rfl ?_
      refine j_callSv (pc := 200) C (c_giveWorth l D y ad d n4 n10 h sa sd (((u2.1 + r4) - (if 0 < (u2.1 + r4) - (d.1 2) then (u2.1 + r4) - (d.1 2) else 0)) - (if r7 < (u2.1 + r4) - (if 0 < (u2.1 + r4) - (d.1 2) then (u2.1 + r4) - (d.1 2) else 0) then r7 else (u2.1 + r4) - (if 0 < (u2.1 + r4) - (d.1 2) then (u2.1 + r4) - (d.1 2) else 0))) u1.1 u2.2.1 f3 f4 f5 ((d.1 6) + (d.1 8)) h4 b4 h10 b10 hT) kw_Days_103 ks_Days_giveWorth ⟨by decide, by decide⟩ ⟨by decide, by decide⟩ (wr := [(ad 4, .inl (y 0, 9, .inl (d.2 0))), (ad 8, .inl (y 0, 9, .inl (d.2 4))), (ad 11, .inl (y 0, 6, .inl (d.2 7))), (ad 10, .inl (y 0, 9, .inl (d.2 6))), (ad 12, .inl (y 0, 6, .inl (d.2 8))), (ad 1, .inr (1, [.int (d.1 9), .ref (ad 4), .ref (ad 5), .ref (ad 6), .ref (ad 7), .ref (ad 8), .ref (ad 9), .ref (ad 10)])), (ad 5, .inl (y 0, 9, .inl (d.2 1))), (ad 6, .inl (y 0, 9, .inl (d.2 2))), (ad 7, .inl (y 0, 9, .inl (d.2 3))), (ad 9, .inl (y 0, 9, .inl (d.2 5))), (sa 0, .inl (y 0, 9, .inl u1.2)), (sa 2, .inl (y 1, 9, .inr (.inl u2.2.2.1))), (sa 6, .inl (y 1, 5, .inr (.inl (vp_updL (vp_updL (vp_updL u2.2.2.2 1 ((u2.2.2.2 1) + r4.toInt64)) 2 (((vp_updL u2.2.2.2 1 ((u2.2.2.2 1) + r4.toInt64)) 2) + ((if 0 < (u2.1 + r4) - (d.1 2) then (u2.1 + r4) - (d.1 2) else 0).toInt64))) 4 (((vp_updL (vp_updL u2.2.2.2 1 ((u2.2.2.2 1) + r4.toInt64)) 2 (((vp_updL u2.2.2.2 1 ((u2.2.2.2 1) + r4.toInt64)) 2) + ((if 0 < (u2.1 + r4) - (d.1 2) then (u2.1 + r4) - (d.1 2) else 0).toInt64))) 4) + ((if r7 < (u2.1 + r4) - (if 0 < (u2.1 + r4) - (d.1 2) then (u2.1 + r4) - (d.1 2) else 0) then r7 else (u2.1 + r4) - (if 0 < (u2.1 + r4) - (d.1 2) then (u2.1 + r4) - (d.1 2) else 0)).toInt64)))))), (ad 3, .inr (6, [.int (d.1 11), .int (d.1 12), .ref (ad 20), .ref (ad 21), .ref (ad 22), .ref (ad 23), .ref (ad 24), .ref (ad 25)])), (ad 20, .inl (y 0, 8, .inl (d.2 16))), (ad 21, .inl (y 0, 8, .inl (d.2 17))), (ad 22, .inl (y 0, 8, .inl (d.2 18))), (ad 23, .inl (y 0, 8, .inl (d.2 19))), (ad 24, .inl (y 0, 1600, .inl (d.2 20))), (ad 25, .inl (y 0, 40, .inl u8))]) [33, 0, 4, 5, 6, 7, 8, 9, 10, 21, 23, 11, 12, 13] [1, 2, 3, 14, 15, 16, 17, 18, 19, 20, 22, 24, 25, 26, 27, 28, 29, 30, 31, 32] rfl rfl (by decide) (by decide) (by decide) (As := [.ref (ad 0), .ref h, .int ((d.1 6) + (d.1 8))]) (rest := []) rfl (nb rfl) rfl d_Days_pass_200 (fun u18 _ => ?_)
      refine j_ws (ws' := [(ad 4, .inl (y 0, 9, .inl (d.2 0))), (ad 8, .inl (y 0, 9, .inl (d.2 4))), (ad 11, .inl (y 0, 6, .inl (d.2 7))), (ad 10, .inl (y 0, 9, .inl (d.2 6))), (ad 12, .inl (y 0, 6, .inl (d.2 8))), (ad 1, .inr (1, [.int (d.1 9), .ref (ad 4), .ref (ad 5), .ref (ad 6), .ref (ad 7), .ref (ad 8), .ref (ad 9), .ref (ad 10)])), (ad 5, .inl (y 0, 9, .inl (d.2 1))), (ad 6, .inl (y 0, 9, .inl (d.2 2))), (ad 7, .inl (y 0, 9, .inl (d.2 3))), (ad 9, .inl (y 0, 9, .inl (d.2 5))), (sa 0, .inl (y 0, 9, .inl u1.2)), (sa 2, .inl (y 1, 9, .inr (.inl u2.2.2.1))), (sa 6, .inl (y 1, 5, .inr (.inl (vp_updL (vp_updL (vp_updL u2.2.2.2 1 ((u2.2.2.2 1) + r4.toInt64)) 2 (((vp_updL u2.2.2.2 1 ((u2.2.2.2 1) + r4.toInt64)) 2) + ((if 0 < (u2.1 + r4) - (d.1 2) then (u2.1 + r4) - (d.1 2) else 0).toInt64))) 4 (((vp_updL (vp_updL u2.2.2.2 1 ((u2.2.2.2 1) + r4.toInt64)) 2 (((vp_updL u2.2.2.2 1 ((u2.2.2.2 1) + r4.toInt64)) 2) + ((if 0 < (u2.1 + r4) - (d.1 2) then (u2.1 + r4) - (d.1 2) else 0).toInt64))) 4) + ((if r7 < (u2.1 + r4) - (if 0 < (u2.1 + r4) - (d.1 2) then (u2.1 + r4) - (d.1 2) else 0) then r7 else (u2.1 + r4) - (if 0 < (u2.1 + r4) - (d.1 2) then (u2.1 + r4) - (d.1 2) else 0)).toInt64)))))), (ad 3, .inr (6, [.int (d.1 11), .int (d.1 12), .ref (ad 20), .ref (ad 21), .ref (ad 22), .ref (ad 23), .ref (ad 24), .ref (ad 25)])), (ad 20, .inl (y 0, 8, .inl (d.2 16))), (ad 21, .inl (y 0, 8, .inl (d.2 17))), (ad 22, .inl (y 0, 8, .inl (d.2 18))), (ad 23, .inl (y 0, 8, .inl (d.2 19))), (ad 24, .inl (y 0, 1600, .inl (d.2 20))), (ad 25, .inl (y 0, 40, .inl u8)), (ad 0, .inr (2, [.int (d.1 0), .int (d.1 1), .int (d.1 2), .int (d.1 3), .ref (ad 1), .int (d.1 4), .ref (ad 11), .ref (ad 12), .ref (ad 2), .ref (ad 3), .int (d.1 5), .int (d.1 6), .int (d.1 7), .int (d.1 8)])), (ad 2, .inr (8, [.int (d.1 10), .ref (ad 13), .ref (ad 14), .ref (ad 15), .ref (ad 16), .ref (ad 17), .ref (ad 18), .ref (ad 19)])), (ad 13, .inl (y 0, 16, .inl (d.2 9))), (ad 14, .inl (y 0, 16, .inl (d.2 10))), (ad 15, .inl (y 0, 16, .inl (d.2 11))), (ad 16, .inl (y 0, 16, .inl (d.2 12))), (ad 17, .inl (y 0, 16, .inl (d.2 13))), (ad 18, .inl (y 0, 16, .inl (d.2 14))), (ad 19, .inl (y 0, 16, .inl (d.2 15))), (h, .inr (7, [.int sd, .int (((u2.1 + r4) - (if 0 < (u2.1 + r4) - (d.1 2) then (u2.1 + r4) - (d.1 2) else 0)) - (if r7 < (u2.1 + r4) - (if 0 < (u2.1 + r4) - (d.1 2) then (u2.1 + r4) - (d.1 2) else 0) then r7 else (u2.1 + r4) - (if 0 < (u2.1 + r4) - (d.1 2) then (u2.1 + r4) - (d.1 2) else 0))), .int u1.1, .ref (sa 0), .ref (sa 1), .ref (sa 2), .ref (sa 3), .ref (sa 4), .ref (sa 5), .ref (sa 6)])), (sa 1, .inl (y 0, 9, .inl u2.2.1)), (sa 3, .inl (y 0, 6, .inl u18.1)), (sa 4, .inl (y 0, 6, .inl u18.2.1)), (sa 5, .inl (y 0, 16, .inl u18.2.2))]) rfl ?_
      refine j_aload_n (pc := 203) C d_Days_pass_203 rfl 6 rfl ?_
      refine j_dup (pc := 204) C d_Days_pass_204 rfl ?_
      refine j_get (pc := 205) C gf_Days_59 29 rfl rfl d_Days_pass_205 ?_
      refine j_iconst (pc := 208) C (v := 1) d_Days_pass_208 (by decide) ?_
      refine j_iadd (pc := 209) C (v := sd + 1) d_Days_pass_209 rfl ?_
      refine j_put (pc := 210) C pf_Days_59 29 (ws' := [(ad 4, .inl (y 0, 9, .inl (d.2 0))), (ad 8, .inl (y 0, 9, .inl (d.2 4))), (ad 11, .inl (y 0, 6, .inl (d.2 7))), (ad 10, .inl (y 0, 9, .inl (d.2 6))), (ad 12, .inl (y 0, 6, .inl (d.2 8))), (ad 1, .inr (1, [.int (d.1 9), .ref (ad 4), .ref (ad 5), .ref (ad 6), .ref (ad 7), .ref (ad 8), .ref (ad 9), .ref (ad 10)])), (ad 5, .inl (y 0, 9, .inl (d.2 1))), (ad 6, .inl (y 0, 9, .inl (d.2 2))), (ad 7, .inl (y 0, 9, .inl (d.2 3))), (ad 9, .inl (y 0, 9, .inl (d.2 5))), (sa 0, .inl (y 0, 9, .inl u1.2)), (sa 2, .inl (y 1, 9, .inr (.inl u2.2.2.1))), (sa 6, .inl (y 1, 5, .inr (.inl (vp_updL (vp_updL (vp_updL u2.2.2.2 1 ((u2.2.2.2 1) + r4.toInt64)) 2 (((vp_updL u2.2.2.2 1 ((u2.2.2.2 1) + r4.toInt64)) 2) + ((if 0 < (u2.1 + r4) - (d.1 2) then (u2.1 + r4) - (d.1 2) else 0).toInt64))) 4 (((vp_updL (vp_updL u2.2.2.2 1 ((u2.2.2.2 1) + r4.toInt64)) 2 (((vp_updL u2.2.2.2 1 ((u2.2.2.2 1) + r4.toInt64)) 2) + ((if 0 < (u2.1 + r4) - (d.1 2) then (u2.1 + r4) - (d.1 2) else 0).toInt64))) 4) + ((if r7 < (u2.1 + r4) - (if 0 < (u2.1 + r4) - (d.1 2) then (u2.1 + r4) - (d.1 2) else 0) then r7 else (u2.1 + r4) - (if 0 < (u2.1 + r4) - (d.1 2) then (u2.1 + r4) - (d.1 2) else 0)).toInt64)))))), (ad 3, .inr (6, [.int (d.1 11), .int (d.1 12), .ref (ad 20), .ref (ad 21), .ref (ad 22), .ref (ad 23), .ref (ad 24), .ref (ad 25)])), (ad 20, .inl (y 0, 8, .inl (d.2 16))), (ad 21, .inl (y 0, 8, .inl (d.2 17))), (ad 22, .inl (y 0, 8, .inl (d.2 18))), (ad 23, .inl (y 0, 8, .inl (d.2 19))), (ad 24, .inl (y 0, 1600, .inl (d.2 20))), (ad 25, .inl (y 0, 40, .inl u8)), (ad 0, .inr (2, [.int (d.1 0), .int (d.1 1), .int (d.1 2), .int (d.1 3), .ref (ad 1), .int (d.1 4), .ref (ad 11), .ref (ad 12), .ref (ad 2), .ref (ad 3), .int (d.1 5), .int (d.1 6), .int (d.1 7), .int (d.1 8)])), (ad 2, .inr (8, [.int (d.1 10), .ref (ad 13), .ref (ad 14), .ref (ad 15), .ref (ad 16), .ref (ad 17), .ref (ad 18), .ref (ad 19)])), (ad 13, .inl (y 0, 16, .inl (d.2 9))), (ad 14, .inl (y 0, 16, .inl (d.2 10))), (ad 15, .inl (y 0, 16, .inl (d.2 11))), (ad 16, .inl (y 0, 16, .inl (d.2 12))), (ad 17, .inl (y 0, 16, .inl (d.2 13))), (ad 18, .inl (y 0, 16, .inl (d.2 14))), (ad 19, .inl (y 0, 16, .inl (d.2 15))), (h, .inr (7, [.int (sd + 1), .int (((u2.1 + r4) - (if 0 < (u2.1 + r4) - (d.1 2) then (u2.1 + r4) - (d.1 2) else 0)) - (if r7 < (u2.1 + r4) - (if 0 < (u2.1 + r4) - (d.1 2) then (u2.1 + r4) - (d.1 2) else 0) then r7 else (u2.1 + r4) - (if 0 < (u2.1 + r4) - (d.1 2) then (u2.1 + r4) - (d.1 2) else 0))), .int u1.1, .ref (sa 0), .ref (sa 1), .ref (sa 2), .ref (sa 3), .ref (sa 4), .ref (sa 5), .ref (sa 6)])), (sa 1, .inl (y 0, 9, .inl u2.2.1)), (sa 3, .inl (y 0, 6, .inl u18.1)), (sa 4, .inl (y 0, 6, .inl u18.2.1)), (sa 5, .inl (y 0, 16, .inl u18.2.2))]) rfl rfl rfl (nl rfl) rfl d_Days_pass_210 ?_
      exact j_vret (pc := 213) C hr ((fun k => [sd + 1, ((u2.1 + r4) - (if 0 < (u2.1 + r4) - (d.1 2) then (u2.1 + r4) - (d.1 2) else 0)) - (if r7 < (u2.1 + r4) - (if 0 < (u2.1 + r4) - (d.1 2) then (u2.1 + r4) - (d.1 2) else 0) then r7 else (u2.1 + r4) - (if 0 < (u2.1 + r4) - (d.1 2) then (u2.1 + r4) - (d.1 2) else 0)), u1.1].getD k 0, fun k => [u1.2, u2.2.1, u18.1, u18.2.1, u18.2.2].getD k (fun _ => 0), fun k => [u2.2.2.1, (vp_updL (vp_updL (vp_updL u2.2.2.2 1 ((u2.2.2.2 1) + r4.toInt64)) 2 (((vp_updL u2.2.2.2 1 ((u2.2.2.2 1) + r4.toInt64)) 2) + ((if 0 < (u2.1 + r4) - (d.1 2) then (u2.1 + r4) - (d.1 2) else 0).toInt64))) 4 (((vp_updL (vp_updL u2.2.2.2 1 ((u2.2.2.2 1) + r4.toInt64)) 2 (((vp_updL u2.2.2.2 1 ((u2.2.2.2 1) + r4.toInt64)) 2) + ((if 0 < (u2.1 + r4) - (d.1 2) then (u2.1 + r4) - (d.1 2) else 0).toInt64))) 4) + ((if r7 < (u2.1 + r4) - (if 0 < (u2.1 + r4) - (d.1 2) then (u2.1 + r4) - (d.1 2) else 0) then r7 else (u2.1 + r4) - (if 0 < (u2.1 + r4) - (d.1 2) then (u2.1 + r4) - (d.1 2) else 0)).toInt64)))].getD k (fun _ => 0)), u8) trivial [20, 5, 21, 13, 0, 6, 7, 8, 1, 9, 3, 2, 4, 22, 23, 24, 25, 26, 27, 28, 14, 15, 16, 17, 18, 19, 29, 10, 30, 11, 31, 32, 33, 12] rfl (by decide) (by decide) (by decide) d_Days_pass_213
end
section
section JP
variable {p : Program} {l : Launch} {e : Env} {R : Room} {s : State} {m : MethodId} {args : Array Value} {below : List Frame} {meth : Method} {c : Code} {Q : State → Prop} {D : va_G} {y : Nat → ClassId} {A : Nat → Prop} {cc : ByteArray} {nL : Nat} {own nm : String} {ws : va_W} {lv : List (Nat × Value)} {kc ks pc : Nat} {st : List Value}
theorem j_aaldI (C : Cx p s m args meth c D y A cc nL own nm) (q0 : Nat) {a n : Nat} {f : Nat → Option Nat} (ha : ws[q0]? = some (a, .inl (y 5, n, .inr (.inr (.inr (.inr f)))))) {i : Int32} {v : Nat} (hi : vp_in i n) (hv : f i.toNatClampNeg = some v) (d : decode cc pc = .ok (.aaload, 1)) (kk : J p l e R s m args below meth c Q D A nL ws lv kc ks (pc + 1) (.ref v :: st)) : J p l e R s m args below meth c Q D A nL ws lv kc ks pc (.int i :: .ref a :: st) := fun H L ls hP hD hS hl => by
  have hlt : i.toNatClampNeg < n := Nat.not_le.mp fun q => hi (Or.inr q)
  exact W.aald (v := .ref v) (ty := .array .int) C.x C.b (hP q0 _ ha) ((C.K.2 5 _ rfl).1 n (fun j => va_rf (f j))) rfl (fun q => by cases q) (by show ¬ (i < 0 ∨ (arrV _ _ _).slots.size ≤ _); rw [arrV_size]; exact hi) (by show (arrV _ _ _).slots[_]? = _; rw [arrV_read _ _ hlt, hv]; rfl) rfl rfl d (kk H L ls hP hD hS hl)
theorem j_rowq (q0 : Nat) {a n : Nat} {cA : ClassId} {f g : Nat → Option Nat} {ws' : va_W} (ha : ws[q0]? = some (a, .inl (cA, n, .inr (.inr (.inr (.inr f)))))) (h : ∀ j, j < n → f j = g j) (hw : ws.set q0 (a, .inl (cA, n, .inr (.inr (.inr (.inr g))))) = ws') (kk : J p l e R s m args below meth c Q D A nL ws' lv kc ks pc st) : J p l e R s m args below meth c Q D A nL ws lv kc ks pc st := by
  subst hw
  intro H L ls hP hD hS hl
  refine kk H L ls ?_ (hD.set ha) hS hl
  intro k q hk
  by_cases e : k = q0
  · subst e
    have hlt := (List.getElem?_eq_some_iff.mp ha).1
    rw [List.getElem?_set_self hlt] at hk
    cases hk
    have h0 := hP _ _ ha
    show H[a]? = some (vp_cell cA (n, .inr (.inr (.inr (.inr g)))))
    have e2 : vp_cell cA (n, .inr (.inr (.inr (.inr g)))) = vp_cell cA (n, .inr (.inr (.inr (.inr f)))) := by rw [vp_cell_q, vp_cell_q]; exact arrV_cong (fun j hj => by rw [h j hj])
    rw [e2]
    exact h0
  · rw [List.getElem?_set_ne (Ne.symm e)] at hk
    exact hP k q hk
end JP
theorem fm_congr {α β : Type} {f g : α → List β} : ∀ {l : List α}, (∀ a ∈ l, f a = g a) → l.flatMap f = l.flatMap g := by
  intro l
  induction l with
  | nil => intro _; rfl
  | cons a l ih =>
    intro h
    rw [List.flatMap_cons, List.flatMap_cons, h a List.mem_cons_self, ih (fun b hb => h b (List.mem_cons_of_mem _ hb))]
def FG (F : Nat → va_W) (l : List Nat) : va_W := l.flatMap F
theorem fg_out {F : Nat → va_W} {l : List Nat} {i : Nat} {X : va_W} (h : i ∈ l) : (X ++ FG F l).Perm ((X ++ F i) ++ FG F (l.erase i)) := by
  rw [List.append_assoc]
  refine List.Perm.append_left X ?_
  exact (List.perm_cons_erase h).flatMap_right F
theorem fg_in {F G : Nat → va_W} {l : List Nat} {i : Nat} {X : va_W} (h : i ∈ l) (hn : l.Nodup) (hF : ∀ j, j ≠ i → G j = F j) : ((X ++ G i) ++ FG F (l.erase i)).Perm (X ++ FG G l) := by
  have e : FG F (l.erase i) = FG G (l.erase i) := by
    unfold FG
    apply fm_congr
    intro j hj
    have : j ≠ i := fun e => absurd (e ▸ hj) (List.Nodup.not_mem_erase hn)
    rw [hF j this]
  rw [e]
  exact (fg_out h).symm
/-- a State's cells -/
abbrev SC (y : Nat → ClassId) (hx : Nat) (ax : Nat → Nat) (bx : SD) : va_W := [(hx, .inr (7, [.int (bx.1 0), .int (bx.1 1), .int (bx.1 2), .ref (ax 0), .ref (ax 1), .ref (ax 2), .ref (ax 3), .ref (ax 4), .ref (ax 5), .ref (ax 6)])), (ax 0, .inl (y 0, 9, .inl (bx.2.1 0))), (ax 1, .inl (y 0, 9, .inl (bx.2.1 1))), (ax 2, .inl (y 1, 9, .inr (.inl (bx.2.2 0)))), (ax 3, .inl (y 0, 6, .inl (bx.2.1 2))), (ax 4, .inl (y 0, 6, .inl (bx.2.1 3))), (ax 5, .inl (y 0, 16, .inl (bx.2.1 4))), (ax 6, .inl (y 1, 5, .inr (.inl (bx.2.2 1))))]
theorem fg_up {F : Nat → va_W} {Fu : (Nat → SD) → Nat → va_W} {ds : Nat → SD} {l : List Nat} {i : Nat} {X : va_W} {b : SD} {G : SD → va_W} (hF : F = Fu ds) (hG : ∀ ds, Fu ds i = G (ds i)) (hne : ∀ ds ds' j, ds j = ds' j → Fu ds j = Fu ds' j) (h : i ∈ l) (hn : l.Nodup) : ((X ++ G b) ++ FG F (l.erase i)).Perm (X ++ FG (Fu (va_up ds i b)) l) := by
  have e := fg_in (F := F) (G := Fu (va_up ds i b)) (X := X) h hn (fun j hj => by rw [hF]; exact hne _ _ j (va_up_ne _ _ hj))
  rw [hG, va_up_self] at e
  exact e
/-- the States of a row, each with its own contents -/
abbrev KF (y : Nat → ClassId) (hh : Nat → Nat) (aa : Nat → Nat → Nat) (ds : Nat → SD) (j : Nat) : va_W := SC y (hh j) (aa j) (ds j)
theorem kf_in {y : Nat → ClassId} {hh : Nat → Nat} {aa : Nat → Nat → Nat} {ds : Nat → SD} {l : List Nat} {i : Nat} {X : va_W} {b : SD} (h : i ∈ l) (hn : l.Nodup) : ((X ++ SC y (hh i) (aa i) b) ++ FG (KF y hh aa ds) (l.erase i)).Perm (X ++ FG (KF y hh aa (va_up ds i b)) l) := fg_up (Fu := KF y hh aa) (G := fun b => SC y (hh i) (aa i) b) rfl (fun _ => rfl) (fun ds ds' j e => by simp only [KF, e]) h hn
theorem rm30 {i : Nat} (h : i < 30) : i ∈ List.range 30 := List.mem_range.mpr h
theorem rn30 : (List.range 30).Nodup := List.nodup_range
theorem i_30 {i : Nat} (h : i < 30) : nI i + 1 - (nI i + 1) / 30 * 30 = nI ((i + 1) % 30) := by
  rw [nI_1]
  exact pk_rem (a := i + 1) (d := 30) (by omega) (by decide) (by decide)
theorem i_29 {i : Nat} (h : i < 30) : nI i + 30 - 1 - (nI i + 30 - 1) / 30 * 30 = nI ((i + 29) % 30) := by
  have e : nI i + 30 - 1 = nI (i + 29) := by
    have e1 : nI i + 30 = nI (i + 30) := nI_add i 30
    rw [e1]
    exact pk_sub (a := i + 30) (b := 1) (by omega)
  rw [e]
  exact pk_rem (a := i + 29) (d := 30) (by omega) (by decide) (by decide)
theorem d_State_take_0 : decode prog_10_method_3_code 0 = .ok (.aload_n 0, 1) := by decide +kernel
theorem d_State_take_1 : decode prog_10_method_3_code 1 = .ok (.aload_n 1, 1) := by decide +kernel
theorem d_State_take_2 : decode prog_10_method_3_code 2 = .ok (.getfield 34, 3) := by decide +kernel
theorem gf_State_34 : GF "NineBoards$State" 34 7 0 := ⟨_, _, _, rfl, ci_State, by decide, (mt_1 (List.mem_of_getElem? (i := 53) rfl) rfl)⟩
theorem d_State_take_5 : decode prog_10_method_3_code 5 = .ok (.putfield 34, 3) := by decide +kernel
theorem pf_State_34 : PF "NineBoards$State" 34 7 0 (.int) false := ⟨_, _, _, ct_State, rfl, ci_State, by decide, (mt_1 (List.mem_of_getElem? (i := 53) rfl) rfl), cp_State, cn_State, rfl, by decide +kernel, (fun h => by cases h)⟩
theorem d_State_take_8 : decode prog_10_method_3_code 8 = .ok (.aload_n 0, 1) := by decide +kernel
theorem d_State_take_9 : decode prog_10_method_3_code 9 = .ok (.aload_n 1, 1) := by decide +kernel
theorem d_State_take_10 : decode prog_10_method_3_code 10 = .ok (.getfield 38, 3) := by decide +kernel
theorem gf_State_38 : GF "NineBoards$State" 38 7 1 := ⟨_, _, _, rfl, ci_State, by decide, (mt_1 (List.mem_of_getElem? (i := 57) rfl) rfl)⟩
theorem d_State_take_13 : decode prog_10_method_3_code 13 = .ok (.putfield 38, 3) := by decide +kernel
theorem pf_State_38 : PF "NineBoards$State" 38 7 1 (.int) false := ⟨_, _, _, ct_State, rfl, ci_State, by decide, (mt_1 (List.mem_of_getElem? (i := 57) rfl) rfl), cp_State, cn_State, rfl, by decide +kernel, (fun h => by cases h)⟩
theorem d_State_take_16 : decode prog_10_method_3_code 16 = .ok (.aload_n 0, 1) := by decide +kernel
theorem d_State_take_17 : decode prog_10_method_3_code 17 = .ok (.aload_n 1, 1) := by decide +kernel
theorem d_State_take_18 : decode prog_10_method_3_code 18 = .ok (.getfield 41, 3) := by decide +kernel
theorem gf_State_41 : GF "NineBoards$State" 41 7 2 := ⟨_, _, _, rfl, ci_State, by decide, (mt_1 (List.mem_of_getElem? (i := 60) rfl) rfl)⟩
theorem d_State_take_21 : decode prog_10_method_3_code 21 = .ok (.putfield 41, 3) := by decide +kernel
theorem pf_State_41 : PF "NineBoards$State" 41 7 2 (.int) false := ⟨_, _, _, ct_State, rfl, ci_State, by decide, (mt_1 (List.mem_of_getElem? (i := 60) rfl) rfl), cp_State, cn_State, rfl, by decide +kernel, (fun h => by cases h)⟩
theorem d_State_take_24 : decode prog_10_method_3_code 24 = .ok (.aload_n 1, 1) := by decide +kernel
theorem d_State_take_25 : decode prog_10_method_3_code 25 = .ok (.getfield 9, 3) := by decide +kernel
theorem gf_State_9 : GF "NineBoards$State" 9 7 3 := ⟨_, _, _, rfl, ci_State, by decide, (mt_1 (List.mem_of_getElem? (i := 63) rfl) rfl)⟩
theorem d_State_take_28 : decode prog_10_method_3_code 28 = .ok (.iconst 0, 1) := by decide +kernel
theorem d_State_take_29 : decode prog_10_method_3_code 29 = .ok (.aload_n 0, 1) := by decide +kernel
theorem d_State_take_30 : decode prog_10_method_3_code 30 = .ok (.getfield 9, 3) := by decide +kernel
theorem d_State_take_33 : decode prog_10_method_3_code 33 = .ok (.iconst 0, 1) := by decide +kernel
theorem d_State_take_34 : decode prog_10_method_3_code 34 = .ok (.bipush 9, 2) := by decide +kernel
theorem d_State_take_36 : decode prog_10_method_3_code 36 = .ok (.invokestatic 44, 3) := by decide +kernel
theorem d_State_take_39 : decode prog_10_method_3_code 39 = .ok (.aload_n 1, 1) := by decide +kernel
theorem d_State_take_40 : decode prog_10_method_3_code 40 = .ok (.getfield 15, 3) := by decide +kernel
theorem gf_State_15 : GF "NineBoards$State" 15 7 4 := ⟨_, _, _, rfl, ci_State, by decide, (mt_1 (List.mem_of_getElem? (i := 66) rfl) rfl)⟩
theorem d_State_take_43 : decode prog_10_method_3_code 43 = .ok (.iconst 0, 1) := by decide +kernel
theorem d_State_take_44 : decode prog_10_method_3_code 44 = .ok (.aload_n 0, 1) := by decide +kernel
theorem d_State_take_45 : decode prog_10_method_3_code 45 = .ok (.getfield 15, 3) := by decide +kernel
theorem d_State_take_48 : decode prog_10_method_3_code 48 = .ok (.iconst 0, 1) := by decide +kernel
theorem d_State_take_49 : decode prog_10_method_3_code 49 = .ok (.bipush 9, 2) := by decide +kernel
theorem d_State_take_51 : decode prog_10_method_3_code 51 = .ok (.invokestatic 44, 3) := by decide +kernel
theorem d_State_take_54 : decode prog_10_method_3_code 54 = .ok (.aload_n 1, 1) := by decide +kernel
theorem d_State_take_55 : decode prog_10_method_3_code 55 = .ok (.getfield 18, 3) := by decide +kernel
theorem gf_State_18 : GF "NineBoards$State" 18 7 5 := ⟨_, _, _, rfl, ci_State, by decide, (mt_1 (List.mem_of_getElem? (i := 69) rfl) rfl)⟩
theorem d_State_take_58 : decode prog_10_method_3_code 58 = .ok (.iconst 0, 1) := by decide +kernel
theorem d_State_take_59 : decode prog_10_method_3_code 59 = .ok (.aload_n 0, 1) := by decide +kernel
theorem d_State_take_60 : decode prog_10_method_3_code 60 = .ok (.getfield 18, 3) := by decide +kernel
theorem d_State_take_63 : decode prog_10_method_3_code 63 = .ok (.iconst 0, 1) := by decide +kernel
theorem d_State_take_64 : decode prog_10_method_3_code 64 = .ok (.bipush 9, 2) := by decide +kernel
theorem d_State_take_66 : decode prog_10_method_3_code 66 = .ok (.invokestatic 44, 3) := by decide +kernel
theorem d_State_take_69 : decode prog_10_method_3_code 69 = .ok (.aload_n 1, 1) := by decide +kernel
theorem d_State_take_70 : decode prog_10_method_3_code 70 = .ok (.getfield 22, 3) := by decide +kernel
theorem gf_State_22 : GF "NineBoards$State" 22 7 6 := ⟨_, _, _, rfl, ci_State, by decide, (mt_1 (List.mem_of_getElem? (i := 72) rfl) rfl)⟩
theorem d_State_take_73 : decode prog_10_method_3_code 73 = .ok (.iconst 0, 1) := by decide +kernel
theorem d_State_take_74 : decode prog_10_method_3_code 74 = .ok (.aload_n 0, 1) := by decide +kernel
theorem d_State_take_75 : decode prog_10_method_3_code 75 = .ok (.getfield 22, 3) := by decide +kernel
theorem d_State_take_78 : decode prog_10_method_3_code 78 = .ok (.iconst 0, 1) := by decide +kernel
theorem d_State_take_79 : decode prog_10_method_3_code 79 = .ok (.bipush 6, 2) := by decide +kernel
theorem d_State_take_81 : decode prog_10_method_3_code 81 = .ok (.invokestatic 44, 3) := by decide +kernel
theorem d_State_take_84 : decode prog_10_method_3_code 84 = .ok (.aload_n 1, 1) := by decide +kernel
theorem d_State_take_85 : decode prog_10_method_3_code 85 = .ok (.getfield 25, 3) := by decide +kernel
theorem gf_State_25 : GF "NineBoards$State" 25 7 7 := ⟨_, _, _, rfl, ci_State, by decide, (mt_1 (List.mem_of_getElem? (i := 75) rfl) rfl)⟩
theorem d_State_take_88 : decode prog_10_method_3_code 88 = .ok (.iconst 0, 1) := by decide +kernel
theorem d_State_take_89 : decode prog_10_method_3_code 89 = .ok (.aload_n 0, 1) := by decide +kernel
theorem d_State_take_90 : decode prog_10_method_3_code 90 = .ok (.getfield 25, 3) := by decide +kernel
theorem d_State_take_93 : decode prog_10_method_3_code 93 = .ok (.iconst 0, 1) := by decide +kernel
theorem d_State_take_94 : decode prog_10_method_3_code 94 = .ok (.bipush 6, 2) := by decide +kernel
theorem d_State_take_96 : decode prog_10_method_3_code 96 = .ok (.invokestatic 44, 3) := by decide +kernel
theorem d_State_take_99 : decode prog_10_method_3_code 99 = .ok (.aload_n 1, 1) := by decide +kernel
theorem d_State_take_100 : decode prog_10_method_3_code 100 = .ok (.getfield 28, 3) := by decide +kernel
theorem gf_State_28 : GF "NineBoards$State" 28 7 8 := ⟨_, _, _, rfl, ci_State, by decide, (mt_1 (List.mem_of_getElem? (i := 79) rfl) rfl)⟩
theorem d_State_take_103 : decode prog_10_method_3_code 103 = .ok (.iconst 0, 1) := by decide +kernel
theorem d_State_take_104 : decode prog_10_method_3_code 104 = .ok (.aload_n 0, 1) := by decide +kernel
theorem d_State_take_105 : decode prog_10_method_3_code 105 = .ok (.getfield 28, 3) := by decide +kernel
theorem d_State_take_108 : decode prog_10_method_3_code 108 = .ok (.iconst 0, 1) := by decide +kernel
theorem d_State_take_109 : decode prog_10_method_3_code 109 = .ok (.bipush 16, 2) := by decide +kernel
theorem d_State_take_111 : decode prog_10_method_3_code 111 = .ok (.invokestatic 44, 3) := by decide +kernel
theorem d_State_take_114 : decode prog_10_method_3_code 114 = .ok (.aload_n 1, 1) := by decide +kernel
theorem d_State_take_115 : decode prog_10_method_3_code 115 = .ok (.getfield 31, 3) := by decide +kernel
theorem gf_State_31 : GF "NineBoards$State" 31 7 9 := ⟨_, _, _, rfl, ci_State, by decide, (mt_1 (List.mem_of_getElem? (i := 82) rfl) rfl)⟩
theorem d_State_take_118 : decode prog_10_method_3_code 118 = .ok (.iconst 0, 1) := by decide +kernel
theorem d_State_take_119 : decode prog_10_method_3_code 119 = .ok (.aload_n 0, 1) := by decide +kernel
theorem d_State_take_120 : decode prog_10_method_3_code 120 = .ok (.getfield 31, 3) := by decide +kernel
theorem d_State_take_123 : decode prog_10_method_3_code 123 = .ok (.iconst 0, 1) := by decide +kernel
theorem d_State_take_124 : decode prog_10_method_3_code 124 = .ok (.iconst 5, 1) := by decide +kernel
theorem d_State_take_125 : decode prog_10_method_3_code 125 = .ok (.invokestatic 44, 3) := by decide +kernel
theorem d_State_take_128 : decode prog_10_method_3_code 128 = .ok (.return_, 1) := by decide +kernel
set_option maxHeartbeats 4000000 in
set_option maxRecDepth 100000 in
theorem c_take (l : Launch) (D : va_G) (y : Nat → ClassId) (i : Nat) (ia : Nat → Nat) (td : Int32) (tw : Int32) (tl : Int32) (e0 : Nat → Int32) (e1 : Nat → Int32) (e2 : Nat → Int64) (e3 : Nat → Int32) (e4 : Nat → Int32) (e5 : Nat → Int32) (e6 : Nat → Int64) (h : Nat) (sa : Nat → Nat) (sd : Int32) (sw : Int32) (sl : Int32) (f0 : Nat → Int32) (f1 : Nat → Int32) (f2 : Nat → Int64) (f3 : Nat → Int32) (f4 : Nat → Int32) (f5 : Nat → Int32) (f6 : Nat → Int64)  : CT l D y ⟨"NineBoards$State", "take", "(LNineBoards$State;)V"⟩ prog_10_method_3_code 2 none ({ frames := 1, cells := 0, slots := 0, locals := 64 } : Room) [.ref i, .ref h] [(i, .inr (7, [.int td, .int tw, .int tl, .ref (ia 0), .ref (ia 1), .ref (ia 2), .ref (ia 3), .ref (ia 4), .ref (ia 5), .ref (ia 6)])), (ia 0, .inl (y 0, 9, .inl e0)), (ia 1, .inl (y 0, 9, .inl e1)), (ia 2, .inl (y 1, 9, .inr (.inl e2))), (ia 3, .inl (y 0, 6, .inl e3)), (ia 4, .inl (y 0, 6, .inl e4)), (ia 5, .inl (y 0, 16, .inl e5)), (ia 6, .inl (y 1, 5, .inr (.inl e6))), (h, .inr (7, [.int sd, .int sw, .int sl, .ref (sa 0), .ref (sa 1), .ref (sa 2), .ref (sa 3), .ref (sa 4), .ref (sa 5), .ref (sa 6)])), (sa 0, .inl (y 0, 9, .inl f0)), (sa 1, .inl (y 0, 9, .inl f1)), (sa 2, .inl (y 1, 9, .inr (.inl f2))), (sa 3, .inl (y 0, 6, .inl f3)), (sa 4, .inl (y 0, 6, .inl f4)), (sa 5, .inl (y 0, 16, .inl f5)), (sa 6, .inl (y 1, 5, .inr (.inl f6)))] (QV D [(i, .inr (7, [.int td, .int tw, .int tl, .ref (ia 0), .ref (ia 1), .ref (ia 2), .ref (ia 3), .ref (ia 4), .ref (ia 5), .ref (ia 6)])), (ia 0, .inl (y 0, 9, .inl e0)), (ia 1, .inl (y 0, 9, .inl e1)), (ia 2, .inl (y 1, 9, .inr (.inl e2))), (ia 3, .inl (y 0, 6, .inl e3)), (ia 4, .inl (y 0, 6, .inl e4)), (ia 5, .inl (y 0, 16, .inl e5)), (ia 6, .inl (y 1, 5, .inr (.inl e6))), (h, .inr (7, [.int sd, .int sw, .int sl, .ref (sa 0), .ref (sa 1), .ref (sa 2), .ref (sa 3), .ref (sa 4), .ref (sa 5), .ref (sa 6)])), (sa 0, .inl (y 0, 9, .inl f0)), (sa 1, .inl (y 0, 9, .inl f1)), (sa 2, .inl (y 1, 9, .inr (.inl f2))), (sa 3, .inl (y 0, 6, .inl f3)), (sa 4, .inl (y 0, 6, .inl f4)), (sa 5, .inl (y 0, 16, .inl f5)), (sa 6, .inl (y 1, 5, .inr (.inl f6)))] (fun (_ : SD) => True) (fun u => [(i, .inr (7, [.int (u.1 0), .int (u.1 1), .int (u.1 2), .ref (ia 0), .ref (ia 1), .ref (ia 2), .ref (ia 3), .ref (ia 4), .ref (ia 5), .ref (ia 6)])), (ia 0, .inl (y 0, 9, .inl (u.2.1 0))), (ia 1, .inl (y 0, 9, .inl (u.2.1 1))), (ia 2, .inl (y 1, 9, .inr (.inl (u.2.2 0)))), (ia 3, .inl (y 0, 6, .inl (u.2.1 2))), (ia 4, .inl (y 0, 6, .inl (u.2.1 3))), (ia 5, .inl (y 0, 16, .inl (u.2.1 4))), (ia 6, .inl (y 1, 5, .inr (.inl (u.2.2 1)))), (h, .inr (7, [.int sd, .int sw, .int sl, .ref (sa 0), .ref (sa 1), .ref (sa 2), .ref (sa 3), .ref (sa 4), .ref (sa 5), .ref (sa 6)])), (sa 0, .inl (y 0, 9, .inl f0)), (sa 1, .inl (y 0, 9, .inl f1)), (sa 2, .inl (y 1, 9, .inr (.inl f2))), (sa 3, .inl (y 0, 6, .inl f3)), (sa 4, .inl (y 0, 6, .inl f4)), (sa 5, .inl (y 0, 16, .inl f5)), (sa 6, .inl (y 1, 5, .inr (.inl f6)))])) := by
  refine CT.of (by decide) (nb rfl) ?_
  intro p e s m args below meth c C hr
  refine j_lv (lv' := [(0, .ref i), (1, .ref h)]) rfl ?_
  refine j_aload_n (pc := 0) C d_State_take_0 rfl 0 rfl ?_
  refine j_aload_n (pc := 1) C d_State_take_1 rfl 1 rfl ?_
  refine j_get (pc := 2) C gf_State_34 8 rfl rfl d_State_take_2 ?_
  refine j_put (pc := 5) C pf_State_34 0 (ws' := [(i, .inr (7, [.int sd, .int tw, .int tl, .ref (ia 0), .ref (ia 1), .ref (ia 2), .ref (ia 3), .ref (ia 4), .ref (ia 5), .ref (ia 6)])), (ia 0, .inl (y 0, 9, .inl e0)), (ia 1, .inl (y 0, 9, .inl e1)), (ia 2, .inl (y 1, 9, .inr (.inl e2))), (ia 3, .inl (y 0, 6, .inl e3)), (ia 4, .inl (y 0, 6, .inl e4)), (ia 5, .inl (y 0, 16, .inl e5)), (ia 6, .inl (y 1, 5, .inr (.inl e6))), (h, .inr (7, [.int sd, .int sw, .int sl, .ref (sa 0), .ref (sa 1), .ref (sa 2), .ref (sa 3), .ref (sa 4), .ref (sa 5), .ref (sa 6)])), (sa 0, .inl (y 0, 9, .inl f0)), (sa 1, .inl (y 0, 9, .inl f1)), (sa 2, .inl (y 1, 9, .inr (.inl f2))), (sa 3, .inl (y 0, 6, .inl f3)), (sa 4, .inl (y 0, 6, .inl f4)), (sa 5, .inl (y 0, 16, .inl f5)), (sa 6, .inl (y 1, 5, .inr (.inl f6)))]) rfl rfl rfl (nl rfl) rfl d_State_take_5 ?_
  refine j_aload_n (pc := 8) C d_State_take_8 rfl 0 rfl ?_
  refine j_aload_n (pc := 9) C d_State_take_9 rfl 1 rfl ?_
  refine j_get (pc := 10) C gf_State_38 8 rfl rfl d_State_take_10 ?_
  refine j_put (pc := 13) C pf_State_38 0 (ws' := [(i, .inr (7, [.int sd, .int sw, .int tl, .ref (ia 0), .ref (ia 1), .ref (ia 2), .ref (ia 3), .ref (ia 4), .ref (ia 5), .ref (ia 6)])), (ia 0, .inl (y 0, 9, .inl e0)), (ia 1, .inl (y 0, 9, .inl e1)), (ia 2, .inl (y 1, 9, .inr (.inl e2))), (ia 3, .inl (y 0, 6, .inl e3)), (ia 4, .inl (y 0, 6, .inl e4)), (ia 5, .inl (y 0, 16, .inl e5)), (ia 6, .inl (y 1, 5, .inr (.inl e6))), (h, .inr (7, [.int sd, .int sw, .int sl, .ref (sa 0), .ref (sa 1), .ref (sa 2), .ref (sa 3), .ref (sa 4), .ref (sa 5), .ref (sa 6)])), (sa 0, .inl (y 0, 9, .inl f0)), (sa 1, .inl (y 0, 9, .inl f1)), (sa 2, .inl (y 1, 9, .inr (.inl f2))), (sa 3, .inl (y 0, 6, .inl f3)), (sa 4, .inl (y 0, 6, .inl f4)), (sa 5, .inl (y 0, 16, .inl f5)), (sa 6, .inl (y 1, 5, .inr (.inl f6)))]) rfl rfl rfl (nl rfl) rfl d_State_take_13 ?_
  refine j_aload_n (pc := 16) C d_State_take_16 rfl 0 rfl ?_
  refine j_aload_n (pc := 17) C d_State_take_17 rfl 1 rfl ?_
  refine j_get (pc := 18) C gf_State_41 8 rfl rfl d_State_take_18 ?_
  refine j_put (pc := 21) C pf_State_41 0 (ws' := [(i, .inr (7, [.int sd, .int sw, .int sl, .ref (ia 0), .ref (ia 1), .ref (ia 2), .ref (ia 3), .ref (ia 4), .ref (ia 5), .ref (ia 6)])), (ia 0, .inl (y 0, 9, .inl e0)), (ia 1, .inl (y 0, 9, .inl e1)), (ia 2, .inl (y 1, 9, .inr (.inl e2))), (ia 3, .inl (y 0, 6, .inl e3)), (ia 4, .inl (y 0, 6, .inl e4)), (ia 5, .inl (y 0, 16, .inl e5)), (ia 6, .inl (y 1, 5, .inr (.inl e6))), (h, .inr (7, [.int sd, .int sw, .int sl, .ref (sa 0), .ref (sa 1), .ref (sa 2), .ref (sa 3), .ref (sa 4), .ref (sa 5), .ref (sa 6)])), (sa 0, .inl (y 0, 9, .inl f0)), (sa 1, .inl (y 0, 9, .inl f1)), (sa 2, .inl (y 1, 9, .inr (.inl f2))), (sa 3, .inl (y 0, 6, .inl f3)), (sa 4, .inl (y 0, 6, .inl f4)), (sa 5, .inl (y 0, 16, .inl f5)), (sa 6, .inl (y 1, 5, .inr (.inl f6)))]) rfl rfl rfl (nl rfl) rfl d_State_take_21 ?_
  refine j_aload_n (pc := 24) C d_State_take_24 rfl 1 rfl ?_
  refine j_get (pc := 25) C gf_State_9 8 rfl rfl d_State_take_25 ?_
  refine j_iconst (pc := 28) C (v := 0) d_State_take_28 (by decide) ?_
  refine j_aload_n (pc := 29) C d_State_take_29 rfl 0 rfl ?_
  refine j_get (pc := 30) C gf_State_9 0 rfl rfl d_State_take_30 ?_
  refine j_iconst (pc := 33) C (v := 0) d_State_take_33 (by decide) ?_
  refine j_bipush (pc := 34) C (v := 9) d_State_take_34 (by decide) ?_
  refine j_copyi (pc := 36) C (mt_4 (List.mem_of_getElem? (i := 0) rfl) rfl) (mt_4 (List.mem_of_getElem? (i := 2) rfl) rfl) (mt_4 (List.mem_of_getElem? (i := 1) rfl) rfl) (mt_1 (List.mem_of_getElem? (i := 17) rfl) rfl) 9 1 rfl rfl (ws' := [(i, .inr (7, [.int sd, .int sw, .int sl, .ref (ia 0), .ref (ia 1), .ref (ia 2), .ref (ia 3), .ref (ia 4), .ref (ia 5), .ref (ia 6)])), (ia 0, .inl (y 0, 9, .inl (va_cpy f0 e0 0 0 9))), (ia 1, .inl (y 0, 9, .inl e1)), (ia 2, .inl (y 1, 9, .inr (.inl e2))), (ia 3, .inl (y 0, 6, .inl e3)), (ia 4, .inl (y 0, 6, .inl e4)), (ia 5, .inl (y 0, 16, .inl e5)), (ia 6, .inl (y 1, 5, .inr (.inl e6))), (h, .inr (7, [.int sd, .int sw, .int sl, .ref (sa 0), .ref (sa 1), .ref (sa 2), .ref (sa 3), .ref (sa 4), .ref (sa 5), .ref (sa 6)])), (sa 0, .inl (y 0, 9, .inl f0)), (sa 1, .inl (y 0, 9, .inl f1)), (sa 2, .inl (y 1, 9, .inr (.inl f2))), (sa 3, .inl (y 0, 6, .inl f3)), (sa 4, .inl (y 0, 6, .inl f4)), (sa 5, .inl (y 0, 16, .inl f5)), (sa 6, .inl (y 1, 5, .inr (.inl f6)))]) (by decide) (by decide) (by decide) (by decide) (by decide) (by decide) (nb rfl) rfl d_State_take_36 ?_
  refine j_aload_n (pc := 39) C d_State_take_39 rfl 1 rfl ?_
  refine j_get (pc := 40) C gf_State_15 8 rfl rfl d_State_take_40 ?_
  refine j_iconst (pc := 43) C (v := 0) d_State_take_43 (by decide) ?_
  refine j_aload_n (pc := 44) C d_State_take_44 rfl 0 rfl ?_
  refine j_get (pc := 45) C gf_State_15 0 rfl rfl d_State_take_45 ?_
  refine j_iconst (pc := 48) C (v := 0) d_State_take_48 (by decide) ?_
  refine j_bipush (pc := 49) C (v := 9) d_State_take_49 (by decide) ?_
  refine j_copyi (pc := 51) C (mt_4 (List.mem_of_getElem? (i := 0) rfl) rfl) (mt_4 (List.mem_of_getElem? (i := 2) rfl) rfl) (mt_4 (List.mem_of_getElem? (i := 1) rfl) rfl) (mt_1 (List.mem_of_getElem? (i := 17) rfl) rfl) 10 2 rfl rfl (ws' := [(i, .inr (7, [.int sd, .int sw, .int sl, .ref (ia 0), .ref (ia 1), .ref (ia 2), .ref (ia 3), .ref (ia 4), .ref (ia 5), .ref (ia 6)])), (ia 0, .inl (y 0, 9, .inl (va_cpy f0 e0 0 0 9))), (ia 1, .inl (y 0, 9, .inl (va_cpy f1 e1 0 0 9))), (ia 2, .inl (y 1, 9, .inr (.inl e2))), (ia 3, .inl (y 0, 6, .inl e3)), (ia 4, .inl (y 0, 6, .inl e4)), (ia 5, .inl (y 0, 16, .inl e5)), (ia 6, .inl (y 1, 5, .inr (.inl e6))), (h, .inr (7, [.int sd, .int sw, .int sl, .ref (sa 0), .ref (sa 1), .ref (sa 2), .ref (sa 3), .ref (sa 4), .ref (sa 5), .ref (sa 6)])), (sa 0, .inl (y 0, 9, .inl f0)), (sa 1, .inl (y 0, 9, .inl f1)), (sa 2, .inl (y 1, 9, .inr (.inl f2))), (sa 3, .inl (y 0, 6, .inl f3)), (sa 4, .inl (y 0, 6, .inl f4)), (sa 5, .inl (y 0, 16, .inl f5)), (sa 6, .inl (y 1, 5, .inr (.inl f6)))]) (by decide) (by decide) (by decide) (by decide) (by decide) (by decide) (nb rfl) rfl d_State_take_51 ?_
  refine j_aload_n (pc := 54) C d_State_take_54 rfl 1 rfl ?_
  refine j_get (pc := 55) C gf_State_18 8 rfl rfl d_State_take_55 ?_
  refine j_iconst (pc := 58) C (v := 0) d_State_take_58 (by decide) ?_
  refine j_aload_n (pc := 59) C d_State_take_59 rfl 0 rfl ?_
  refine j_get (pc := 60) C gf_State_18 0 rfl rfl d_State_take_60 ?_
  refine j_iconst (pc := 63) C (v := 0) d_State_take_63 (by decide) ?_
  refine j_bipush (pc := 64) C (v := 9) d_State_take_64 (by decide) ?_
  refine j_copyl (pc := 66) C (mt_4 (List.mem_of_getElem? (i := 0) rfl) rfl) (mt_4 (List.mem_of_getElem? (i := 2) rfl) rfl) (mt_4 (List.mem_of_getElem? (i := 1) rfl) rfl) (mt_1 (List.mem_of_getElem? (i := 17) rfl) rfl) 11 3 rfl rfl (ws' := [(i, .inr (7, [.int sd, .int sw, .int sl, .ref (ia 0), .ref (ia 1), .ref (ia 2), .ref (ia 3), .ref (ia 4), .ref (ia 5), .ref (ia 6)])), (ia 0, .inl (y 0, 9, .inl (va_cpy f0 e0 0 0 9))), (ia 1, .inl (y 0, 9, .inl (va_cpy f1 e1 0 0 9))), (ia 2, .inl (y 1, 9, .inr (.inl (va_cpy f2 e2 0 0 9)))), (ia 3, .inl (y 0, 6, .inl e3)), (ia 4, .inl (y 0, 6, .inl e4)), (ia 5, .inl (y 0, 16, .inl e5)), (ia 6, .inl (y 1, 5, .inr (.inl e6))), (h, .inr (7, [.int sd, .int sw, .int sl, .ref (sa 0), .ref (sa 1), .ref (sa 2), .ref (sa 3), .ref (sa 4), .ref (sa 5), .ref (sa 6)])), (sa 0, .inl (y 0, 9, .inl f0)), (sa 1, .inl (y 0, 9, .inl f1)), (sa 2, .inl (y 1, 9, .inr (.inl f2))), (sa 3, .inl (y 0, 6, .inl f3)), (sa 4, .inl (y 0, 6, .inl f4)), (sa 5, .inl (y 0, 16, .inl f5)), (sa 6, .inl (y 1, 5, .inr (.inl f6)))]) (by decide) (by decide) (by decide) (by decide) (by decide) (by decide) (nb rfl) rfl d_State_take_66 ?_
  refine j_aload_n (pc := 69) C d_State_take_69 rfl 1 rfl ?_
  refine j_get (pc := 70) C gf_State_22 8 rfl rfl d_State_take_70 ?_
  refine j_iconst (pc := 73) C (v := 0) d_State_take_73 (by decide) ?_
  refine j_aload_n (pc := 74) C d_State_take_74 rfl 0 rfl ?_
  refine j_get (pc := 75) C gf_State_22 0 rfl rfl d_State_take_75 ?_
  refine j_iconst (pc := 78) C (v := 0) d_State_take_78 (by decide) ?_
  refine j_bipush (pc := 79) C (v := 6) d_State_take_79 (by decide) ?_
  refine j_copyi (pc := 81) C (mt_4 (List.mem_of_getElem? (i := 0) rfl) rfl) (mt_4 (List.mem_of_getElem? (i := 2) rfl) rfl) (mt_4 (List.mem_of_getElem? (i := 1) rfl) rfl) (mt_1 (List.mem_of_getElem? (i := 17) rfl) rfl) 12 4 rfl rfl (ws' := [(i, .inr (7, [.int sd, .int sw, .int sl, .ref (ia 0), .ref (ia 1), .ref (ia 2), .ref (ia 3), .ref (ia 4), .ref (ia 5), .ref (ia 6)])), (ia 0, .inl (y 0, 9, .inl (va_cpy f0 e0 0 0 9))), (ia 1, .inl (y 0, 9, .inl (va_cpy f1 e1 0 0 9))), (ia 2, .inl (y 1, 9, .inr (.inl (va_cpy f2 e2 0 0 9)))), (ia 3, .inl (y 0, 6, .inl (va_cpy f3 e3 0 0 6))), (ia 4, .inl (y 0, 6, .inl e4)), (ia 5, .inl (y 0, 16, .inl e5)), (ia 6, .inl (y 1, 5, .inr (.inl e6))), (h, .inr (7, [.int sd, .int sw, .int sl, .ref (sa 0), .ref (sa 1), .ref (sa 2), .ref (sa 3), .ref (sa 4), .ref (sa 5), .ref (sa 6)])), (sa 0, .inl (y 0, 9, .inl f0)), (sa 1, .inl (y 0, 9, .inl f1)), (sa 2, .inl (y 1, 9, .inr (.inl f2))), (sa 3, .inl (y 0, 6, .inl f3)), (sa 4, .inl (y 0, 6, .inl f4)), (sa 5, .inl (y 0, 16, .inl f5)), (sa 6, .inl (y 1, 5, .inr (.inl f6)))]) (by decide) (by decide) (by decide) (by decide) (by decide) (by decide) (nb rfl) rfl d_State_take_81 ?_
  refine j_aload_n (pc := 84) C d_State_take_84 rfl 1 rfl ?_
  refine j_get (pc := 85) C gf_State_25 8 rfl rfl d_State_take_85 ?_
  refine j_iconst (pc := 88) C (v := 0) d_State_take_88 (by decide) ?_
  refine j_aload_n (pc := 89) C d_State_take_89 rfl 0 rfl ?_
  refine j_get (pc := 90) C gf_State_25 0 rfl rfl d_State_take_90 ?_
  refine j_iconst (pc := 93) C (v := 0) d_State_take_93 (by decide) ?_
  refine j_bipush (pc := 94) C (v := 6) d_State_take_94 (by decide) ?_
  refine j_copyi (pc := 96) C (mt_4 (List.mem_of_getElem? (i := 0) rfl) rfl) (mt_4 (List.mem_of_getElem? (i := 2) rfl) rfl) (mt_4 (List.mem_of_getElem? (i := 1) rfl) rfl) (mt_1 (List.mem_of_getElem? (i := 17) rfl) rfl) 13 5 rfl rfl (ws' := [(i, .inr (7, [.int sd, .int sw, .int sl, .ref (ia 0), .ref (ia 1), .ref (ia 2), .ref (ia 3), .ref (ia 4), .ref (ia 5), .ref (ia 6)])), (ia 0, .inl (y 0, 9, .inl (va_cpy f0 e0 0 0 9))), (ia 1, .inl (y 0, 9, .inl (va_cpy f1 e1 0 0 9))), (ia 2, .inl (y 1, 9, .inr (.inl (va_cpy f2 e2 0 0 9)))), (ia 3, .inl (y 0, 6, .inl (va_cpy f3 e3 0 0 6))), (ia 4, .inl (y 0, 6, .inl (va_cpy f4 e4 0 0 6))), (ia 5, .inl (y 0, 16, .inl e5)), (ia 6, .inl (y 1, 5, .inr (.inl e6))), (h, .inr (7, [.int sd, .int sw, .int sl, .ref (sa 0), .ref (sa 1), .ref (sa 2), .ref (sa 3), .ref (sa 4), .ref (sa 5), .ref (sa 6)])), (sa 0, .inl (y 0, 9, .inl f0)), (sa 1, .inl (y 0, 9, .inl f1)), (sa 2, .inl (y 1, 9, .inr (.inl f2))), (sa 3, .inl (y 0, 6, .inl f3)), (sa 4, .inl (y 0, 6, .inl f4)), (sa 5, .inl (y 0, 16, .inl f5)), (sa 6, .inl (y 1, 5, .inr (.inl f6)))]) (by decide) (by decide) (by decide) (by decide) (by decide) (by decide) (nb rfl) rfl d_State_take_96 ?_
  refine j_aload_n (pc := 99) C d_State_take_99 rfl 1 rfl ?_
  refine j_get (pc := 100) C gf_State_28 8 rfl rfl d_State_take_100 ?_
  refine j_iconst (pc := 103) C (v := 0) d_State_take_103 (by decide) ?_
  refine j_aload_n (pc := 104) C d_State_take_104 rfl 0 rfl ?_
  refine j_get (pc := 105) C gf_State_28 0 rfl rfl d_State_take_105 ?_
  refine j_iconst (pc := 108) C (v := 0) d_State_take_108 (by decide) ?_
  refine j_bipush (pc := 109) C (v := 16) d_State_take_109 (by decide) ?_
  refine j_copyi (pc := 111) C (mt_4 (List.mem_of_getElem? (i := 0) rfl) rfl) (mt_4 (List.mem_of_getElem? (i := 2) rfl) rfl) (mt_4 (List.mem_of_getElem? (i := 1) rfl) rfl) (mt_1 (List.mem_of_getElem? (i := 17) rfl) rfl) 14 6 rfl rfl (ws' := [(i, .inr (7, [.int sd, .int sw, .int sl, .ref (ia 0), .ref (ia 1), .ref (ia 2), .ref (ia 3), .ref (ia 4), .ref (ia 5), .ref (ia 6)])), (ia 0, .inl (y 0, 9, .inl (va_cpy f0 e0 0 0 9))), (ia 1, .inl (y 0, 9, .inl (va_cpy f1 e1 0 0 9))), (ia 2, .inl (y 1, 9, .inr (.inl (va_cpy f2 e2 0 0 9)))), (ia 3, .inl (y 0, 6, .inl (va_cpy f3 e3 0 0 6))), (ia 4, .inl (y 0, 6, .inl (va_cpy f4 e4 0 0 6))), (ia 5, .inl (y 0, 16, .inl (va_cpy f5 e5 0 0 16))), (ia 6, .inl (y 1, 5, .inr (.inl e6))), (h, .inr (7, [.int sd, .int sw, .int sl, .ref (sa 0), .ref (sa 1), .ref (sa 2), .ref (sa 3), .ref (sa 4), .ref (sa 5), .ref (sa 6)])), (sa 0, .inl (y 0, 9, .inl f0)), (sa 1, .inl (y 0, 9, .inl f1)), (sa 2, .inl (y 1, 9, .inr (.inl f2))), (sa 3, .inl (y 0, 6, .inl f3)), (sa 4, .inl (y 0, 6, .inl f4)), (sa 5, .inl (y 0, 16, .inl f5)), (sa 6, .inl (y 1, 5, .inr (.inl f6)))]) (by decide) (by decide) (by decide) (by decide) (by decide) (by decide) (nb rfl) rfl d_State_take_111 ?_
  refine j_aload_n (pc := 114) C d_State_take_114 rfl 1 rfl ?_
  refine j_get (pc := 115) C gf_State_31 8 rfl rfl d_State_take_115 ?_
  refine j_iconst (pc := 118) C (v := 0) d_State_take_118 (by decide) ?_
  refine j_aload_n (pc := 119) C d_State_take_119 rfl 0 rfl ?_
  refine j_get (pc := 120) C gf_State_31 0 rfl rfl d_State_take_120 ?_
  refine j_iconst (pc := 123) C (v := 0) d_State_take_123 (by decide) ?_
  refine j_iconst (pc := 124) C (v := 5) d_State_take_124 (by decide) ?_
  refine j_copyl (pc := 125) C (mt_4 (List.mem_of_getElem? (i := 0) rfl) rfl) (mt_4 (List.mem_of_getElem? (i := 2) rfl) rfl) (mt_4 (List.mem_of_getElem? (i := 1) rfl) rfl) (mt_1 (List.mem_of_getElem? (i := 17) rfl) rfl) 15 7 rfl rfl (ws' := [(i, .inr (7, [.int sd, .int sw, .int sl, .ref (ia 0), .ref (ia 1), .ref (ia 2), .ref (ia 3), .ref (ia 4), .ref (ia 5), .ref (ia 6)])), (ia 0, .inl (y 0, 9, .inl (va_cpy f0 e0 0 0 9))), (ia 1, .inl (y 0, 9, .inl (va_cpy f1 e1 0 0 9))), (ia 2, .inl (y 1, 9, .inr (.inl (va_cpy f2 e2 0 0 9)))), (ia 3, .inl (y 0, 6, .inl (va_cpy f3 e3 0 0 6))), (ia 4, .inl (y 0, 6, .inl (va_cpy f4 e4 0 0 6))), (ia 5, .inl (y 0, 16, .inl (va_cpy f5 e5 0 0 16))), (ia 6, .inl (y 1, 5, .inr (.inl (va_cpy f6 e6 0 0 5)))), (h, .inr (7, [.int sd, .int sw, .int sl, .ref (sa 0), .ref (sa 1), .ref (sa 2), .ref (sa 3), .ref (sa 4), .ref (sa 5), .ref (sa 6)])), (sa 0, .inl (y 0, 9, .inl f0)), (sa 1, .inl (y 0, 9, .inl f1)), (sa 2, .inl (y 1, 9, .inr (.inl f2))), (sa 3, .inl (y 0, 6, .inl f3)), (sa 4, .inl (y 0, 6, .inl f4)), (sa 5, .inl (y 0, 16, .inl f5)), (sa 6, .inl (y 1, 5, .inr (.inl f6)))]) (by decide) (by decide) (by decide) (by decide) (by decide) (by decide) (nb rfl) rfl d_State_take_125 ?_
  exact j_vret (pc := 128) C hr (fun k => [sd, sw, sl].getD k 0, fun k => [(va_cpy f0 e0 0 0 9), (va_cpy f1 e1 0 0 9), (va_cpy f3 e3 0 0 6), (va_cpy f4 e4 0 0 6), (va_cpy f5 e5 0 0 16)].getD k (fun _ => 0), fun k => [(va_cpy f2 e2 0 0 9), (va_cpy f6 e6 0 0 5)].getD k (fun _ => 0)) trivial [0, 1, 2, 3, 4, 5, 6, 7, 8, 9, 10, 11, 12, 13, 14, 15] rfl (by decide) (by decide) (by decide) d_State_take_128
theorem d_State_clear_0 : decode prog_10_method_2_code 0 = .ok (.aload_n 0, 1) := by decide +kernel
theorem d_State_clear_1 : decode prog_10_method_2_code 1 = .ok (.iconst 0, 1) := by decide +kernel
theorem d_State_clear_2 : decode prog_10_method_2_code 2 = .ok (.putfield 34, 3) := by decide +kernel
theorem d_State_clear_5 : decode prog_10_method_2_code 5 = .ok (.aload_n 0, 1) := by decide +kernel
theorem d_State_clear_6 : decode prog_10_method_2_code 6 = .ok (.iconst 0, 1) := by decide +kernel
theorem d_State_clear_7 : decode prog_10_method_2_code 7 = .ok (.putfield 38, 3) := by decide +kernel
theorem d_State_clear_10 : decode prog_10_method_2_code 10 = .ok (.aload_n 0, 1) := by decide +kernel
theorem d_State_clear_11 : decode prog_10_method_2_code 11 = .ok (.iconst 0, 1) := by decide +kernel
theorem d_State_clear_12 : decode prog_10_method_2_code 12 = .ok (.putfield 41, 3) := by decide +kernel
theorem d_State_clear_15 : decode prog_10_method_2_code 15 = .ok (.iconst 0, 1) := by decide +kernel
theorem d_State_clear_16 : decode prog_10_method_2_code 16 = .ok (.istore_n 1, 1) := by decide +kernel
theorem d_State_clear_17 : decode prog_10_method_2_code 17 = .ok (.iload_n 1, 1) := by decide +kernel
theorem d_State_clear_18 : decode prog_10_method_2_code 18 = .ok (.bipush 9, 2) := by decide +kernel
theorem d_State_clear_20 : decode prog_10_method_2_code 20 = .ok (.if_icmp .ge 30, 3) := by decide +kernel
theorem d_State_clear_23 : decode prog_10_method_2_code 23 = .ok (.aload_n 0, 1) := by decide +kernel
theorem d_State_clear_24 : decode prog_10_method_2_code 24 = .ok (.getfield 9, 3) := by decide +kernel
theorem d_State_clear_27 : decode prog_10_method_2_code 27 = .ok (.iload_n 1, 1) := by decide +kernel
theorem d_State_clear_28 : decode prog_10_method_2_code 28 = .ok (.iconst 0, 1) := by decide +kernel
theorem d_State_clear_29 : decode prog_10_method_2_code 29 = .ok (.iastore, 1) := by decide +kernel
theorem d_State_clear_30 : decode prog_10_method_2_code 30 = .ok (.aload_n 0, 1) := by decide +kernel
theorem d_State_clear_31 : decode prog_10_method_2_code 31 = .ok (.getfield 15, 3) := by decide +kernel
theorem d_State_clear_34 : decode prog_10_method_2_code 34 = .ok (.iload_n 1, 1) := by decide +kernel
theorem d_State_clear_35 : decode prog_10_method_2_code 35 = .ok (.iconst 0, 1) := by decide +kernel
theorem d_State_clear_36 : decode prog_10_method_2_code 36 = .ok (.iastore, 1) := by decide +kernel
theorem d_State_clear_37 : decode prog_10_method_2_code 37 = .ok (.aload_n 0, 1) := by decide +kernel
theorem d_State_clear_38 : decode prog_10_method_2_code 38 = .ok (.getfield 18, 3) := by decide +kernel
theorem d_State_clear_41 : decode prog_10_method_2_code 41 = .ok (.iload_n 1, 1) := by decide +kernel
theorem d_State_clear_42 : decode prog_10_method_2_code 42 = .ok (.lconst 0, 1) := by decide +kernel
theorem d_State_clear_43 : decode prog_10_method_2_code 43 = .ok (.lastore, 1) := by decide +kernel
theorem d_State_clear_44 : decode prog_10_method_2_code 44 = .ok (.iinc 1 1, 3) := by decide +kernel
theorem d_State_clear_47 : decode prog_10_method_2_code 47 = .ok (.goto (-30), 3) := by decide +kernel
theorem d_State_clear_50 : decode prog_10_method_2_code 50 = .ok (.iconst 0, 1) := by decide +kernel
theorem d_State_clear_51 : decode prog_10_method_2_code 51 = .ok (.istore_n 1, 1) := by decide +kernel
theorem d_State_clear_52 : decode prog_10_method_2_code 52 = .ok (.iload_n 1, 1) := by decide +kernel
theorem d_State_clear_53 : decode prog_10_method_2_code 53 = .ok (.bipush 6, 2) := by decide +kernel
theorem d_State_clear_55 : decode prog_10_method_2_code 55 = .ok (.if_icmp .ge 23, 3) := by decide +kernel
theorem d_State_clear_58 : decode prog_10_method_2_code 58 = .ok (.aload_n 0, 1) := by decide +kernel
theorem d_State_clear_59 : decode prog_10_method_2_code 59 = .ok (.getfield 22, 3) := by decide +kernel
theorem d_State_clear_62 : decode prog_10_method_2_code 62 = .ok (.iload_n 1, 1) := by decide +kernel
theorem d_State_clear_63 : decode prog_10_method_2_code 63 = .ok (.iconst 0, 1) := by decide +kernel
theorem d_State_clear_64 : decode prog_10_method_2_code 64 = .ok (.iastore, 1) := by decide +kernel
theorem d_State_clear_65 : decode prog_10_method_2_code 65 = .ok (.aload_n 0, 1) := by decide +kernel
theorem d_State_clear_66 : decode prog_10_method_2_code 66 = .ok (.getfield 25, 3) := by decide +kernel
theorem d_State_clear_69 : decode prog_10_method_2_code 69 = .ok (.iload_n 1, 1) := by decide +kernel
theorem d_State_clear_70 : decode prog_10_method_2_code 70 = .ok (.iconst 0, 1) := by decide +kernel
theorem d_State_clear_71 : decode prog_10_method_2_code 71 = .ok (.iastore, 1) := by decide +kernel
theorem d_State_clear_72 : decode prog_10_method_2_code 72 = .ok (.iinc 1 1, 3) := by decide +kernel
theorem d_State_clear_75 : decode prog_10_method_2_code 75 = .ok (.goto (-23), 3) := by decide +kernel
theorem d_State_clear_78 : decode prog_10_method_2_code 78 = .ok (.iconst 0, 1) := by decide +kernel
theorem d_State_clear_79 : decode prog_10_method_2_code 79 = .ok (.istore_n 1, 1) := by decide +kernel
theorem d_State_clear_80 : decode prog_10_method_2_code 80 = .ok (.iload_n 1, 1) := by decide +kernel
theorem d_State_clear_81 : decode prog_10_method_2_code 81 = .ok (.bipush 16, 2) := by decide +kernel
theorem d_State_clear_83 : decode prog_10_method_2_code 83 = .ok (.if_icmp .ge 16, 3) := by decide +kernel
theorem d_State_clear_86 : decode prog_10_method_2_code 86 = .ok (.aload_n 0, 1) := by decide +kernel
theorem d_State_clear_87 : decode prog_10_method_2_code 87 = .ok (.getfield 28, 3) := by decide +kernel
theorem d_State_clear_90 : decode prog_10_method_2_code 90 = .ok (.iload_n 1, 1) := by decide +kernel
theorem d_State_clear_91 : decode prog_10_method_2_code 91 = .ok (.iconst 0, 1) := by decide +kernel
theorem d_State_clear_92 : decode prog_10_method_2_code 92 = .ok (.iastore, 1) := by decide +kernel
theorem d_State_clear_93 : decode prog_10_method_2_code 93 = .ok (.iinc 1 1, 3) := by decide +kernel
theorem d_State_clear_96 : decode prog_10_method_2_code 96 = .ok (.goto (-16), 3) := by decide +kernel
theorem d_State_clear_99 : decode prog_10_method_2_code 99 = .ok (.iconst 0, 1) := by decide +kernel
theorem d_State_clear_100 : decode prog_10_method_2_code 100 = .ok (.istore_n 1, 1) := by decide +kernel
theorem d_State_clear_101 : decode prog_10_method_2_code 101 = .ok (.iload_n 1, 1) := by decide +kernel
theorem d_State_clear_102 : decode prog_10_method_2_code 102 = .ok (.iconst 5, 1) := by decide +kernel
theorem d_State_clear_103 : decode prog_10_method_2_code 103 = .ok (.if_icmp .ge 16, 3) := by decide +kernel
theorem d_State_clear_106 : decode prog_10_method_2_code 106 = .ok (.aload_n 0, 1) := by decide +kernel
theorem d_State_clear_107 : decode prog_10_method_2_code 107 = .ok (.getfield 31, 3) := by decide +kernel
theorem d_State_clear_110 : decode prog_10_method_2_code 110 = .ok (.iload_n 1, 1) := by decide +kernel
theorem d_State_clear_111 : decode prog_10_method_2_code 111 = .ok (.lconst 0, 1) := by decide +kernel
theorem d_State_clear_112 : decode prog_10_method_2_code 112 = .ok (.lastore, 1) := by decide +kernel
theorem d_State_clear_113 : decode prog_10_method_2_code 113 = .ok (.iinc 1 1, 3) := by decide +kernel
theorem d_State_clear_116 : decode prog_10_method_2_code 116 = .ok (.goto (-15), 3) := by decide +kernel
theorem d_State_clear_119 : decode prog_10_method_2_code 119 = .ok (.return_, 1) := by decide +kernel
set_option maxHeartbeats 4000000 in
set_option maxRecDepth 100000 in
theorem c_sclear (l : Launch) (D : va_G) (y : Nat → ClassId) (h : Nat) (sa : Nat → Nat) (sd : Int32) (sw : Int32) (sl : Int32) (f0 : Nat → Int32) (f1 : Nat → Int32) (f2 : Nat → Int64) (f3 : Nat → Int32) (f4 : Nat → Int32) (f5 : Nat → Int32) (f6 : Nat → Int64)  : CT l D y ⟨"NineBoards$State", "clear", "()V"⟩ prog_10_method_2_code 2 none ({ frames := 0, cells := 0, slots := 0, locals := 0 } : Room) [.ref h] [(h, .inr (7, [.int sd, .int sw, .int sl, .ref (sa 0), .ref (sa 1), .ref (sa 2), .ref (sa 3), .ref (sa 4), .ref (sa 5), .ref (sa 6)])), (sa 0, .inl (y 0, 9, .inl f0)), (sa 1, .inl (y 0, 9, .inl f1)), (sa 2, .inl (y 1, 9, .inr (.inl f2))), (sa 3, .inl (y 0, 6, .inl f3)), (sa 4, .inl (y 0, 6, .inl f4)), (sa 5, .inl (y 0, 16, .inl f5)), (sa 6, .inl (y 1, 5, .inr (.inl f6)))] (QV D [(h, .inr (7, [.int sd, .int sw, .int sl, .ref (sa 0), .ref (sa 1), .ref (sa 2), .ref (sa 3), .ref (sa 4), .ref (sa 5), .ref (sa 6)])), (sa 0, .inl (y 0, 9, .inl f0)), (sa 1, .inl (y 0, 9, .inl f1)), (sa 2, .inl (y 1, 9, .inr (.inl f2))), (sa 3, .inl (y 0, 6, .inl f3)), (sa 4, .inl (y 0, 6, .inl f4)), (sa 5, .inl (y 0, 16, .inl f5)), (sa 6, .inl (y 1, 5, .inr (.inl f6)))] (fun (_ : SD) => True) (fun u => [(h, .inr (7, [.int (u.1 0), .int (u.1 1), .int (u.1 2), .ref (sa 0), .ref (sa 1), .ref (sa 2), .ref (sa 3), .ref (sa 4), .ref (sa 5), .ref (sa 6)])), (sa 0, .inl (y 0, 9, .inl (u.2.1 0))), (sa 1, .inl (y 0, 9, .inl (u.2.1 1))), (sa 2, .inl (y 1, 9, .inr (.inl (u.2.2 0)))), (sa 3, .inl (y 0, 6, .inl (u.2.1 2))), (sa 4, .inl (y 0, 6, .inl (u.2.1 3))), (sa 5, .inl (y 0, 16, .inl (u.2.1 4))), (sa 6, .inl (y 1, 5, .inr (.inl (u.2.2 1))))])) := by
  refine CT.of (by decide) (nb rfl) ?_
  intro p e s m args below meth c C hr
  refine j_lv (lv' := [(0, .ref h)]) rfl ?_
  refine j_aload_n (pc := 0) C d_State_clear_0 rfl 0 rfl ?_
  refine j_iconst (pc := 1) C (v := 0) d_State_clear_1 (by decide) ?_
  refine j_put (pc := 2) C pf_State_34 0 (ws' := [(h, .inr (7, [.int 0, .int sw, .int sl, .ref (sa 0), .ref (sa 1), .ref (sa 2), .ref (sa 3), .ref (sa 4), .ref (sa 5), .ref (sa 6)])), (sa 0, .inl (y 0, 9, .inl f0)), (sa 1, .inl (y 0, 9, .inl f1)), (sa 2, .inl (y 1, 9, .inr (.inl f2))), (sa 3, .inl (y 0, 6, .inl f3)), (sa 4, .inl (y 0, 6, .inl f4)), (sa 5, .inl (y 0, 16, .inl f5)), (sa 6, .inl (y 1, 5, .inr (.inl f6)))]) rfl rfl rfl (nl rfl) rfl d_State_clear_2 ?_
  refine j_aload_n (pc := 5) C d_State_clear_5 rfl 0 rfl ?_
  refine j_iconst (pc := 6) C (v := 0) d_State_clear_6 (by decide) ?_
  refine j_put (pc := 7) C pf_State_38 0 (ws' := [(h, .inr (7, [.int 0, .int 0, .int sl, .ref (sa 0), .ref (sa 1), .ref (sa 2), .ref (sa 3), .ref (sa 4), .ref (sa 5), .ref (sa 6)])), (sa 0, .inl (y 0, 9, .inl f0)), (sa 1, .inl (y 0, 9, .inl f1)), (sa 2, .inl (y 1, 9, .inr (.inl f2))), (sa 3, .inl (y 0, 6, .inl f3)), (sa 4, .inl (y 0, 6, .inl f4)), (sa 5, .inl (y 0, 16, .inl f5)), (sa 6, .inl (y 1, 5, .inr (.inl f6)))]) rfl rfl rfl (nl rfl) rfl d_State_clear_7 ?_
  refine j_aload_n (pc := 10) C d_State_clear_10 rfl 0 rfl ?_
  refine j_iconst (pc := 11) C (v := 0) d_State_clear_11 (by decide) ?_
  refine j_put (pc := 12) C pf_State_41 0 (ws' := [(h, .inr (7, [.int 0, .int 0, .int 0, .ref (sa 0), .ref (sa 1), .ref (sa 2), .ref (sa 3), .ref (sa 4), .ref (sa 5), .ref (sa 6)])), (sa 0, .inl (y 0, 9, .inl f0)), (sa 1, .inl (y 0, 9, .inl f1)), (sa 2, .inl (y 1, 9, .inr (.inl f2))), (sa 3, .inl (y 0, 6, .inl f3)), (sa 4, .inl (y 0, 6, .inl f4)), (sa 5, .inl (y 0, 16, .inl f5)), (sa 6, .inl (y 1, 5, .inr (.inl f6)))]) rfl rfl rfl (nl rfl) rfl d_State_clear_12 ?_
  refine j_iconst (pc := 15) C (v := 0) d_State_clear_15 (by decide) ?_
  refine j_istore_n (pc := 16) C (lv' := [(1, .int 0), (0, .ref h)]) d_State_clear_16 rfl (by decide) rfl ?_
  refine j_iload_n (pc := 17) C d_State_clear_17 rfl 0 rfl ?_
  refine j_bipush (pc := 18) C (v := 9) d_State_clear_18 (by decide) ?_
  refine j_icmp_geF (pc := 20) C (tgt := 50) d_State_clear_20 (by decide) (by decide) ?_
  refine j_aload_n (pc := 23) C d_State_clear_23 rfl 1 rfl ?_
  refine j_get (pc := 24) C gf_State_9 0 rfl rfl d_State_clear_24 ?_
  refine j_iload_n (pc := 27) C d_State_clear_27 rfl 0 rfl ?_
  refine j_iconst (pc := 28) C (v := 0) d_State_clear_28 (by decide) ?_
  refine j_iast (pc := 29) C 1 rfl (ws' := [(h, .inr (7, [.int 0, .int 0, .int 0, .ref (sa 0), .ref (sa 1), .ref (sa 2), .ref (sa 3), .ref (sa 4), .ref (sa 5), .ref (sa 6)])), (sa 0, .inl (y 0, 9, .inl (upd f0 0 0))), (sa 1, .inl (y 0, 9, .inl f1)), (sa 2, .inl (y 1, 9, .inr (.inl f2))), (sa 3, .inl (y 0, 6, .inl f3)), (sa 4, .inl (y 0, 6, .inl f4)), (sa 5, .inl (y 0, 16, .inl f5)), (sa 6, .inl (y 1, 5, .inr (.inl f6)))]) (vin (by decide)) rfl d_State_clear_29 ?_
  refine j_aload_n (pc := 30) C d_State_clear_30 rfl 1 rfl ?_
  refine j_get (pc := 31) C gf_State_15 0 rfl rfl d_State_clear_31 ?_
  refine j_iload_n (pc := 34) C d_State_clear_34 rfl 0 rfl ?_
  refine j_iconst (pc := 35) C (v := 0) d_State_clear_35 (by decide) ?_
  refine j_iast (pc := 36) C 2 rfl (ws' := [(h, .inr (7, [.int 0, .int 0, .int 0, .ref (sa 0), .ref (sa 1), .ref (sa 2), .ref (sa 3), .ref (sa 4), .ref (sa 5), .ref (sa 6)])), (sa 0, .inl (y 0, 9, .inl (upd f0 0 0))), (sa 1, .inl (y 0, 9, .inl (upd f1 0 0))), (sa 2, .inl (y 1, 9, .inr (.inl f2))), (sa 3, .inl (y 0, 6, .inl f3)), (sa 4, .inl (y 0, 6, .inl f4)), (sa 5, .inl (y 0, 16, .inl f5)), (sa 6, .inl (y 1, 5, .inr (.inl f6)))]) (vin (by decide)) rfl d_State_clear_36 ?_
  refine j_aload_n (pc := 37) C d_State_clear_37 rfl 1 rfl ?_
  refine j_get (pc := 38) C gf_State_18 0 rfl rfl d_State_clear_38 ?_
  refine j_iload_n (pc := 41) C d_State_clear_41 rfl 0 rfl ?_
  refine j_lconst (pc := 42) C (v := 0) d_State_clear_42 (by decide) ?_
  refine j_last (pc := 43) C 3 rfl (ws' := [(h, .inr (7, [.int 0, .int 0, .int 0, .ref (sa 0), .ref (sa 1), .ref (sa 2), .ref (sa 3), .ref (sa 4), .ref (sa 5), .ref (sa 6)])), (sa 0, .inl (y 0, 9, .inl (upd f0 0 0))), (sa 1, .inl (y 0, 9, .inl (upd f1 0 0))), (sa 2, .inl (y 1, 9, .inr (.inl (vp_updL f2 0 0)))), (sa 3, .inl (y 0, 6, .inl f3)), (sa 4, .inl (y 0, 6, .inl f4)), (sa 5, .inl (y 0, 16, .inl f5)), (sa 6, .inl (y 1, 5, .inr (.inl f6)))]) (vin (by decide)) rfl d_State_clear_43 ?_
  refine j_iinc (pc := 44) C (v := 1) (lv' := [(1, .int 1), (0, .ref h)]) d_State_clear_44 0 rfl (by decide) (by decide) rfl ?_
  refine j_goto (pc := 47) C (tgt := 17) d_State_clear_47 (by decide) ?_
  refine j_iload_n (pc := 17) C d_State_clear_17 rfl 0 rfl ?_
  refine j_bipush (pc := 18) C (v := 9) d_State_clear_18 (by decide) ?_
  refine j_icmp_geF (pc := 20) C (tgt := 50) d_State_clear_20 (by decide) (by decide) ?_
  refine j_aload_n (pc := 23) C d_State_clear_23 rfl 1 rfl ?_
  refine j_get (pc := 24) C gf_State_9 0 rfl rfl d_State_clear_24 ?_
  refine j_iload_n (pc := 27) C d_State_clear_27 rfl 0 rfl ?_
  refine j_iconst (pc := 28) C (v := 0) d_State_clear_28 (by decide) ?_
  refine j_iast (pc := 29) C 1 rfl (ws' := [(h, .inr (7, [.int 0, .int 0, .int 0, .ref (sa 0), .ref (sa 1), .ref (sa 2), .ref (sa 3), .ref (sa 4), .ref (sa 5), .ref (sa 6)])), (sa 0, .inl (y 0, 9, .inl (upd (upd f0 0 0) 1 0))), (sa 1, .inl (y 0, 9, .inl (upd f1 0 0))), (sa 2, .inl (y 1, 9, .inr (.inl (vp_updL f2 0 0)))), (sa 3, .inl (y 0, 6, .inl f3)), (sa 4, .inl (y 0, 6, .inl f4)), (sa 5, .inl (y 0, 16, .inl f5)), (sa 6, .inl (y 1, 5, .inr (.inl f6)))]) (vin (by decide)) rfl d_State_clear_29 ?_
  refine j_aload_n (pc := 30) C d_State_clear_30 rfl 1 rfl ?_
  refine j_get (pc := 31) C gf_State_15 0 rfl rfl d_State_clear_31 ?_
  refine j_iload_n (pc := 34) C d_State_clear_34 rfl 0 rfl ?_
  refine j_iconst (pc := 35) C (v := 0) d_State_clear_35 (by decide) ?_
  refine j_iast (pc := 36) C 2 rfl (ws' := [(h, .inr (7, [.int 0, .int 0, .int 0, .ref (sa 0), .ref (sa 1), .ref (sa 2), .ref (sa 3), .ref (sa 4), .ref (sa 5), .ref (sa 6)])), (sa 0, .inl (y 0, 9, .inl (upd (upd f0 0 0) 1 0))), (sa 1, .inl (y 0, 9, .inl (upd (upd f1 0 0) 1 0))), (sa 2, .inl (y 1, 9, .inr (.inl (vp_updL f2 0 0)))), (sa 3, .inl (y 0, 6, .inl f3)), (sa 4, .inl (y 0, 6, .inl f4)), (sa 5, .inl (y 0, 16, .inl f5)), (sa 6, .inl (y 1, 5, .inr (.inl f6)))]) (vin (by decide)) rfl d_State_clear_36 ?_
  refine j_aload_n (pc := 37) C d_State_clear_37 rfl 1 rfl ?_
  refine j_get (pc := 38) C gf_State_18 0 rfl rfl d_State_clear_38 ?_
  refine j_iload_n (pc := 41) C d_State_clear_41 rfl 0 rfl ?_
  refine j_lconst (pc := 42) C (v := 0) d_State_clear_42 (by decide) ?_
  refine j_last (pc := 43) C 3 rfl (ws' := [(h, .inr (7, [.int 0, .int 0, .int 0, .ref (sa 0), .ref (sa 1), .ref (sa 2), .ref (sa 3), .ref (sa 4), .ref (sa 5), .ref (sa 6)])), (sa 0, .inl (y 0, 9, .inl (upd (upd f0 0 0) 1 0))), (sa 1, .inl (y 0, 9, .inl (upd (upd f1 0 0) 1 0))), (sa 2, .inl (y 1, 9, .inr (.inl (vp_updL (vp_updL f2 0 0) 1 0)))), (sa 3, .inl (y 0, 6, .inl f3)), (sa 4, .inl (y 0, 6, .inl f4)), (sa 5, .inl (y 0, 16, .inl f5)), (sa 6, .inl (y 1, 5, .inr (.inl f6)))]) (vin (by decide)) rfl d_State_clear_43 ?_
  refine j_iinc (pc := 44) C (v := 2) (lv' := [(1, .int 2), (0, .ref h)]) d_State_clear_44 0 rfl (by decide) (by decide) rfl ?_
  refine j_goto (pc := 47) C (tgt := 17) d_State_clear_47 (by decide) ?_
  refine j_iload_n (pc := 17) C d_State_clear_17 rfl 0 rfl ?_
  refine j_bipush (pc := 18) C (v := 9) d_State_clear_18 (by decide) ?_
  refine j_icmp_geF (pc := 20) C (tgt := 50) d_State_clear_20 (by decide) (by decide) ?_
  refine j_aload_n (pc := 23) C d_State_clear_23 rfl 1 rfl ?_
  refine j_get (pc := 24) C gf_State_9 0 rfl rfl d_State_clear_24 ?_
  refine j_iload_n (pc := 27) C d_State_clear_27 rfl 0 rfl ?_
  refine j_iconst (pc := 28) C (v := 0) d_State_clear_28 (by decide) ?_
  refine j_iast (pc := 29) C 1 rfl (ws' := [(h, .inr (7, [.int 0, .int 0, .int 0, .ref (sa 0), .ref (sa 1), .ref (sa 2), .ref (sa 3), .ref (sa 4), .ref (sa 5), .ref (sa 6)])), (sa 0, .inl (y 0, 9, .inl (upd (upd (upd f0 0 0) 1 0) 2 0))), (sa 1, .inl (y 0, 9, .inl (upd (upd f1 0 0) 1 0))), (sa 2, .inl (y 1, 9, .inr (.inl (vp_updL (vp_updL f2 0 0) 1 0)))), (sa 3, .inl (y 0, 6, .inl f3)), (sa 4, .inl (y 0, 6, .inl f4)), (sa 5, .inl (y 0, 16, .inl f5)), (sa 6, .inl (y 1, 5, .inr (.inl f6)))]) (vin (by decide)) rfl d_State_clear_29 ?_
  refine j_aload_n (pc := 30) C d_State_clear_30 rfl 1 rfl ?_
  refine j_get (pc := 31) C gf_State_15 0 rfl rfl d_State_clear_31 ?_
  refine j_iload_n (pc := 34) C d_State_clear_34 rfl 0 rfl ?_
  refine j_iconst (pc := 35) C (v := 0) d_State_clear_35 (by decide) ?_
  refine j_iast (pc := 36) C 2 rfl (ws' := [(h, .inr (7, [.int 0, .int 0, .int 0, .ref (sa 0), .ref (sa 1), .ref (sa 2), .ref (sa 3), .ref (sa 4), .ref (sa 5), .ref (sa 6)])), (sa 0, .inl (y 0, 9, .inl (upd (upd (upd f0 0 0) 1 0) 2 0))), (sa 1, .inl (y 0, 9, .inl (upd (upd (upd f1 0 0) 1 0) 2 0))), (sa 2, .inl (y 1, 9, .inr (.inl (vp_updL (vp_updL f2 0 0) 1 0)))), (sa 3, .inl (y 0, 6, .inl f3)), (sa 4, .inl (y 0, 6, .inl f4)), (sa 5, .inl (y 0, 16, .inl f5)), (sa 6, .inl (y 1, 5, .inr (.inl f6)))]) (vin (by decide)) rfl d_State_clear_36 ?_
  refine j_aload_n (pc := 37) C d_State_clear_37 rfl 1 rfl ?_
  refine j_get (pc := 38) C gf_State_18 0 rfl rfl d_State_clear_38 ?_
  refine j_iload_n (pc := 41) C d_State_clear_41 rfl 0 rfl ?_
  refine j_lconst (pc := 42) C (v := 0) d_State_clear_42 (by decide) ?_
  refine j_last (pc := 43) C 3 rfl (ws' := [(h, .inr (7, [.int 0, .int 0, .int 0, .ref (sa 0), .ref (sa 1), .ref (sa 2), .ref (sa 3), .ref (sa 4), .ref (sa 5), .ref (sa 6)])), (sa 0, .inl (y 0, 9, .inl (upd (upd (upd f0 0 0) 1 0) 2 0))), (sa 1, .inl (y 0, 9, .inl (upd (upd (upd f1 0 0) 1 0) 2 0))), (sa 2, .inl (y 1, 9, .inr (.inl (vp_updL (vp_updL (vp_updL f2 0 0) 1 0) 2 0)))), (sa 3, .inl (y 0, 6, .inl f3)), (sa 4, .inl (y 0, 6, .inl f4)), (sa 5, .inl (y 0, 16, .inl f5)), (sa 6, .inl (y 1, 5, .inr (.inl f6)))]) (vin (by decide)) rfl d_State_clear_43 ?_
  refine j_iinc (pc := 44) C (v := 3) (lv' := [(1, .int 3), (0, .ref h)]) d_State_clear_44 0 rfl (by decide) (by decide) rfl ?_
  refine j_goto (pc := 47) C (tgt := 17) d_State_clear_47 (by decide) ?_
  refine j_iload_n (pc := 17) C d_State_clear_17 rfl 0 rfl ?_
  refine j_bipush (pc := 18) C (v := 9) d_State_clear_18 (by decide) ?_
  refine j_icmp_geF (pc := 20) C (tgt := 50) d_State_clear_20 (by decide) (by decide) ?_
  refine j_aload_n (pc := 23) C d_State_clear_23 rfl 1 rfl ?_
  refine j_get (pc := 24) C gf_State_9 0 rfl rfl d_State_clear_24 ?_
  refine j_iload_n (pc := 27) C d_State_clear_27 rfl 0 rfl ?_
  refine j_iconst (pc := 28) C (v := 0) d_State_clear_28 (by decide) ?_
  refine j_iast (pc := 29) C 1 rfl (ws' := [(h, .inr (7, [.int 0, .int 0, .int 0, .ref (sa 0), .ref (sa 1), .ref (sa 2), .ref (sa 3), .ref (sa 4), .ref (sa 5), .ref (sa 6)])), (sa 0, .inl (y 0, 9, .inl (upd (upd (upd (upd f0 0 0) 1 0) 2 0) 3 0))), (sa 1, .inl (y 0, 9, .inl (upd (upd (upd f1 0 0) 1 0) 2 0))), (sa 2, .inl (y 1, 9, .inr (.inl (vp_updL (vp_updL (vp_updL f2 0 0) 1 0) 2 0)))), (sa 3, .inl (y 0, 6, .inl f3)), (sa 4, .inl (y 0, 6, .inl f4)), (sa 5, .inl (y 0, 16, .inl f5)), (sa 6, .inl (y 1, 5, .inr (.inl f6)))]) (vin (by decide)) rfl d_State_clear_29 ?_
  refine j_aload_n (pc := 30) C d_State_clear_30 rfl 1 rfl ?_
  refine j_get (pc := 31) C gf_State_15 0 rfl rfl d_State_clear_31 ?_
  refine j_iload_n (pc := 34) C d_State_clear_34 rfl 0 rfl ?_
  refine j_iconst (pc := 35) C (v := 0) d_State_clear_35 (by decide) ?_
  refine j_iast (pc := 36) C 2 rfl (ws' := [(h, .inr (7, [.int 0, .int 0, .int 0, .ref (sa 0), .ref (sa 1), .ref (sa 2), .ref (sa 3), .ref (sa 4), .ref (sa 5), .ref (sa 6)])), (sa 0, .inl (y 0, 9, .inl (upd (upd (upd (upd f0 0 0) 1 0) 2 0) 3 0))), (sa 1, .inl (y 0, 9, .inl (upd (upd (upd (upd f1 0 0) 1 0) 2 0) 3 0))), (sa 2, .inl (y 1, 9, .inr (.inl (vp_updL (vp_updL (vp_updL f2 0 0) 1 0) 2 0)))), (sa 3, .inl (y 0, 6, .inl f3)), (sa 4, .inl (y 0, 6, .inl f4)), (sa 5, .inl (y 0, 16, .inl f5)), (sa 6, .inl (y 1, 5, .inr (.inl f6)))]) (vin (by decide)) rfl d_State_clear_36 ?_
  refine j_aload_n (pc := 37) C d_State_clear_37 rfl 1 rfl ?_
  refine j_get (pc := 38) C gf_State_18 0 rfl rfl d_State_clear_38 ?_
  refine j_iload_n (pc := 41) C d_State_clear_41 rfl 0 rfl ?_
  refine j_lconst (pc := 42) C (v := 0) d_State_clear_42 (by decide) ?_
  refine j_last (pc := 43) C 3 rfl (ws' := [(h, .inr (7, [.int 0, .int 0, .int 0, .ref (sa 0), .ref (sa 1), .ref (sa 2), .ref (sa 3), .ref (sa 4), .ref (sa 5), .ref (sa 6)])), (sa 0, .inl (y 0, 9, .inl (upd (upd (upd (upd f0 0 0) 1 0) 2 0) 3 0))), (sa 1, .inl (y 0, 9, .inl (upd (upd (upd (upd f1 0 0) 1 0) 2 0) 3 0))), (sa 2, .inl (y 1, 9, .inr (.inl (vp_updL (vp_updL (vp_updL (vp_updL f2 0 0) 1 0) 2 0) 3 0)))), (sa 3, .inl (y 0, 6, .inl f3)), (sa 4, .inl (y 0, 6, .inl f4)), (sa 5, .inl (y 0, 16, .inl f5)), (sa 6, .inl (y 1, 5, .inr (.inl f6)))]) (vin (by decide)) rfl d_State_clear_43 ?_
  refine j_iinc (pc := 44) C (v := 4) (lv' := [(1, .int 4), (0, .ref h)]) d_State_clear_44 0 rfl (by decide) (by decide) rfl ?_
  refine j_goto (pc := 47) C (tgt := 17) d_State_clear_47 (by decide) ?_
  refine j_iload_n (pc := 17) C d_State_clear_17 rfl 0 rfl ?_
  refine j_bipush (pc := 18) C (v := 9) d_State_clear_18 (by decide) ?_
  refine j_icmp_geF (pc := 20) C (tgt := 50) d_State_clear_20 (by decide) (by decide) ?_
  refine j_aload_n (pc := 23) C d_State_clear_23 rfl 1 rfl ?_
  refine j_get (pc := 24) C gf_State_9 0 rfl rfl d_State_clear_24 ?_
  refine j_iload_n (pc := 27) C d_State_clear_27 rfl 0 rfl ?_
  refine j_iconst (pc := 28) C (v := 0) d_State_clear_28 (by decide) ?_
  refine j_iast (pc := 29) C 1 rfl (ws' := [(h, .inr (7, [.int 0, .int 0, .int 0, .ref (sa 0), .ref (sa 1), .ref (sa 2), .ref (sa 3), .ref (sa 4), .ref (sa 5), .ref (sa 6)])), (sa 0, .inl (y 0, 9, .inl (upd (upd (upd (upd (upd f0 0 0) 1 0) 2 0) 3 0) 4 0))), (sa 1, .inl (y 0, 9, .inl (upd (upd (upd (upd f1 0 0) 1 0) 2 0) 3 0))), (sa 2, .inl (y 1, 9, .inr (.inl (vp_updL (vp_updL (vp_updL (vp_updL f2 0 0) 1 0) 2 0) 3 0)))), (sa 3, .inl (y 0, 6, .inl f3)), (sa 4, .inl (y 0, 6, .inl f4)), (sa 5, .inl (y 0, 16, .inl f5)), (sa 6, .inl (y 1, 5, .inr (.inl f6)))]) (vin (by decide)) rfl d_State_clear_29 ?_
  refine j_aload_n (pc := 30) C d_State_clear_30 rfl 1 rfl ?_
  refine j_get (pc := 31) C gf_State_15 0 rfl rfl d_State_clear_31 ?_
  refine j_iload_n (pc := 34) C d_State_clear_34 rfl 0 rfl ?_
  refine j_iconst (pc := 35) C (v := 0) d_State_clear_35 (by decide) ?_
  refine j_iast (pc := 36) C 2 rfl (ws' := [(h, .inr (7, [.int 0, .int 0, .int 0, .ref (sa 0), .ref (sa 1), .ref (sa 2), .ref (sa 3), .ref (sa 4), .ref (sa 5), .ref (sa 6)])), (sa 0, .inl (y 0, 9, .inl (upd (upd (upd (upd (upd f0 0 0) 1 0) 2 0) 3 0) 4 0))), (sa 1, .inl (y 0, 9, .inl (upd (upd (upd (upd (upd f1 0 0) 1 0) 2 0) 3 0) 4 0))), (sa 2, .inl (y 1, 9, .inr (.inl (vp_updL (vp_updL (vp_updL (vp_updL f2 0 0) 1 0) 2 0) 3 0)))), (sa 3, .inl (y 0, 6, .inl f3)), (sa 4, .inl (y 0, 6, .inl f4)), (sa 5, .inl (y 0, 16, .inl f5)), (sa 6, .inl (y 1, 5, .inr (.inl f6)))]) (vin (by decide)) rfl d_State_clear_36 ?_
  refine j_aload_n (pc := 37) C d_State_clear_37 rfl 1 rfl ?_
  refine j_get (pc := 38) C gf_State_18 0 rfl rfl d_State_clear_38 ?_
  refine j_iload_n (pc := 41) C d_State_clear_41 rfl 0 rfl ?_
  refine j_lconst (pc := 42) C (v := 0) d_State_clear_42 (by decide) ?_
  refine j_last (pc := 43) C 3 rfl (ws' := [(h, .inr (7, [.int 0, .int 0, .int 0, .ref (sa 0), .ref (sa 1), .ref (sa 2), .ref (sa 3), .ref (sa 4), .ref (sa 5), .ref (sa 6)])), (sa 0, .inl (y 0, 9, .inl (upd (upd (upd (upd (upd f0 0 0) 1 0) 2 0) 3 0) 4 0))), (sa 1, .inl (y 0, 9, .inl (upd (upd (upd (upd (upd f1 0 0) 1 0) 2 0) 3 0) 4 0))), (sa 2, .inl (y 1, 9, .inr (.inl (vp_updL (vp_updL (vp_updL (vp_updL (vp_updL f2 0 0) 1 0) 2 0) 3 0) 4 0)))), (sa 3, .inl (y 0, 6, .inl f3)), (sa 4, .inl (y 0, 6, .inl f4)), (sa 5, .inl (y 0, 16, .inl f5)), (sa 6, .inl (y 1, 5, .inr (.inl f6)))]) (vin (by decide)) rfl d_State_clear_43 ?_
  refine j_iinc (pc := 44) C (v := 5) (lv' := [(1, .int 5), (0, .ref h)]) d_State_clear_44 0 rfl (by decide) (by decide) rfl ?_
  refine j_goto (pc := 47) C (tgt := 17) d_State_clear_47 (by decide) ?_
  refine j_iload_n (pc := 17) C d_State_clear_17 rfl 0 rfl ?_
  refine j_bipush (pc := 18) C (v := 9) d_State_clear_18 (by decide) ?_
  refine j_icmp_geF (pc := 20) C (tgt := 50) d_State_clear_20 (by decide) (by decide) ?_
  refine j_aload_n (pc := 23) C d_State_clear_23 rfl 1 rfl ?_
  refine j_get (pc := 24) C gf_State_9 0 rfl rfl d_State_clear_24 ?_
  refine j_iload_n (pc := 27) C d_State_clear_27 rfl 0 rfl ?_
  refine j_iconst (pc := 28) C (v := 0) d_State_clear_28 (by decide) ?_
  refine j_iast (pc := 29) C 1 rfl (ws' := [(h, .inr (7, [.int 0, .int 0, .int 0, .ref (sa 0), .ref (sa 1), .ref (sa 2), .ref (sa 3), .ref (sa 4), .ref (sa 5), .ref (sa 6)])), (sa 0, .inl (y 0, 9, .inl (upd (upd (upd (upd (upd (upd f0 0 0) 1 0) 2 0) 3 0) 4 0) 5 0))), (sa 1, .inl (y 0, 9, .inl (upd (upd (upd (upd (upd f1 0 0) 1 0) 2 0) 3 0) 4 0))), (sa 2, .inl (y 1, 9, .inr (.inl (vp_updL (vp_updL (vp_updL (vp_updL (vp_updL f2 0 0) 1 0) 2 0) 3 0) 4 0)))), (sa 3, .inl (y 0, 6, .inl f3)), (sa 4, .inl (y 0, 6, .inl f4)), (sa 5, .inl (y 0, 16, .inl f5)), (sa 6, .inl (y 1, 5, .inr (.inl f6)))]) (vin (by decide)) rfl d_State_clear_29 ?_
  refine j_aload_n (pc := 30) C d_State_clear_30 rfl 1 rfl ?_
  refine j_get (pc := 31) C gf_State_15 0 rfl rfl d_State_clear_31 ?_
  refine j_iload_n (pc := 34) C d_State_clear_34 rfl 0 rfl ?_
  refine j_iconst (pc := 35) C (v := 0) d_State_clear_35 (by decide) ?_
  refine j_iast (pc := 36) C 2 rfl (ws' := [(h, .inr (7, [.int 0, .int 0, .int 0, .ref (sa 0), .ref (sa 1), .ref (sa 2), .ref (sa 3), .ref (sa 4), .ref (sa 5), .ref (sa 6)])), (sa 0, .inl (y 0, 9, .inl (upd (upd (upd (upd (upd (upd f0 0 0) 1 0) 2 0) 3 0) 4 0) 5 0))), (sa 1, .inl (y 0, 9, .inl (upd (upd (upd (upd (upd (upd f1 0 0) 1 0) 2 0) 3 0) 4 0) 5 0))), (sa 2, .inl (y 1, 9, .inr (.inl (vp_updL (vp_updL (vp_updL (vp_updL (vp_updL f2 0 0) 1 0) 2 0) 3 0) 4 0)))), (sa 3, .inl (y 0, 6, .inl f3)), (sa 4, .inl (y 0, 6, .inl f4)), (sa 5, .inl (y 0, 16, .inl f5)), (sa 6, .inl (y 1, 5, .inr (.inl f6)))]) (vin (by decide)) rfl d_State_clear_36 ?_
  refine j_aload_n (pc := 37) C d_State_clear_37 rfl 1 rfl ?_
  refine j_get (pc := 38) C gf_State_18 0 rfl rfl d_State_clear_38 ?_
  refine j_iload_n (pc := 41) C d_State_clear_41 rfl 0 rfl ?_
  refine j_lconst (pc := 42) C (v := 0) d_State_clear_42 (by decide) ?_
  refine j_last (pc := 43) C 3 rfl (ws' := [(h, .inr (7, [.int 0, .int 0, .int 0, .ref (sa 0), .ref (sa 1), .ref (sa 2), .ref (sa 3), .ref (sa 4), .ref (sa 5), .ref (sa 6)])), (sa 0, .inl (y 0, 9, .inl (upd (upd (upd (upd (upd (upd f0 0 0) 1 0) 2 0) 3 0) 4 0) 5 0))), (sa 1, .inl (y 0, 9, .inl (upd (upd (upd (upd (upd (upd f1 0 0) 1 0) 2 0) 3 0) 4 0) 5 0))), (sa 2, .inl (y 1, 9, .inr (.inl (vp_updL (vp_updL (vp_updL (vp_updL (vp_updL (vp_updL f2 0 0) 1 0) 2 0) 3 0) 4 0) 5 0)))), (sa 3, .inl (y 0, 6, .inl f3)), (sa 4, .inl (y 0, 6, .inl f4)), (sa 5, .inl (y 0, 16, .inl f5)), (sa 6, .inl (y 1, 5, .inr (.inl f6)))]) (vin (by decide)) rfl d_State_clear_43 ?_
  refine j_iinc (pc := 44) C (v := 6) (lv' := [(1, .int 6), (0, .ref h)]) d_State_clear_44 0 rfl (by decide) (by decide) rfl ?_
  refine j_goto (pc := 47) C (tgt := 17) d_State_clear_47 (by decide) ?_
  refine j_iload_n (pc := 17) C d_State_clear_17 rfl 0 rfl ?_
  refine j_bipush (pc := 18) C (v := 9) d_State_clear_18 (by decide) ?_
  refine j_icmp_geF (pc := 20) C (tgt := 50) d_State_clear_20 (by decide) (by decide) ?_
  refine j_aload_n (pc := 23) C d_State_clear_23 rfl 1 rfl ?_
  refine j_get (pc := 24) C gf_State_9 0 rfl rfl d_State_clear_24 ?_
  refine j_iload_n (pc := 27) C d_State_clear_27 rfl 0 rfl ?_
  refine j_iconst (pc := 28) C (v := 0) d_State_clear_28 (by decide) ?_
  refine j_iast (pc := 29) C 1 rfl (ws' := [(h, .inr (7, [.int 0, .int 0, .int 0, .ref (sa 0), .ref (sa 1), .ref (sa 2), .ref (sa 3), .ref (sa 4), .ref (sa 5), .ref (sa 6)])), (sa 0, .inl (y 0, 9, .inl (upd (upd (upd (upd (upd (upd (upd f0 0 0) 1 0) 2 0) 3 0) 4 0) 5 0) 6 0))), (sa 1, .inl (y 0, 9, .inl (upd (upd (upd (upd (upd (upd f1 0 0) 1 0) 2 0) 3 0) 4 0) 5 0))), (sa 2, .inl (y 1, 9, .inr (.inl (vp_updL (vp_updL (vp_updL (vp_updL (vp_updL (vp_updL f2 0 0) 1 0) 2 0) 3 0) 4 0) 5 0)))), (sa 3, .inl (y 0, 6, .inl f3)), (sa 4, .inl (y 0, 6, .inl f4)), (sa 5, .inl (y 0, 16, .inl f5)), (sa 6, .inl (y 1, 5, .inr (.inl f6)))]) (vin (by decide)) rfl d_State_clear_29 ?_
  refine j_aload_n (pc := 30) C d_State_clear_30 rfl 1 rfl ?_
  refine j_get (pc := 31) C gf_State_15 0 rfl rfl d_State_clear_31 ?_
  refine j_iload_n (pc := 34) C d_State_clear_34 rfl 0 rfl ?_
  refine j_iconst (pc := 35) C (v := 0) d_State_clear_35 (by decide) ?_
  refine j_iast (pc := 36) C 2 rfl (ws' := [(h, .inr (7, [.int 0, .int 0, .int 0, .ref (sa 0), .ref (sa 1), .ref (sa 2), .ref (sa 3), .ref (sa 4), .ref (sa 5), .ref (sa 6)])), (sa 0, .inl (y 0, 9, .inl (upd (upd (upd (upd (upd (upd (upd f0 0 0) 1 0) 2 0) 3 0) 4 0) 5 0) 6 0))), (sa 1, .inl (y 0, 9, .inl (upd (upd (upd (upd (upd (upd (upd f1 0 0) 1 0) 2 0) 3 0) 4 0) 5 0) 6 0))), (sa 2, .inl (y 1, 9, .inr (.inl (vp_updL (vp_updL (vp_updL (vp_updL (vp_updL (vp_updL f2 0 0) 1 0) 2 0) 3 0) 4 0) 5 0)))), (sa 3, .inl (y 0, 6, .inl f3)), (sa 4, .inl (y 0, 6, .inl f4)), (sa 5, .inl (y 0, 16, .inl f5)), (sa 6, .inl (y 1, 5, .inr (.inl f6)))]) (vin (by decide)) rfl d_State_clear_36 ?_
  refine j_aload_n (pc := 37) C d_State_clear_37 rfl 1 rfl ?_
  refine j_get (pc := 38) C gf_State_18 0 rfl rfl d_State_clear_38 ?_
  refine j_iload_n (pc := 41) C d_State_clear_41 rfl 0 rfl ?_
  refine j_lconst (pc := 42) C (v := 0) d_State_clear_42 (by decide) ?_
  refine j_last (pc := 43) C 3 rfl (ws' := [(h, .inr (7, [.int 0, .int 0, .int 0, .ref (sa 0), .ref (sa 1), .ref (sa 2), .ref (sa 3), .ref (sa 4), .ref (sa 5), .ref (sa 6)])), (sa 0, .inl (y 0, 9, .inl (upd (upd (upd (upd (upd (upd (upd f0 0 0) 1 0) 2 0) 3 0) 4 0) 5 0) 6 0))), (sa 1, .inl (y 0, 9, .inl (upd (upd (upd (upd (upd (upd (upd f1 0 0) 1 0) 2 0) 3 0) 4 0) 5 0) 6 0))), (sa 2, .inl (y 1, 9, .inr (.inl (vp_updL (vp_updL (vp_updL (vp_updL (vp_updL (vp_updL (vp_updL f2 0 0) 1 0) 2 0) 3 0) 4 0) 5 0) 6 0)))), (sa 3, .inl (y 0, 6, .inl f3)), (sa 4, .inl (y 0, 6, .inl f4)), (sa 5, .inl (y 0, 16, .inl f5)), (sa 6, .inl (y 1, 5, .inr (.inl f6)))]) (vin (by decide)) rfl d_State_clear_43 ?_
  refine j_iinc (pc := 44) C (v := 7) (lv' := [(1, .int 7), (0, .ref h)]) d_State_clear_44 0 rfl (by decide) (by decide) rfl ?_
  refine j_goto (pc := 47) C (tgt := 17) d_State_clear_47 (by decide) ?_
  refine j_iload_n (pc := 17) C d_State_clear_17 rfl 0 rfl ?_
  refine j_bipush (pc := 18) C (v := 9) d_State_clear_18 (by decide) ?_
  refine j_icmp_geF (pc := 20) C (tgt := 50) d_State_clear_20 (by decide) (by decide) ?_
  refine j_aload_n (pc := 23) C d_State_clear_23 rfl 1 rfl ?_
  refine j_get (pc := 24) C gf_State_9 0 rfl rfl d_State_clear_24 ?_
  refine j_iload_n (pc := 27) C d_State_clear_27 rfl 0 rfl ?_
  refine j_iconst (pc := 28) C (v := 0) d_State_clear_28 (by decide) ?_
  refine j_iast (pc := 29) C 1 rfl (ws' := [(h, .inr (7, [.int 0, .int 0, .int 0, .ref (sa 0), .ref (sa 1), .ref (sa 2), .ref (sa 3), .ref (sa 4), .ref (sa 5), .ref (sa 6)])), (sa 0, .inl (y 0, 9, .inl (upd (upd (upd (upd (upd (upd (upd (upd f0 0 0) 1 0) 2 0) 3 0) 4 0) 5 0) 6 0) 7 0))), (sa 1, .inl (y 0, 9, .inl (upd (upd (upd (upd (upd (upd (upd f1 0 0) 1 0) 2 0) 3 0) 4 0) 5 0) 6 0))), (sa 2, .inl (y 1, 9, .inr (.inl (vp_updL (vp_updL (vp_updL (vp_updL (vp_updL (vp_updL (vp_updL f2 0 0) 1 0) 2 0) 3 0) 4 0) 5 0) 6 0)))), (sa 3, .inl (y 0, 6, .inl f3)), (sa 4, .inl (y 0, 6, .inl f4)), (sa 5, .inl (y 0, 16, .inl f5)), (sa 6, .inl (y 1, 5, .inr (.inl f6)))]) (vin (by decide)) rfl d_State_clear_29 ?_
  refine j_aload_n (pc := 30) C d_State_clear_30 rfl 1 rfl ?_
  refine j_get (pc := 31) C gf_State_15 0 rfl rfl d_State_clear_31 ?_
  refine j_iload_n (pc := 34) C d_State_clear_34 rfl 0 rfl ?_
  refine j_iconst (pc := 35) C (v := 0) d_State_clear_35 (by decide) ?_
  refine j_iast (pc := 36) C 2 rfl (ws' := [(h, .inr (7, [.int 0, .int 0, .int 0, .ref (sa 0), .ref (sa 1), .ref (sa 2), .ref (sa 3), .ref (sa 4), .ref (sa 5), .ref (sa 6)])), (sa 0, .inl (y 0, 9, .inl (upd (upd (upd (upd (upd (upd (upd (upd f0 0 0) 1 0) 2 0) 3 0) 4 0) 5 0) 6 0) 7 0))), (sa 1, .inl (y 0, 9, .inl (upd (upd (upd (upd (upd (upd (upd (upd f1 0 0) 1 0) 2 0) 3 0) 4 0) 5 0) 6 0) 7 0))), (sa 2, .inl (y 1, 9, .inr (.inl (vp_updL (vp_updL (vp_updL (vp_updL (vp_updL (vp_updL (vp_updL f2 0 0) 1 0) 2 0) 3 0) 4 0) 5 0) 6 0)))), (sa 3, .inl (y 0, 6, .inl f3)), (sa 4, .inl (y 0, 6, .inl f4)), (sa 5, .inl (y 0, 16, .inl f5)), (sa 6, .inl (y 1, 5, .inr (.inl f6)))]) (vin (by decide)) rfl d_State_clear_36 ?_
  refine j_aload_n (pc := 37) C d_State_clear_37 rfl 1 rfl ?_
  refine j_get (pc := 38) C gf_State_18 0 rfl rfl d_State_clear_38 ?_
  refine j_iload_n (pc := 41) C d_State_clear_41 rfl 0 rfl ?_
  refine j_lconst (pc := 42) C (v := 0) d_State_clear_42 (by decide) ?_
  refine j_last (pc := 43) C 3 rfl (ws' := [(h, .inr (7, [.int 0, .int 0, .int 0, .ref (sa 0), .ref (sa 1), .ref (sa 2), .ref (sa 3), .ref (sa 4), .ref (sa 5), .ref (sa 6)])), (sa 0, .inl (y 0, 9, .inl (upd (upd (upd (upd (upd (upd (upd (upd f0 0 0) 1 0) 2 0) 3 0) 4 0) 5 0) 6 0) 7 0))), (sa 1, .inl (y 0, 9, .inl (upd (upd (upd (upd (upd (upd (upd (upd f1 0 0) 1 0) 2 0) 3 0) 4 0) 5 0) 6 0) 7 0))), (sa 2, .inl (y 1, 9, .inr (.inl (vp_updL (vp_updL (vp_updL (vp_updL (vp_updL (vp_updL (vp_updL (vp_updL f2 0 0) 1 0) 2 0) 3 0) 4 0) 5 0) 6 0) 7 0)))), (sa 3, .inl (y 0, 6, .inl f3)), (sa 4, .inl (y 0, 6, .inl f4)), (sa 5, .inl (y 0, 16, .inl f5)), (sa 6, .inl (y 1, 5, .inr (.inl f6)))]) (vin (by decide)) rfl d_State_clear_43 ?_
  refine j_iinc (pc := 44) C (v := 8) (lv' := [(1, .int 8), (0, .ref h)]) d_State_clear_44 0 rfl (by decide) (by decide) rfl ?_
  refine j_goto (pc := 47) C (tgt := 17) d_State_clear_47 (by decide) ?_
  refine j_iload_n (pc := 17) C d_State_clear_17 rfl 0 rfl ?_
  refine j_bipush (pc := 18) C (v := 9) d_State_clear_18 (by decide) ?_
  refine j_icmp_geF (pc := 20) C (tgt := 50) d_State_clear_20 (by decide) (by decide) ?_
  refine j_aload_n (pc := 23) C d_State_clear_23 rfl 1 rfl ?_
  refine j_get (pc := 24) C gf_State_9 0 rfl rfl d_State_clear_24 ?_
  refine j_iload_n (pc := 27) C d_State_clear_27 rfl 0 rfl ?_
  refine j_iconst (pc := 28) C (v := 0) d_State_clear_28 (by decide) ?_
  refine j_iast (pc := 29) C 1 rfl (ws' := [(h, .inr (7, [.int 0, .int 0, .int 0, .ref (sa 0), .ref (sa 1), .ref (sa 2), .ref (sa 3), .ref (sa 4), .ref (sa 5), .ref (sa 6)])), (sa 0, .inl (y 0, 9, .inl (upd (upd (upd (upd (upd (upd (upd (upd (upd f0 0 0) 1 0) 2 0) 3 0) 4 0) 5 0) 6 0) 7 0) 8 0))), (sa 1, .inl (y 0, 9, .inl (upd (upd (upd (upd (upd (upd (upd (upd f1 0 0) 1 0) 2 0) 3 0) 4 0) 5 0) 6 0) 7 0))), (sa 2, .inl (y 1, 9, .inr (.inl (vp_updL (vp_updL (vp_updL (vp_updL (vp_updL (vp_updL (vp_updL (vp_updL f2 0 0) 1 0) 2 0) 3 0) 4 0) 5 0) 6 0) 7 0)))), (sa 3, .inl (y 0, 6, .inl f3)), (sa 4, .inl (y 0, 6, .inl f4)), (sa 5, .inl (y 0, 16, .inl f5)), (sa 6, .inl (y 1, 5, .inr (.inl f6)))]) (vin (by decide)) rfl d_State_clear_29 ?_
  refine j_aload_n (pc := 30) C d_State_clear_30 rfl 1 rfl ?_
  refine j_get (pc := 31) C gf_State_15 0 rfl rfl d_State_clear_31 ?_
  refine j_iload_n (pc := 34) C d_State_clear_34 rfl 0 rfl ?_
  refine j_iconst (pc := 35) C (v := 0) d_State_clear_35 (by decide) ?_
  refine j_iast (pc := 36) C 2 rfl (ws' := [(h, .inr (7, [.int 0, .int 0, .int 0, .ref (sa 0), .ref (sa 1), .ref (sa 2), .ref (sa 3), .ref (sa 4), .ref (sa 5), .ref (sa 6)])), (sa 0, .inl (y 0, 9, .inl (upd (upd (upd (upd (upd (upd (upd (upd (upd f0 0 0) 1 0) 2 0) 3 0) 4 0) 5 0) 6 0) 7 0) 8 0))), (sa 1, .inl (y 0, 9, .inl (upd (upd (upd (upd (upd (upd (upd (upd (upd f1 0 0) 1 0) 2 0) 3 0) 4 0) 5 0) 6 0) 7 0) 8 0))), (sa 2, .inl (y 1, 9, .inr (.inl (vp_updL (vp_updL (vp_updL (vp_updL (vp_updL (vp_updL (vp_updL (vp_updL f2 0 0) 1 0) 2 0) 3 0) 4 0) 5 0) 6 0) 7 0)))), (sa 3, .inl (y 0, 6, .inl f3)), (sa 4, .inl (y 0, 6, .inl f4)), (sa 5, .inl (y 0, 16, .inl f5)), (sa 6, .inl (y 1, 5, .inr (.inl f6)))]) (vin (by decide)) rfl d_State_clear_36 ?_
  refine j_aload_n (pc := 37) C d_State_clear_37 rfl 1 rfl ?_
  refine j_get (pc := 38) C gf_State_18 0 rfl rfl d_State_clear_38 ?_
  refine j_iload_n (pc := 41) C d_State_clear_41 rfl 0 rfl ?_
  refine j_lconst (pc := 42) C (v := 0) d_State_clear_42 (by decide) ?_
  refine j_last (pc := 43) C 3 rfl (ws' := [(h, .inr (7, [.int 0, .int 0, .int 0, .ref (sa 0), .ref (sa 1), .ref (sa 2), .ref (sa 3), .ref (sa 4), .ref (sa 5), .ref (sa 6)])), (sa 0, .inl (y 0, 9, .inl (upd (upd (upd (upd (upd (upd (upd (upd (upd f0 0 0) 1 0) 2 0) 3 0) 4 0) 5 0) 6 0) 7 0) 8 0))), (sa 1, .inl (y 0, 9, .inl (upd (upd (upd (upd (upd (upd (upd (upd (upd f1 0 0) 1 0) 2 0) 3 0) 4 0) 5 0) 6 0) 7 0) 8 0))), (sa 2, .inl (y 1, 9, .inr (.inl (vp_updL (vp_updL (vp_updL (vp_updL (vp_updL (vp_updL (vp_updL (vp_updL (vp_updL f2 0 0) 1 0) 2 0) 3 0) 4 0) 5 0) 6 0) 7 0) 8 0)))), (sa 3, .inl (y 0, 6, .inl f3)), (sa 4, .inl (y 0, 6, .inl f4)), (sa 5, .inl (y 0, 16, .inl f5)), (sa 6, .inl (y 1, 5, .inr (.inl f6)))]) (vin (by decide)) rfl d_State_clear_43 ?_
  refine j_iinc (pc := 44) C (v := 9) (lv' := [(1, .int 9), (0, .ref h)]) d_State_clear_44 0 rfl (by decide) (by decide) rfl ?_
  refine j_goto (pc := 47) C (tgt := 17) d_State_clear_47 (by decide) ?_
  refine j_iload_n (pc := 17) C d_State_clear_17 rfl 0 rfl ?_
  refine j_bipush (pc := 18) C (v := 9) d_State_clear_18 (by decide) ?_
  refine j_icmp_geT (pc := 20) C (tgt := 50) d_State_clear_20 (by decide) (by decide) ?_
  refine j_iconst (pc := 50) C (v := 0) d_State_clear_50 (by decide) ?_
  refine j_istore_n (pc := 51) C (lv' := [(1, .int 0), (0, .ref h)]) d_State_clear_51 rfl (by decide) rfl ?_
  refine j_iload_n (pc := 52) C d_State_clear_52 rfl 0 rfl ?_
  refine j_bipush (pc := 53) C (v := 6) d_State_clear_53 (by decide) ?_
  refine j_icmp_geF (pc := 55) C (tgt := 78) d_State_clear_55 (by decide) (by decide) ?_
  refine j_aload_n (pc := 58) C d_State_clear_58 rfl 1 rfl ?_
  refine j_get (pc := 59) C gf_State_22 0 rfl rfl d_State_clear_59 ?_
  refine j_iload_n (pc := 62) C d_State_clear_62 rfl 0 rfl ?_
  refine j_iconst (pc := 63) C (v := 0) d_State_clear_63 (by decide) ?_
  refine j_iast (pc := 64) C 4 rfl (ws' := [(h, .inr (7, [.int 0, .int 0, .int 0, .ref (sa 0), .ref (sa 1), .ref (sa 2), .ref (sa 3), .ref (sa 4), .ref (sa 5), .ref (sa 6)])), (sa 0, .inl (y 0, 9, .inl (upd (upd (upd (upd (upd (upd (upd (upd (upd f0 0 0) 1 0) 2 0) 3 0) 4 0) 5 0) 6 0) 7 0) 8 0))), (sa 1, .inl (y 0, 9, .inl (upd (upd (upd (upd (upd (upd (upd (upd (upd f1 0 0) 1 0) 2 0) 3 0) 4 0) 5 0) 6 0) 7 0) 8 0))), (sa 2, .inl (y 1, 9, .inr (.inl (vp_updL (vp_updL (vp_updL (vp_updL (vp_updL (vp_updL (vp_updL (vp_updL (vp_updL f2 0 0) 1 0) 2 0) 3 0) 4 0) 5 0) 6 0) 7 0) 8 0)))), (sa 3, .inl (y 0, 6, .inl (upd f3 0 0))), (sa 4, .inl (y 0, 6, .inl f4)), (sa 5, .inl (y 0, 16, .inl f5)), (sa 6, .inl (y 1, 5, .inr (.inl f6)))]) (vin (by decide)) rfl d_State_clear_64 ?_
  refine j_aload_n (pc := 65) C d_State_clear_65 rfl 1 rfl ?_
  refine j_get (pc := 66) C gf_State_25 0 rfl rfl d_State_clear_66 ?_
  refine j_iload_n (pc := 69) C d_State_clear_69 rfl 0 rfl ?_
  refine j_iconst (pc := 70) C (v := 0) d_State_clear_70 (by decide) ?_
  refine j_iast (pc := 71) C 5 rfl (ws' := [(h, .inr (7, [.int 0, .int 0, .int 0, .ref (sa 0), .ref (sa 1), .ref (sa 2), .ref (sa 3), .ref (sa 4), .ref (sa 5), .ref (sa 6)])), (sa 0, .inl (y 0, 9, .inl (upd (upd (upd (upd (upd (upd (upd (upd (upd f0 0 0) 1 0) 2 0) 3 0) 4 0) 5 0) 6 0) 7 0) 8 0))), (sa 1, .inl (y 0, 9, .inl (upd (upd (upd (upd (upd (upd (upd (upd (upd f1 0 0) 1 0) 2 0) 3 0) 4 0) 5 0) 6 0) 7 0) 8 0))), (sa 2, .inl (y 1, 9, .inr (.inl (vp_updL (vp_updL (vp_updL (vp_updL (vp_updL (vp_updL (vp_updL (vp_updL (vp_updL f2 0 0) 1 0) 2 0) 3 0) 4 0) 5 0) 6 0) 7 0) 8 0)))), (sa 3, .inl (y 0, 6, .inl (upd f3 0 0))), (sa 4, .inl (y 0, 6, .inl (upd f4 0 0))), (sa 5, .inl (y 0, 16, .inl f5)), (sa 6, .inl (y 1, 5, .inr (.inl f6)))]) (vin (by decide)) rfl d_State_clear_71 ?_
  refine j_iinc (pc := 72) C (v := 1) (lv' := [(1, .int 1), (0, .ref h)]) d_State_clear_72 0 rfl (by decide) (by decide) rfl ?_
  refine j_goto (pc := 75) C (tgt := 52) d_State_clear_75 (by decide) ?_
  refine j_iload_n (pc := 52) C d_State_clear_52 rfl 0 rfl ?_
  refine j_bipush (pc := 53) C (v := 6) d_State_clear_53 (by decide) ?_
  refine j_icmp_geF (pc := 55) C (tgt := 78) d_State_clear_55 (by decide) (by decide) ?_
  refine j_aload_n (pc := 58) C d_State_clear_58 rfl 1 rfl ?_
  refine j_get (pc := 59) C gf_State_22 0 rfl rfl d_State_clear_59 ?_
  refine j_iload_n (pc := 62) C d_State_clear_62 rfl 0 rfl ?_
  refine j_iconst (pc := 63) C (v := 0) d_State_clear_63 (by decide) ?_
  refine j_iast (pc := 64) C 4 rfl (ws' := [(h, .inr (7, [.int 0, .int 0, .int 0, .ref (sa 0), .ref (sa 1), .ref (sa 2), .ref (sa 3), .ref (sa 4), .ref (sa 5), .ref (sa 6)])), (sa 0, .inl (y 0, 9, .inl (upd (upd (upd (upd (upd (upd (upd (upd (upd f0 0 0) 1 0) 2 0) 3 0) 4 0) 5 0) 6 0) 7 0) 8 0))), (sa 1, .inl (y 0, 9, .inl (upd (upd (upd (upd (upd (upd (upd (upd (upd f1 0 0) 1 0) 2 0) 3 0) 4 0) 5 0) 6 0) 7 0) 8 0))), (sa 2, .inl (y 1, 9, .inr (.inl (vp_updL (vp_updL (vp_updL (vp_updL (vp_updL (vp_updL (vp_updL (vp_updL (vp_updL f2 0 0) 1 0) 2 0) 3 0) 4 0) 5 0) 6 0) 7 0) 8 0)))), (sa 3, .inl (y 0, 6, .inl (upd (upd f3 0 0) 1 0))), (sa 4, .inl (y 0, 6, .inl (upd f4 0 0))), (sa 5, .inl (y 0, 16, .inl f5)), (sa 6, .inl (y 1, 5, .inr (.inl f6)))]) (vin (by decide)) rfl d_State_clear_64 ?_
  refine j_aload_n (pc := 65) C d_State_clear_65 rfl 1 rfl ?_
  refine j_get (pc := 66) C gf_State_25 0 rfl rfl d_State_clear_66 ?_
  refine j_iload_n (pc := 69) C d_State_clear_69 rfl 0 rfl ?_
  refine j_iconst (pc := 70) C (v := 0) d_State_clear_70 (by decide) ?_
  refine j_iast (pc := 71) C 5 rfl (ws' := [(h, .inr (7, [.int 0, .int 0, .int 0, .ref (sa 0), .ref (sa 1), .ref (sa 2), .ref (sa 3), .ref (sa 4), .ref (sa 5), .ref (sa 6)])), (sa 0, .inl (y 0, 9, .inl (upd (upd (upd (upd (upd (upd (upd (upd (upd f0 0 0) 1 0) 2 0) 3 0) 4 0) 5 0) 6 0) 7 0) 8 0))), (sa 1, .inl (y 0, 9, .inl (upd (upd (upd (upd (upd (upd (upd (upd (upd f1 0 0) 1 0) 2 0) 3 0) 4 0) 5 0) 6 0) 7 0) 8 0))), (sa 2, .inl (y 1, 9, .inr (.inl (vp_updL (vp_updL (vp_updL (vp_updL (vp_updL (vp_updL (vp_updL (vp_updL (vp_updL f2 0 0) 1 0) 2 0) 3 0) 4 0) 5 0) 6 0) 7 0) 8 0)))), (sa 3, .inl (y 0, 6, .inl (upd (upd f3 0 0) 1 0))), (sa 4, .inl (y 0, 6, .inl (upd (upd f4 0 0) 1 0))), (sa 5, .inl (y 0, 16, .inl f5)), (sa 6, .inl (y 1, 5, .inr (.inl f6)))]) (vin (by decide)) rfl d_State_clear_71 ?_
  refine j_iinc (pc := 72) C (v := 2) (lv' := [(1, .int 2), (0, .ref h)]) d_State_clear_72 0 rfl (by decide) (by decide) rfl ?_
  refine j_goto (pc := 75) C (tgt := 52) d_State_clear_75 (by decide) ?_
  refine j_iload_n (pc := 52) C d_State_clear_52 rfl 0 rfl ?_
  refine j_bipush (pc := 53) C (v := 6) d_State_clear_53 (by decide) ?_
  refine j_icmp_geF (pc := 55) C (tgt := 78) d_State_clear_55 (by decide) (by decide) ?_
  refine j_aload_n (pc := 58) C d_State_clear_58 rfl 1 rfl ?_
  refine j_get (pc := 59) C gf_State_22 0 rfl rfl d_State_clear_59 ?_
  refine j_iload_n (pc := 62) C d_State_clear_62 rfl 0 rfl ?_
  refine j_iconst (pc := 63) C (v := 0) d_State_clear_63 (by decide) ?_
  refine j_iast (pc := 64) C 4 rfl (ws' := [(h, .inr (7, [.int 0, .int 0, .int 0, .ref (sa 0), .ref (sa 1), .ref (sa 2), .ref (sa 3), .ref (sa 4), .ref (sa 5), .ref (sa 6)])), (sa 0, .inl (y 0, 9, .inl (upd (upd (upd (upd (upd (upd (upd (upd (upd f0 0 0) 1 0) 2 0) 3 0) 4 0) 5 0) 6 0) 7 0) 8 0))), (sa 1, .inl (y 0, 9, .inl (upd (upd (upd (upd (upd (upd (upd (upd (upd f1 0 0) 1 0) 2 0) 3 0) 4 0) 5 0) 6 0) 7 0) 8 0))), (sa 2, .inl (y 1, 9, .inr (.inl (vp_updL (vp_updL (vp_updL (vp_updL (vp_updL (vp_updL (vp_updL (vp_updL (vp_updL f2 0 0) 1 0) 2 0) 3 0) 4 0) 5 0) 6 0) 7 0) 8 0)))), (sa 3, .inl (y 0, 6, .inl (upd (upd (upd f3 0 0) 1 0) 2 0))), (sa 4, .inl (y 0, 6, .inl (upd (upd f4 0 0) 1 0))), (sa 5, .inl (y 0, 16, .inl f5)), (sa 6, .inl (y 1, 5, .inr (.inl f6)))]) (vin (by decide)) rfl d_State_clear_64 ?_
  refine j_aload_n (pc := 65) C d_State_clear_65 rfl 1 rfl ?_
  refine j_get (pc := 66) C gf_State_25 0 rfl rfl d_State_clear_66 ?_
  refine j_iload_n (pc := 69) C d_State_clear_69 rfl 0 rfl ?_
  refine j_iconst (pc := 70) C (v := 0) d_State_clear_70 (by decide) ?_
  refine j_iast (pc := 71) C 5 rfl (ws' := [(h, .inr (7, [.int 0, .int 0, .int 0, .ref (sa 0), .ref (sa 1), .ref (sa 2), .ref (sa 3), .ref (sa 4), .ref (sa 5), .ref (sa 6)])), (sa 0, .inl (y 0, 9, .inl (upd (upd (upd (upd (upd (upd (upd (upd (upd f0 0 0) 1 0) 2 0) 3 0) 4 0) 5 0) 6 0) 7 0) 8 0))), (sa 1, .inl (y 0, 9, .inl (upd (upd (upd (upd (upd (upd (upd (upd (upd f1 0 0) 1 0) 2 0) 3 0) 4 0) 5 0) 6 0) 7 0) 8 0))), (sa 2, .inl (y 1, 9, .inr (.inl (vp_updL (vp_updL (vp_updL (vp_updL (vp_updL (vp_updL (vp_updL (vp_updL (vp_updL f2 0 0) 1 0) 2 0) 3 0) 4 0) 5 0) 6 0) 7 0) 8 0)))), (sa 3, .inl (y 0, 6, .inl (upd (upd (upd f3 0 0) 1 0) 2 0))), (sa 4, .inl (y 0, 6, .inl (upd (upd (upd f4 0 0) 1 0) 2 0))), (sa 5, .inl (y 0, 16, .inl f5)), (sa 6, .inl (y 1, 5, .inr (.inl f6)))]) (vin (by decide)) rfl d_State_clear_71 ?_
  refine j_iinc (pc := 72) C (v := 3) (lv' := [(1, .int 3), (0, .ref h)]) d_State_clear_72 0 rfl (by decide) (by decide) rfl ?_
  refine j_goto (pc := 75) C (tgt := 52) d_State_clear_75 (by decide) ?_
  refine j_iload_n (pc := 52) C d_State_clear_52 rfl 0 rfl ?_
  refine j_bipush (pc := 53) C (v := 6) d_State_clear_53 (by decide) ?_
  refine j_icmp_geF (pc := 55) C (tgt := 78) d_State_clear_55 (by decide) (by decide) ?_
  refine j_aload_n (pc := 58) C d_State_clear_58 rfl 1 rfl ?_
  refine j_get (pc := 59) C gf_State_22 0 rfl rfl d_State_clear_59 ?_
  refine j_iload_n (pc := 62) C d_State_clear_62 rfl 0 rfl ?_
  refine j_iconst (pc := 63) C (v := 0) d_State_clear_63 (by decide) ?_
  refine j_iast (pc := 64) C 4 rfl (ws' := [(h, .inr (7, [.int 0, .int 0, .int 0, .ref (sa 0), .ref (sa 1), .ref (sa 2), .ref (sa 3), .ref (sa 4), .ref (sa 5), .ref (sa 6)])), (sa 0, .inl (y 0, 9, .inl (upd (upd (upd (upd (upd (upd (upd (upd (upd f0 0 0) 1 0) 2 0) 3 0) 4 0) 5 0) 6 0) 7 0) 8 0))), (sa 1, .inl (y 0, 9, .inl (upd (upd (upd (upd (upd (upd (upd (upd (upd f1 0 0) 1 0) 2 0) 3 0) 4 0) 5 0) 6 0) 7 0) 8 0))), (sa 2, .inl (y 1, 9, .inr (.inl (vp_updL (vp_updL (vp_updL (vp_updL (vp_updL (vp_updL (vp_updL (vp_updL (vp_updL f2 0 0) 1 0) 2 0) 3 0) 4 0) 5 0) 6 0) 7 0) 8 0)))), (sa 3, .inl (y 0, 6, .inl (upd (upd (upd (upd f3 0 0) 1 0) 2 0) 3 0))), (sa 4, .inl (y 0, 6, .inl (upd (upd (upd f4 0 0) 1 0) 2 0))), (sa 5, .inl (y 0, 16, .inl f5)), (sa 6, .inl (y 1, 5, .inr (.inl f6)))]) (vin (by decide)) rfl d_State_clear_64 ?_
  refine j_aload_n (pc := 65) C d_State_clear_65 rfl 1 rfl ?_
  refine j_get (pc := 66) C gf_State_25 0 rfl rfl d_State_clear_66 ?_
  refine j_iload_n (pc := 69) C d_State_clear_69 rfl 0 rfl ?_
  refine j_iconst (pc := 70) C (v := 0) d_State_clear_70 (by decide) ?_
  refine j_iast (pc := 71) C 5 rfl (ws' := [(h, .inr (7, [.int 0, .int 0, .int 0, .ref (sa 0), .ref (sa 1), .ref (sa 2), .ref (sa 3), .ref (sa 4), .ref (sa 5), .ref (sa 6)])), (sa 0, .inl (y 0, 9, .inl (upd (upd (upd (upd (upd (upd (upd (upd (upd f0 0 0) 1 0) 2 0) 3 0) 4 0) 5 0) 6 0) 7 0) 8 0))), (sa 1, .inl (y 0, 9, .inl (upd (upd (upd (upd (upd (upd (upd (upd (upd f1 0 0) 1 0) 2 0) 3 0) 4 0) 5 0) 6 0) 7 0) 8 0))), (sa 2, .inl (y 1, 9, .inr (.inl (vp_updL (vp_updL (vp_updL (vp_updL (vp_updL (vp_updL (vp_updL (vp_updL (vp_updL f2 0 0) 1 0) 2 0) 3 0) 4 0) 5 0) 6 0) 7 0) 8 0)))), (sa 3, .inl (y 0, 6, .inl (upd (upd (upd (upd f3 0 0) 1 0) 2 0) 3 0))), (sa 4, .inl (y 0, 6, .inl (upd (upd (upd (upd f4 0 0) 1 0) 2 0) 3 0))), (sa 5, .inl (y 0, 16, .inl f5)), (sa 6, .inl (y 1, 5, .inr (.inl f6)))]) (vin (by decide)) rfl d_State_clear_71 ?_
  refine j_iinc (pc := 72) C (v := 4) (lv' := [(1, .int 4), (0, .ref h)]) d_State_clear_72 0 rfl (by decide) (by decide) rfl ?_
  refine j_goto (pc := 75) C (tgt := 52) d_State_clear_75 (by decide) ?_
  refine j_iload_n (pc := 52) C d_State_clear_52 rfl 0 rfl ?_
  refine j_bipush (pc := 53) C (v := 6) d_State_clear_53 (by decide) ?_
  refine j_icmp_geF (pc := 55) C (tgt := 78) d_State_clear_55 (by decide) (by decide) ?_
  refine j_aload_n (pc := 58) C d_State_clear_58 rfl 1 rfl ?_
  refine j_get (pc := 59) C gf_State_22 0 rfl rfl d_State_clear_59 ?_
  refine j_iload_n (pc := 62) C d_State_clear_62 rfl 0 rfl ?_
  refine j_iconst (pc := 63) C (v := 0) d_State_clear_63 (by decide) ?_
  refine j_iast (pc := 64) C 4 rfl (ws' := [(h, .inr (7, [.int 0, .int 0, .int 0, .ref (sa 0), .ref (sa 1), .ref (sa 2), .ref (sa 3), .ref (sa 4), .ref (sa 5), .ref (sa 6)])), (sa 0, .inl (y 0, 9, .inl (upd (upd (upd (upd (upd (upd (upd (upd (upd f0 0 0) 1 0) 2 0) 3 0) 4 0) 5 0) 6 0) 7 0) 8 0))), (sa 1, .inl (y 0, 9, .inl (upd (upd (upd (upd (upd (upd (upd (upd (upd f1 0 0) 1 0) 2 0) 3 0) 4 0) 5 0) 6 0) 7 0) 8 0))), (sa 2, .inl (y 1, 9, .inr (.inl (vp_updL (vp_updL (vp_updL (vp_updL (vp_updL (vp_updL (vp_updL (vp_updL (vp_updL f2 0 0) 1 0) 2 0) 3 0) 4 0) 5 0) 6 0) 7 0) 8 0)))), (sa 3, .inl (y 0, 6, .inl (upd (upd (upd (upd (upd f3 0 0) 1 0) 2 0) 3 0) 4 0))), (sa 4, .inl (y 0, 6, .inl (upd (upd (upd (upd f4 0 0) 1 0) 2 0) 3 0))), (sa 5, .inl (y 0, 16, .inl f5)), (sa 6, .inl (y 1, 5, .inr (.inl f6)))]) (vin (by decide)) rfl d_State_clear_64 ?_
  refine j_aload_n (pc := 65) C d_State_clear_65 rfl 1 rfl ?_
  refine j_get (pc := 66) C gf_State_25 0 rfl rfl d_State_clear_66 ?_
  refine j_iload_n (pc := 69) C d_State_clear_69 rfl 0 rfl ?_
  refine j_iconst (pc := 70) C (v := 0) d_State_clear_70 (by decide) ?_
  refine j_iast (pc := 71) C 5 rfl (ws' := [(h, .inr (7, [.int 0, .int 0, .int 0, .ref (sa 0), .ref (sa 1), .ref (sa 2), .ref (sa 3), .ref (sa 4), .ref (sa 5), .ref (sa 6)])), (sa 0, .inl (y 0, 9, .inl (upd (upd (upd (upd (upd (upd (upd (upd (upd f0 0 0) 1 0) 2 0) 3 0) 4 0) 5 0) 6 0) 7 0) 8 0))), (sa 1, .inl (y 0, 9, .inl (upd (upd (upd (upd (upd (upd (upd (upd (upd f1 0 0) 1 0) 2 0) 3 0) 4 0) 5 0) 6 0) 7 0) 8 0))), (sa 2, .inl (y 1, 9, .inr (.inl (vp_updL (vp_updL (vp_updL (vp_updL (vp_updL (vp_updL (vp_updL (vp_updL (vp_updL f2 0 0) 1 0) 2 0) 3 0) 4 0) 5 0) 6 0) 7 0) 8 0)))), (sa 3, .inl (y 0, 6, .inl (upd (upd (upd (upd (upd f3 0 0) 1 0) 2 0) 3 0) 4 0))), (sa 4, .inl (y 0, 6, .inl (upd (upd (upd (upd (upd f4 0 0) 1 0) 2 0) 3 0) 4 0))), (sa 5, .inl (y 0, 16, .inl f5)), (sa 6, .inl (y 1, 5, .inr (.inl f6)))]) (vin (by decide)) rfl d_State_clear_71 ?_
  refine j_iinc (pc := 72) C (v := 5) (lv' := [(1, .int 5), (0, .ref h)]) d_State_clear_72 0 rfl (by decide) (by decide) rfl ?_
  refine j_goto (pc := 75) C (tgt := 52) d_State_clear_75 (by decide) ?_
  refine j_iload_n (pc := 52) C d_State_clear_52 rfl 0 rfl ?_
  refine j_bipush (pc := 53) C (v := 6) d_State_clear_53 (by decide) ?_
  refine j_icmp_geF (pc := 55) C (tgt := 78) d_State_clear_55 (by decide) (by decide) ?_
  refine j_aload_n (pc := 58) C d_State_clear_58 rfl 1 rfl ?_
  refine j_get (pc := 59) C gf_State_22 0 rfl rfl d_State_clear_59 ?_
  refine j_iload_n (pc := 62) C d_State_clear_62 rfl 0 rfl ?_
  refine j_iconst (pc := 63) C (v := 0) d_State_clear_63 (by decide) ?_
  refine j_iast (pc := 64) C 4 rfl (ws' := [(h, .inr (7, [.int 0, .int 0, .int 0, .ref (sa 0), .ref (sa 1), .ref (sa 2), .ref (sa 3), .ref (sa 4), .ref (sa 5), .ref (sa 6)])), (sa 0, .inl (y 0, 9, .inl (upd (upd (upd (upd (upd (upd (upd (upd (upd f0 0 0) 1 0) 2 0) 3 0) 4 0) 5 0) 6 0) 7 0) 8 0))), (sa 1, .inl (y 0, 9, .inl (upd (upd (upd (upd (upd (upd (upd (upd (upd f1 0 0) 1 0) 2 0) 3 0) 4 0) 5 0) 6 0) 7 0) 8 0))), (sa 2, .inl (y 1, 9, .inr (.inl (vp_updL (vp_updL (vp_updL (vp_updL (vp_updL (vp_updL (vp_updL (vp_updL (vp_updL f2 0 0) 1 0) 2 0) 3 0) 4 0) 5 0) 6 0) 7 0) 8 0)))), (sa 3, .inl (y 0, 6, .inl (upd (upd (upd (upd (upd (upd f3 0 0) 1 0) 2 0) 3 0) 4 0) 5 0))), (sa 4, .inl (y 0, 6, .inl (upd (upd (upd (upd (upd f4 0 0) 1 0) 2 0) 3 0) 4 0))), (sa 5, .inl (y 0, 16, .inl f5)), (sa 6, .inl (y 1, 5, .inr (.inl f6)))]) (vin (by decide)) rfl d_State_clear_64 ?_
  refine j_aload_n (pc := 65) C d_State_clear_65 rfl 1 rfl ?_
  refine j_get (pc := 66) C gf_State_25 0 rfl rfl d_State_clear_66 ?_
  refine j_iload_n (pc := 69) C d_State_clear_69 rfl 0 rfl ?_
  refine j_iconst (pc := 70) C (v := 0) d_State_clear_70 (by decide) ?_
  refine j_iast (pc := 71) C 5 rfl (ws' := [(h, .inr (7, [.int 0, .int 0, .int 0, .ref (sa 0), .ref (sa 1), .ref (sa 2), .ref (sa 3), .ref (sa 4), .ref (sa 5), .ref (sa 6)])), (sa 0, .inl (y 0, 9, .inl (upd (upd (upd (upd (upd (upd (upd (upd (upd f0 0 0) 1 0) 2 0) 3 0) 4 0) 5 0) 6 0) 7 0) 8 0))), (sa 1, .inl (y 0, 9, .inl (upd (upd (upd (upd (upd (upd (upd (upd (upd f1 0 0) 1 0) 2 0) 3 0) 4 0) 5 0) 6 0) 7 0) 8 0))), (sa 2, .inl (y 1, 9, .inr (.inl (vp_updL (vp_updL (vp_updL (vp_updL (vp_updL (vp_updL (vp_updL (vp_updL (vp_updL f2 0 0) 1 0) 2 0) 3 0) 4 0) 5 0) 6 0) 7 0) 8 0)))), (sa 3, .inl (y 0, 6, .inl (upd (upd (upd (upd (upd (upd f3 0 0) 1 0) 2 0) 3 0) 4 0) 5 0))), (sa 4, .inl (y 0, 6, .inl (upd (upd (upd (upd (upd (upd f4 0 0) 1 0) 2 0) 3 0) 4 0) 5 0))), (sa 5, .inl (y 0, 16, .inl f5)), (sa 6, .inl (y 1, 5, .inr (.inl f6)))]) (vin (by decide)) rfl d_State_clear_71 ?_
  refine j_iinc (pc := 72) C (v := 6) (lv' := [(1, .int 6), (0, .ref h)]) d_State_clear_72 0 rfl (by decide) (by decide) rfl ?_
  refine j_goto (pc := 75) C (tgt := 52) d_State_clear_75 (by decide) ?_
  refine j_iload_n (pc := 52) C d_State_clear_52 rfl 0 rfl ?_
  refine j_bipush (pc := 53) C (v := 6) d_State_clear_53 (by decide) ?_
  refine j_icmp_geT (pc := 55) C (tgt := 78) d_State_clear_55 (by decide) (by decide) ?_
  refine j_iconst (pc := 78) C (v := 0) d_State_clear_78 (by decide) ?_
  refine j_istore_n (pc := 79) C (lv' := [(1, .int 0), (0, .ref h)]) d_State_clear_79 rfl (by decide) rfl ?_
  refine j_iload_n (pc := 80) C d_State_clear_80 rfl 0 rfl ?_
  refine j_bipush (pc := 81) C (v := 16) d_State_clear_81 (by decide) ?_
  refine j_icmp_geF (pc := 83) C (tgt := 99) d_State_clear_83 (by decide) (by decide) ?_
  refine j_aload_n (pc := 86) C d_State_clear_86 rfl 1 rfl ?_
  refine j_get (pc := 87) C gf_State_28 0 rfl rfl d_State_clear_87 ?_
  refine j_iload_n (pc := 90) C d_State_clear_90 rfl 0 rfl ?_
  refine j_iconst (pc := 91) C (v := 0) d_State_clear_91 (by decide) ?_
  refine j_iast (pc := 92) C 6 rfl (ws' := [(h, .inr (7, [.int 0, .int 0, .int 0, .ref (sa 0), .ref (sa 1), .ref (sa 2), .ref (sa 3), .ref (sa 4), .ref (sa 5), .ref (sa 6)])), (sa 0, .inl (y 0, 9, .inl (upd (upd (upd (upd (upd (upd (upd (upd (upd f0 0 0) 1 0) 2 0) 3 0) 4 0) 5 0) 6 0) 7 0) 8 0))), (sa 1, .inl (y 0, 9, .inl (upd (upd (upd (upd (upd (upd (upd (upd (upd f1 0 0) 1 0) 2 0) 3 0) 4 0) 5 0) 6 0) 7 0) 8 0))), (sa 2, .inl (y 1, 9, .inr (.inl (vp_updL (vp_updL (vp_updL (vp_updL (vp_updL (vp_updL (vp_updL (vp_updL (vp_updL f2 0 0) 1 0) 2 0) 3 0) 4 0) 5 0) 6 0) 7 0) 8 0)))), (sa 3, .inl (y 0, 6, .inl (upd (upd (upd (upd (upd (upd f3 0 0) 1 0) 2 0) 3 0) 4 0) 5 0))), (sa 4, .inl (y 0, 6, .inl (upd (upd (upd (upd (upd (upd f4 0 0) 1 0) 2 0) 3 0) 4 0) 5 0))), (sa 5, .inl (y 0, 16, .inl (upd f5 0 0))), (sa 6, .inl (y 1, 5, .inr (.inl f6)))]) (vin (by decide)) rfl d_State_clear_92 ?_
  refine j_iinc (pc := 93) C (v := 1) (lv' := [(1, .int 1), (0, .ref h)]) d_State_clear_93 0 rfl (by decide) (by decide) rfl ?_
  refine j_goto (pc := 96) C (tgt := 80) d_State_clear_96 (by decide) ?_
  refine j_iload_n (pc := 80) C d_State_clear_80 rfl 0 rfl ?_
  refine j_bipush (pc := 81) C (v := 16) d_State_clear_81 (by decide) ?_
  refine j_icmp_geF (pc := 83) C (tgt := 99) d_State_clear_83 (by decide) (by decide) ?_
  refine j_aload_n (pc := 86) C d_State_clear_86 rfl 1 rfl ?_
  refine j_get (pc := 87) C gf_State_28 0 rfl rfl d_State_clear_87 ?_
  refine j_iload_n (pc := 90) C d_State_clear_90 rfl 0 rfl ?_
  refine j_iconst (pc := 91) C (v := 0) d_State_clear_91 (by decide) ?_
  refine j_iast (pc := 92) C 6 rfl (ws' := [(h, .inr (7, [.int 0, .int 0, .int 0, .ref (sa 0), .ref (sa 1), .ref (sa 2), .ref (sa 3), .ref (sa 4), .ref (sa 5), .ref (sa 6)])), (sa 0, .inl (y 0, 9, .inl (upd (upd (upd (upd (upd (upd (upd (upd (upd f0 0 0) 1 0) 2 0) 3 0) 4 0) 5 0) 6 0) 7 0) 8 0))), (sa 1, .inl (y 0, 9, .inl (upd (upd (upd (upd (upd (upd (upd (upd (upd f1 0 0) 1 0) 2 0) 3 0) 4 0) 5 0) 6 0) 7 0) 8 0))), (sa 2, .inl (y 1, 9, .inr (.inl (vp_updL (vp_updL (vp_updL (vp_updL (vp_updL (vp_updL (vp_updL (vp_updL (vp_updL f2 0 0) 1 0) 2 0) 3 0) 4 0) 5 0) 6 0) 7 0) 8 0)))), (sa 3, .inl (y 0, 6, .inl (upd (upd (upd (upd (upd (upd f3 0 0) 1 0) 2 0) 3 0) 4 0) 5 0))), (sa 4, .inl (y 0, 6, .inl (upd (upd (upd (upd (upd (upd f4 0 0) 1 0) 2 0) 3 0) 4 0) 5 0))), (sa 5, .inl (y 0, 16, .inl (upd (upd f5 0 0) 1 0))), (sa 6, .inl (y 1, 5, .inr (.inl f6)))]) (vin (by decide)) rfl d_State_clear_92 ?_
  refine j_iinc (pc := 93) C (v := 2) (lv' := [(1, .int 2), (0, .ref h)]) d_State_clear_93 0 rfl (by decide) (by decide) rfl ?_
  refine j_goto (pc := 96) C (tgt := 80) d_State_clear_96 (by decide) ?_
  refine j_iload_n (pc := 80) C d_State_clear_80 rfl 0 rfl ?_
  refine j_bipush (pc := 81) C (v := 16) d_State_clear_81 (by decide) ?_
  refine j_icmp_geF (pc := 83) C (tgt := 99) d_State_clear_83 (by decide) (by decide) ?_
  refine j_aload_n (pc := 86) C d_State_clear_86 rfl 1 rfl ?_
  refine j_get (pc := 87) C gf_State_28 0 rfl rfl d_State_clear_87 ?_
  refine j_iload_n (pc := 90) C d_State_clear_90 rfl 0 rfl ?_
  refine j_iconst (pc := 91) C (v := 0) d_State_clear_91 (by decide) ?_
  refine j_iast (pc := 92) C 6 rfl (ws' := [(h, .inr (7, [.int 0, .int 0, .int 0, .ref (sa 0), .ref (sa 1), .ref (sa 2), .ref (sa 3), .ref (sa 4), .ref (sa 5), .ref (sa 6)])), (sa 0, .inl (y 0, 9, .inl (upd (upd (upd (upd (upd (upd (upd (upd (upd f0 0 0) 1 0) 2 0) 3 0) 4 0) 5 0) 6 0) 7 0) 8 0))), (sa 1, .inl (y 0, 9, .inl (upd (upd (upd (upd (upd (upd (upd (upd (upd f1 0 0) 1 0) 2 0) 3 0) 4 0) 5 0) 6 0) 7 0) 8 0))), (sa 2, .inl (y 1, 9, .inr (.inl (vp_updL (vp_updL (vp_updL (vp_updL (vp_updL (vp_updL (vp_updL (vp_updL (vp_updL f2 0 0) 1 0) 2 0) 3 0) 4 0) 5 0) 6 0) 7 0) 8 0)))), (sa 3, .inl (y 0, 6, .inl (upd (upd (upd (upd (upd (upd f3 0 0) 1 0) 2 0) 3 0) 4 0) 5 0))), (sa 4, .inl (y 0, 6, .inl (upd (upd (upd (upd (upd (upd f4 0 0) 1 0) 2 0) 3 0) 4 0) 5 0))), (sa 5, .inl (y 0, 16, .inl (upd (upd (upd f5 0 0) 1 0) 2 0))), (sa 6, .inl (y 1, 5, .inr (.inl f6)))]) (vin (by decide)) rfl d_State_clear_92 ?_
  refine j_iinc (pc := 93) C (v := 3) (lv' := [(1, .int 3), (0, .ref h)]) d_State_clear_93 0 rfl (by decide) (by decide) rfl ?_
  refine j_goto (pc := 96) C (tgt := 80) d_State_clear_96 (by decide) ?_
  refine j_iload_n (pc := 80) C d_State_clear_80 rfl 0 rfl ?_
  refine j_bipush (pc := 81) C (v := 16) d_State_clear_81 (by decide) ?_
  refine j_icmp_geF (pc := 83) C (tgt := 99) d_State_clear_83 (by decide) (by decide) ?_
  refine j_aload_n (pc := 86) C d_State_clear_86 rfl 1 rfl ?_
  refine j_get (pc := 87) C gf_State_28 0 rfl rfl d_State_clear_87 ?_
  refine j_iload_n (pc := 90) C d_State_clear_90 rfl 0 rfl ?_
  refine j_iconst (pc := 91) C (v := 0) d_State_clear_91 (by decide) ?_
  refine j_iast (pc := 92) C 6 rfl (ws' := [(h, .inr (7, [.int 0, .int 0, .int 0, .ref (sa 0), .ref (sa 1), .ref (sa 2), .ref (sa 3), .ref (sa 4), .ref (sa 5), .ref (sa 6)])), (sa 0, .inl (y 0, 9, .inl (upd (upd (upd (upd (upd (upd (upd (upd (upd f0 0 0) 1 0) 2 0) 3 0) 4 0) 5 0) 6 0) 7 0) 8 0))), (sa 1, .inl (y 0, 9, .inl (upd (upd (upd (upd (upd (upd (upd (upd (upd f1 0 0) 1 0) 2 0) 3 0) 4 0) 5 0) 6 0) 7 0) 8 0))), (sa 2, .inl (y 1, 9, .inr (.inl (vp_updL (vp_updL (vp_updL (vp_updL (vp_updL (vp_updL (vp_updL (vp_updL (vp_updL f2 0 0) 1 0) 2 0) 3 0) 4 0) 5 0) 6 0) 7 0) 8 0)))), (sa 3, .inl (y 0, 6, .inl (upd (upd (upd (upd (upd (upd f3 0 0) 1 0) 2 0) 3 0) 4 0) 5 0))), (sa 4, .inl (y 0, 6, .inl (upd (upd (upd (upd (upd (upd f4 0 0) 1 0) 2 0) 3 0) 4 0) 5 0))), (sa 5, .inl (y 0, 16, .inl (upd (upd (upd (upd f5 0 0) 1 0) 2 0) 3 0))), (sa 6, .inl (y 1, 5, .inr (.inl f6)))]) (vin (by decide)) rfl d_State_clear_92 ?_
  refine j_iinc (pc := 93) C (v := 4) (lv' := [(1, .int 4), (0, .ref h)]) d_State_clear_93 0 rfl (by decide) (by decide) rfl ?_
  refine j_goto (pc := 96) C (tgt := 80) d_State_clear_96 (by decide) ?_
  refine j_iload_n (pc := 80) C d_State_clear_80 rfl 0 rfl ?_
  refine j_bipush (pc := 81) C (v := 16) d_State_clear_81 (by decide) ?_
  refine j_icmp_geF (pc := 83) C (tgt := 99) d_State_clear_83 (by decide) (by decide) ?_
  refine j_aload_n (pc := 86) C d_State_clear_86 rfl 1 rfl ?_
  refine j_get (pc := 87) C gf_State_28 0 rfl rfl d_State_clear_87 ?_
  refine j_iload_n (pc := 90) C d_State_clear_90 rfl 0 rfl ?_
  refine j_iconst (pc := 91) C (v := 0) d_State_clear_91 (by decide) ?_
  refine j_iast (pc := 92) C 6 rfl (ws' := [(h, .inr (7, [.int 0, .int 0, .int 0, .ref (sa 0), .ref (sa 1), .ref (sa 2), .ref (sa 3), .ref (sa 4), .ref (sa 5), .ref (sa 6)])), (sa 0, .inl (y 0, 9, .inl (upd (upd (upd (upd (upd (upd (upd (upd (upd f0 0 0) 1 0) 2 0) 3 0) 4 0) 5 0) 6 0) 7 0) 8 0))), (sa 1, .inl (y 0, 9, .inl (upd (upd (upd (upd (upd (upd (upd (upd (upd f1 0 0) 1 0) 2 0) 3 0) 4 0) 5 0) 6 0) 7 0) 8 0))), (sa 2, .inl (y 1, 9, .inr (.inl (vp_updL (vp_updL (vp_updL (vp_updL (vp_updL (vp_updL (vp_updL (vp_updL (vp_updL f2 0 0) 1 0) 2 0) 3 0) 4 0) 5 0) 6 0) 7 0) 8 0)))), (sa 3, .inl (y 0, 6, .inl (upd (upd (upd (upd (upd (upd f3 0 0) 1 0) 2 0) 3 0) 4 0) 5 0))), (sa 4, .inl (y 0, 6, .inl (upd (upd (upd (upd (upd (upd f4 0 0) 1 0) 2 0) 3 0) 4 0) 5 0))), (sa 5, .inl (y 0, 16, .inl (upd (upd (upd (upd (upd f5 0 0) 1 0) 2 0) 3 0) 4 0))), (sa 6, .inl (y 1, 5, .inr (.inl f6)))]) (vin (by decide)) rfl d_State_clear_92 ?_
  refine j_iinc (pc := 93) C (v := 5) (lv' := [(1, .int 5), (0, .ref h)]) d_State_clear_93 0 rfl (by decide) (by decide) rfl ?_
  refine j_goto (pc := 96) C (tgt := 80) d_State_clear_96 (by decide) ?_
  refine j_iload_n (pc := 80) C d_State_clear_80 rfl 0 rfl ?_
  refine j_bipush (pc := 81) C (v := 16) d_State_clear_81 (by decide) ?_
  refine j_icmp_geF (pc := 83) C (tgt := 99) d_State_clear_83 (by decide) (by decide) ?_
  refine j_aload_n (pc := 86) C d_State_clear_86 rfl 1 rfl ?_
  refine j_get (pc := 87) C gf_State_28 0 rfl rfl d_State_clear_87 ?_
  refine j_iload_n (pc := 90) C d_State_clear_90 rfl 0 rfl ?_
  refine j_iconst (pc := 91) C (v := 0) d_State_clear_91 (by decide) ?_
  refine j_iast (pc := 92) C 6 rfl (ws' := [(h, .inr (7, [.int 0, .int 0, .int 0, .ref (sa 0), .ref (sa 1), .ref (sa 2), .ref (sa 3), .ref (sa 4), .ref (sa 5), .ref (sa 6)])), (sa 0, .inl (y 0, 9, .inl (upd (upd (upd (upd (upd (upd (upd (upd (upd f0 0 0) 1 0) 2 0) 3 0) 4 0) 5 0) 6 0) 7 0) 8 0))), (sa 1, .inl (y 0, 9, .inl (upd (upd (upd (upd (upd (upd (upd (upd (upd f1 0 0) 1 0) 2 0) 3 0) 4 0) 5 0) 6 0) 7 0) 8 0))), (sa 2, .inl (y 1, 9, .inr (.inl (vp_updL (vp_updL (vp_updL (vp_updL (vp_updL (vp_updL (vp_updL (vp_updL (vp_updL f2 0 0) 1 0) 2 0) 3 0) 4 0) 5 0) 6 0) 7 0) 8 0)))), (sa 3, .inl (y 0, 6, .inl (upd (upd (upd (upd (upd (upd f3 0 0) 1 0) 2 0) 3 0) 4 0) 5 0))), (sa 4, .inl (y 0, 6, .inl (upd (upd (upd (upd (upd (upd f4 0 0) 1 0) 2 0) 3 0) 4 0) 5 0))), (sa 5, .inl (y 0, 16, .inl (upd (upd (upd (upd (upd (upd f5 0 0) 1 0) 2 0) 3 0) 4 0) 5 0))), (sa 6, .inl (y 1, 5, .inr (.inl f6)))]) (vin (by decide)) rfl d_State_clear_92 ?_
  refine j_iinc (pc := 93) C (v := 6) (lv' := [(1, .int 6), (0, .ref h)]) d_State_clear_93 0 rfl (by decide) (by decide) rfl ?_
  refine j_goto (pc := 96) C (tgt := 80) d_State_clear_96 (by decide) ?_
  refine j_iload_n (pc := 80) C d_State_clear_80 rfl 0 rfl ?_
  refine j_bipush (pc := 81) C (v := 16) d_State_clear_81 (by decide) ?_
  refine j_icmp_geF (pc := 83) C (tgt := 99) d_State_clear_83 (by decide) (by decide) ?_
  refine j_aload_n (pc := 86) C d_State_clear_86 rfl 1 rfl ?_
  refine j_get (pc := 87) C gf_State_28 0 rfl rfl d_State_clear_87 ?_
  refine j_iload_n (pc := 90) C d_State_clear_90 rfl 0 rfl ?_
  refine j_iconst (pc := 91) C (v := 0) d_State_clear_91 (by decide) ?_
  refine j_iast (pc := 92) C 6 rfl (ws' := [(h, .inr (7, [.int 0, .int 0, .int 0, .ref (sa 0), .ref (sa 1), .ref (sa 2), .ref (sa 3), .ref (sa 4), .ref (sa 5), .ref (sa 6)])), (sa 0, .inl (y 0, 9, .inl (upd (upd (upd (upd (upd (upd (upd (upd (upd f0 0 0) 1 0) 2 0) 3 0) 4 0) 5 0) 6 0) 7 0) 8 0))), (sa 1, .inl (y 0, 9, .inl (upd (upd (upd (upd (upd (upd (upd (upd (upd f1 0 0) 1 0) 2 0) 3 0) 4 0) 5 0) 6 0) 7 0) 8 0))), (sa 2, .inl (y 1, 9, .inr (.inl (vp_updL (vp_updL (vp_updL (vp_updL (vp_updL (vp_updL (vp_updL (vp_updL (vp_updL f2 0 0) 1 0) 2 0) 3 0) 4 0) 5 0) 6 0) 7 0) 8 0)))), (sa 3, .inl (y 0, 6, .inl (upd (upd (upd (upd (upd (upd f3 0 0) 1 0) 2 0) 3 0) 4 0) 5 0))), (sa 4, .inl (y 0, 6, .inl (upd (upd (upd (upd (upd (upd f4 0 0) 1 0) 2 0) 3 0) 4 0) 5 0))), (sa 5, .inl (y 0, 16, .inl (upd (upd (upd (upd (upd (upd (upd f5 0 0) 1 0) 2 0) 3 0) 4 0) 5 0) 6 0))), (sa 6, .inl (y 1, 5, .inr (.inl f6)))]) (vin (by decide)) rfl d_State_clear_92 ?_
  refine j_iinc (pc := 93) C (v := 7) (lv' := [(1, .int 7), (0, .ref h)]) d_State_clear_93 0 rfl (by decide) (by decide) rfl ?_
  refine j_goto (pc := 96) C (tgt := 80) d_State_clear_96 (by decide) ?_
  refine j_iload_n (pc := 80) C d_State_clear_80 rfl 0 rfl ?_
  refine j_bipush (pc := 81) C (v := 16) d_State_clear_81 (by decide) ?_
  refine j_icmp_geF (pc := 83) C (tgt := 99) d_State_clear_83 (by decide) (by decide) ?_
  refine j_aload_n (pc := 86) C d_State_clear_86 rfl 1 rfl ?_
  refine j_get (pc := 87) C gf_State_28 0 rfl rfl d_State_clear_87 ?_
  refine j_iload_n (pc := 90) C d_State_clear_90 rfl 0 rfl ?_
  refine j_iconst (pc := 91) C (v := 0) d_State_clear_91 (by decide) ?_
  refine j_iast (pc := 92) C 6 rfl (ws' := [(h, .inr (7, [.int 0, .int 0, .int 0, .ref (sa 0), .ref (sa 1), .ref (sa 2), .ref (sa 3), .ref (sa 4), .ref (sa 5), .ref (sa 6)])), (sa 0, .inl (y 0, 9, .inl (upd (upd (upd (upd (upd (upd (upd (upd (upd f0 0 0) 1 0) 2 0) 3 0) 4 0) 5 0) 6 0) 7 0) 8 0))), (sa 1, .inl (y 0, 9, .inl (upd (upd (upd (upd (upd (upd (upd (upd (upd f1 0 0) 1 0) 2 0) 3 0) 4 0) 5 0) 6 0) 7 0) 8 0))), (sa 2, .inl (y 1, 9, .inr (.inl (vp_updL (vp_updL (vp_updL (vp_updL (vp_updL (vp_updL (vp_updL (vp_updL (vp_updL f2 0 0) 1 0) 2 0) 3 0) 4 0) 5 0) 6 0) 7 0) 8 0)))), (sa 3, .inl (y 0, 6, .inl (upd (upd (upd (upd (upd (upd f3 0 0) 1 0) 2 0) 3 0) 4 0) 5 0))), (sa 4, .inl (y 0, 6, .inl (upd (upd (upd (upd (upd (upd f4 0 0) 1 0) 2 0) 3 0) 4 0) 5 0))), (sa 5, .inl (y 0, 16, .inl (upd (upd (upd (upd (upd (upd (upd (upd f5 0 0) 1 0) 2 0) 3 0) 4 0) 5 0) 6 0) 7 0))), (sa 6, .inl (y 1, 5, .inr (.inl f6)))]) (vin (by decide)) rfl d_State_clear_92 ?_
  refine j_iinc (pc := 93) C (v := 8) (lv' := [(1, .int 8), (0, .ref h)]) d_State_clear_93 0 rfl (by decide) (by decide) rfl ?_
  refine j_goto (pc := 96) C (tgt := 80) d_State_clear_96 (by decide) ?_
  refine j_iload_n (pc := 80) C d_State_clear_80 rfl 0 rfl ?_
  refine j_bipush (pc := 81) C (v := 16) d_State_clear_81 (by decide) ?_
  refine j_icmp_geF (pc := 83) C (tgt := 99) d_State_clear_83 (by decide) (by decide) ?_
  refine j_aload_n (pc := 86) C d_State_clear_86 rfl 1 rfl ?_
  refine j_get (pc := 87) C gf_State_28 0 rfl rfl d_State_clear_87 ?_
  refine j_iload_n (pc := 90) C d_State_clear_90 rfl 0 rfl ?_
  refine j_iconst (pc := 91) C (v := 0) d_State_clear_91 (by decide) ?_
  refine j_iast (pc := 92) C 6 rfl (ws' := [(h, .inr (7, [.int 0, .int 0, .int 0, .ref (sa 0), .ref (sa 1), .ref (sa 2), .ref (sa 3), .ref (sa 4), .ref (sa 5), .ref (sa 6)])), (sa 0, .inl (y 0, 9, .inl (upd (upd (upd (upd (upd (upd (upd (upd (upd f0 0 0) 1 0) 2 0) 3 0) 4 0) 5 0) 6 0) 7 0) 8 0))), (sa 1, .inl (y 0, 9, .inl (upd (upd (upd (upd (upd (upd (upd (upd (upd f1 0 0) 1 0) 2 0) 3 0) 4 0) 5 0) 6 0) 7 0) 8 0))), (sa 2, .inl (y 1, 9, .inr (.inl (vp_updL (vp_updL (vp_updL (vp_updL (vp_updL (vp_updL (vp_updL (vp_updL (vp_updL f2 0 0) 1 0) 2 0) 3 0) 4 0) 5 0) 6 0) 7 0) 8 0)))), (sa 3, .inl (y 0, 6, .inl (upd (upd (upd (upd (upd (upd f3 0 0) 1 0) 2 0) 3 0) 4 0) 5 0))), (sa 4, .inl (y 0, 6, .inl (upd (upd (upd (upd (upd (upd f4 0 0) 1 0) 2 0) 3 0) 4 0) 5 0))), (sa 5, .inl (y 0, 16, .inl (upd (upd (upd (upd (upd (upd (upd (upd (upd f5 0 0) 1 0) 2 0) 3 0) 4 0) 5 0) 6 0) 7 0) 8 0))), (sa 6, .inl (y 1, 5, .inr (.inl f6)))]) (vin (by decide)) rfl d_State_clear_92 ?_
  refine j_iinc (pc := 93) C (v := 9) (lv' := [(1, .int 9), (0, .ref h)]) d_State_clear_93 0 rfl (by decide) (by decide) rfl ?_
  refine j_goto (pc := 96) C (tgt := 80) d_State_clear_96 (by decide) ?_
  refine j_iload_n (pc := 80) C d_State_clear_80 rfl 0 rfl ?_
  refine j_bipush (pc := 81) C (v := 16) d_State_clear_81 (by decide) ?_
  refine j_icmp_geF (pc := 83) C (tgt := 99) d_State_clear_83 (by decide) (by decide) ?_
  refine j_aload_n (pc := 86) C d_State_clear_86 rfl 1 rfl ?_
  refine j_get (pc := 87) C gf_State_28 0 rfl rfl d_State_clear_87 ?_
  refine j_iload_n (pc := 90) C d_State_clear_90 rfl 0 rfl ?_
  refine j_iconst (pc := 91) C (v := 0) d_State_clear_91 (by decide) ?_
  refine j_iast (pc := 92) C 6 rfl (ws' := [(h, .inr (7, [.int 0, .int 0, .int 0, .ref (sa 0), .ref (sa 1), .ref (sa 2), .ref (sa 3), .ref (sa 4), .ref (sa 5), .ref (sa 6)])), (sa 0, .inl (y 0, 9, .inl (upd (upd (upd (upd (upd (upd (upd (upd (upd f0 0 0) 1 0) 2 0) 3 0) 4 0) 5 0) 6 0) 7 0) 8 0))), (sa 1, .inl (y 0, 9, .inl (upd (upd (upd (upd (upd (upd (upd (upd (upd f1 0 0) 1 0) 2 0) 3 0) 4 0) 5 0) 6 0) 7 0) 8 0))), (sa 2, .inl (y 1, 9, .inr (.inl (vp_updL (vp_updL (vp_updL (vp_updL (vp_updL (vp_updL (vp_updL (vp_updL (vp_updL f2 0 0) 1 0) 2 0) 3 0) 4 0) 5 0) 6 0) 7 0) 8 0)))), (sa 3, .inl (y 0, 6, .inl (upd (upd (upd (upd (upd (upd f3 0 0) 1 0) 2 0) 3 0) 4 0) 5 0))), (sa 4, .inl (y 0, 6, .inl (upd (upd (upd (upd (upd (upd f4 0 0) 1 0) 2 0) 3 0) 4 0) 5 0))), (sa 5, .inl (y 0, 16, .inl (upd (upd (upd (upd (upd (upd (upd (upd (upd (upd f5 0 0) 1 0) 2 0) 3 0) 4 0) 5 0) 6 0) 7 0) 8 0) 9 0))), (sa 6, .inl (y 1, 5, .inr (.inl f6)))]) (vin (by decide)) rfl d_State_clear_92 ?_
  refine j_iinc (pc := 93) C (v := 10) (lv' := [(1, .int 10), (0, .ref h)]) d_State_clear_93 0 rfl (by decide) (by decide) rfl ?_
  refine j_goto (pc := 96) C (tgt := 80) d_State_clear_96 (by decide) ?_
  refine j_iload_n (pc := 80) C d_State_clear_80 rfl 0 rfl ?_
  refine j_bipush (pc := 81) C (v := 16) d_State_clear_81 (by decide) ?_
  refine j_icmp_geF (pc := 83) C (tgt := 99) d_State_clear_83 (by decide) (by decide) ?_
  refine j_aload_n (pc := 86) C d_State_clear_86 rfl 1 rfl ?_
  refine j_get (pc := 87) C gf_State_28 0 rfl rfl d_State_clear_87 ?_
  refine j_iload_n (pc := 90) C d_State_clear_90 rfl 0 rfl ?_
  refine j_iconst (pc := 91) C (v := 0) d_State_clear_91 (by decide) ?_
  refine j_iast (pc := 92) C 6 rfl (ws' := [(h, .inr (7, [.int 0, .int 0, .int 0, .ref (sa 0), .ref (sa 1), .ref (sa 2), .ref (sa 3), .ref (sa 4), .ref (sa 5), .ref (sa 6)])), (sa 0, .inl (y 0, 9, .inl (upd (upd (upd (upd (upd (upd (upd (upd (upd f0 0 0) 1 0) 2 0) 3 0) 4 0) 5 0) 6 0) 7 0) 8 0))), (sa 1, .inl (y 0, 9, .inl (upd (upd (upd (upd (upd (upd (upd (upd (upd f1 0 0) 1 0) 2 0) 3 0) 4 0) 5 0) 6 0) 7 0) 8 0))), (sa 2, .inl (y 1, 9, .inr (.inl (vp_updL (vp_updL (vp_updL (vp_updL (vp_updL (vp_updL (vp_updL (vp_updL (vp_updL f2 0 0) 1 0) 2 0) 3 0) 4 0) 5 0) 6 0) 7 0) 8 0)))), (sa 3, .inl (y 0, 6, .inl (upd (upd (upd (upd (upd (upd f3 0 0) 1 0) 2 0) 3 0) 4 0) 5 0))), (sa 4, .inl (y 0, 6, .inl (upd (upd (upd (upd (upd (upd f4 0 0) 1 0) 2 0) 3 0) 4 0) 5 0))), (sa 5, .inl (y 0, 16, .inl (upd (upd (upd (upd (upd (upd (upd (upd (upd (upd (upd f5 0 0) 1 0) 2 0) 3 0) 4 0) 5 0) 6 0) 7 0) 8 0) 9 0) 10 0))), (sa 6, .inl (y 1, 5, .inr (.inl f6)))]) (vin (by decide)) rfl d_State_clear_92 ?_
  refine j_iinc (pc := 93) C (v := 11) (lv' := [(1, .int 11), (0, .ref h)]) d_State_clear_93 0 rfl (by decide) (by decide) rfl ?_
  refine j_goto (pc := 96) C (tgt := 80) d_State_clear_96 (by decide) ?_
  refine j_iload_n (pc := 80) C d_State_clear_80 rfl 0 rfl ?_
  refine j_bipush (pc := 81) C (v := 16) d_State_clear_81 (by decide) ?_
  refine j_icmp_geF (pc := 83) C (tgt := 99) d_State_clear_83 (by decide) (by decide) ?_
  refine j_aload_n (pc := 86) C d_State_clear_86 rfl 1 rfl ?_
  refine j_get (pc := 87) C gf_State_28 0 rfl rfl d_State_clear_87 ?_
  refine j_iload_n (pc := 90) C d_State_clear_90 rfl 0 rfl ?_
  refine j_iconst (pc := 91) C (v := 0) d_State_clear_91 (by decide) ?_
  refine j_iast (pc := 92) C 6 rfl (ws' := [(h, .inr (7, [.int 0, .int 0, .int 0, .ref (sa 0), .ref (sa 1), .ref (sa 2), .ref (sa 3), .ref (sa 4), .ref (sa 5), .ref (sa 6)])), (sa 0, .inl (y 0, 9, .inl (upd (upd (upd (upd (upd (upd (upd (upd (upd f0 0 0) 1 0) 2 0) 3 0) 4 0) 5 0) 6 0) 7 0) 8 0))), (sa 1, .inl (y 0, 9, .inl (upd (upd (upd (upd (upd (upd (upd (upd (upd f1 0 0) 1 0) 2 0) 3 0) 4 0) 5 0) 6 0) 7 0) 8 0))), (sa 2, .inl (y 1, 9, .inr (.inl (vp_updL (vp_updL (vp_updL (vp_updL (vp_updL (vp_updL (vp_updL (vp_updL (vp_updL f2 0 0) 1 0) 2 0) 3 0) 4 0) 5 0) 6 0) 7 0) 8 0)))), (sa 3, .inl (y 0, 6, .inl (upd (upd (upd (upd (upd (upd f3 0 0) 1 0) 2 0) 3 0) 4 0) 5 0))), (sa 4, .inl (y 0, 6, .inl (upd (upd (upd (upd (upd (upd f4 0 0) 1 0) 2 0) 3 0) 4 0) 5 0))), (sa 5, .inl (y 0, 16, .inl (upd (upd (upd (upd (upd (upd (upd (upd (upd (upd (upd (upd f5 0 0) 1 0) 2 0) 3 0) 4 0) 5 0) 6 0) 7 0) 8 0) 9 0) 10 0) 11 0))), (sa 6, .inl (y 1, 5, .inr (.inl f6)))]) (vin (by decide)) rfl d_State_clear_92 ?_
  refine j_iinc (pc := 93) C (v := 12) (lv' := [(1, .int 12), (0, .ref h)]) d_State_clear_93 0 rfl (by decide) (by decide) rfl ?_
  refine j_goto (pc := 96) C (tgt := 80) d_State_clear_96 (by decide) ?_
  refine j_iload_n (pc := 80) C d_State_clear_80 rfl 0 rfl ?_
  refine j_bipush (pc := 81) C (v := 16) d_State_clear_81 (by decide) ?_
  refine j_icmp_geF (pc := 83) C (tgt := 99) d_State_clear_83 (by decide) (by decide) ?_
  refine j_aload_n (pc := 86) C d_State_clear_86 rfl 1 rfl ?_
  refine j_get (pc := 87) C gf_State_28 0 rfl rfl d_State_clear_87 ?_
  refine j_iload_n (pc := 90) C d_State_clear_90 rfl 0 rfl ?_
  refine j_iconst (pc := 91) C (v := 0) d_State_clear_91 (by decide) ?_
  refine j_iast (pc := 92) C 6 rfl (ws' := [(h, .inr (7, [.int 0, .int 0, .int 0, .ref (sa 0), .ref (sa 1), .ref (sa 2), .ref (sa 3), .ref (sa 4), .ref (sa 5), .ref (sa 6)])), (sa 0, .inl (y 0, 9, .inl (upd (upd (upd (upd (upd (upd (upd (upd (upd f0 0 0) 1 0) 2 0) 3 0) 4 0) 5 0) 6 0) 7 0) 8 0))), (sa 1, .inl (y 0, 9, .inl (upd (upd (upd (upd (upd (upd (upd (upd (upd f1 0 0) 1 0) 2 0) 3 0) 4 0) 5 0) 6 0) 7 0) 8 0))), (sa 2, .inl (y 1, 9, .inr (.inl (vp_updL (vp_updL (vp_updL (vp_updL (vp_updL (vp_updL (vp_updL (vp_updL (vp_updL f2 0 0) 1 0) 2 0) 3 0) 4 0) 5 0) 6 0) 7 0) 8 0)))), (sa 3, .inl (y 0, 6, .inl (upd (upd (upd (upd (upd (upd f3 0 0) 1 0) 2 0) 3 0) 4 0) 5 0))), (sa 4, .inl (y 0, 6, .inl (upd (upd (upd (upd (upd (upd f4 0 0) 1 0) 2 0) 3 0) 4 0) 5 0))), (sa 5, .inl (y 0, 16, .inl (upd (upd (upd (upd (upd (upd (upd (upd (upd (upd (upd (upd (upd f5 0 0) 1 0) 2 0) 3 0) 4 0) 5 0) 6 0) 7 0) 8 0) 9 0) 10 0) 11 0) 12 0))), (sa 6, .inl (y 1, 5, .inr (.inl f6)))]) (vin (by decide)) rfl d_State_clear_92 ?_
  refine j_iinc (pc := 93) C (v := 13) (lv' := [(1, .int 13), (0, .ref h)]) d_State_clear_93 0 rfl (by decide) (by decide) rfl ?_
  refine j_goto (pc := 96) C (tgt := 80) d_State_clear_96 (by decide) ?_
  refine j_iload_n (pc := 80) C d_State_clear_80 rfl 0 rfl ?_
  refine j_bipush (pc := 81) C (v := 16) d_State_clear_81 (by decide) ?_
  refine j_icmp_geF (pc := 83) C (tgt := 99) d_State_clear_83 (by decide) (by decide) ?_
  refine j_aload_n (pc := 86) C d_State_clear_86 rfl 1 rfl ?_
  refine j_get (pc := 87) C gf_State_28 0 rfl rfl d_State_clear_87 ?_
  refine j_iload_n (pc := 90) C d_State_clear_90 rfl 0 rfl ?_
  refine j_iconst (pc := 91) C (v := 0) d_State_clear_91 (by decide) ?_
  refine j_iast (pc := 92) C 6 rfl (ws' := [(h, .inr (7, [.int 0, .int 0, .int 0, .ref (sa 0), .ref (sa 1), .ref (sa 2), .ref (sa 3), .ref (sa 4), .ref (sa 5), .ref (sa 6)])), (sa 0, .inl (y 0, 9, .inl (upd (upd (upd (upd (upd (upd (upd (upd (upd f0 0 0) 1 0) 2 0) 3 0) 4 0) 5 0) 6 0) 7 0) 8 0))), (sa 1, .inl (y 0, 9, .inl (upd (upd (upd (upd (upd (upd (upd (upd (upd f1 0 0) 1 0) 2 0) 3 0) 4 0) 5 0) 6 0) 7 0) 8 0))), (sa 2, .inl (y 1, 9, .inr (.inl (vp_updL (vp_updL (vp_updL (vp_updL (vp_updL (vp_updL (vp_updL (vp_updL (vp_updL f2 0 0) 1 0) 2 0) 3 0) 4 0) 5 0) 6 0) 7 0) 8 0)))), (sa 3, .inl (y 0, 6, .inl (upd (upd (upd (upd (upd (upd f3 0 0) 1 0) 2 0) 3 0) 4 0) 5 0))), (sa 4, .inl (y 0, 6, .inl (upd (upd (upd (upd (upd (upd f4 0 0) 1 0) 2 0) 3 0) 4 0) 5 0))), (sa 5, .inl (y 0, 16, .inl (upd (upd (upd (upd (upd (upd (upd (upd (upd (upd (upd (upd (upd (upd f5 0 0) 1 0) 2 0) 3 0) 4 0) 5 0) 6 0) 7 0) 8 0) 9 0) 10 0) 11 0) 12 0) 13 0))), (sa 6, .inl (y 1, 5, .inr (.inl f6)))]) (vin (by decide)) rfl d_State_clear_92 ?_
  refine j_iinc (pc := 93) C (v := 14) (lv' := [(1, .int 14), (0, .ref h)]) d_State_clear_93 0 rfl (by decide) (by decide) rfl ?_
  refine j_goto (pc := 96) C (tgt := 80) d_State_clear_96 (by decide) ?_
  refine j_iload_n (pc := 80) C d_State_clear_80 rfl 0 rfl ?_
  refine j_bipush (pc := 81) C (v := 16) d_State_clear_81 (by decide) ?_
  refine j_icmp_geF (pc := 83) C (tgt := 99) d_State_clear_83 (by decide) (by decide) ?_
  refine j_aload_n (pc := 86) C d_State_clear_86 rfl 1 rfl ?_
  refine j_get (pc := 87) C gf_State_28 0 rfl rfl d_State_clear_87 ?_
  refine j_iload_n (pc := 90) C d_State_clear_90 rfl 0 rfl ?_
  refine j_iconst (pc := 91) C (v := 0) d_State_clear_91 (by decide) ?_
  refine j_iast (pc := 92) C 6 rfl (ws' := [(h, .inr (7, [.int 0, .int 0, .int 0, .ref (sa 0), .ref (sa 1), .ref (sa 2), .ref (sa 3), .ref (sa 4), .ref (sa 5), .ref (sa 6)])), (sa 0, .inl (y 0, 9, .inl (upd (upd (upd (upd (upd (upd (upd (upd (upd f0 0 0) 1 0) 2 0) 3 0) 4 0) 5 0) 6 0) 7 0) 8 0))), (sa 1, .inl (y 0, 9, .inl (upd (upd (upd (upd (upd (upd (upd (upd (upd f1 0 0) 1 0) 2 0) 3 0) 4 0) 5 0) 6 0) 7 0) 8 0))), (sa 2, .inl (y 1, 9, .inr (.inl (vp_updL (vp_updL (vp_updL (vp_updL (vp_updL (vp_updL (vp_updL (vp_updL (vp_updL f2 0 0) 1 0) 2 0) 3 0) 4 0) 5 0) 6 0) 7 0) 8 0)))), (sa 3, .inl (y 0, 6, .inl (upd (upd (upd (upd (upd (upd f3 0 0) 1 0) 2 0) 3 0) 4 0) 5 0))), (sa 4, .inl (y 0, 6, .inl (upd (upd (upd (upd (upd (upd f4 0 0) 1 0) 2 0) 3 0) 4 0) 5 0))), (sa 5, .inl (y 0, 16, .inl (upd (upd (upd (upd (upd (upd (upd (upd (upd (upd (upd (upd (upd (upd (upd f5 0 0) 1 0) 2 0) 3 0) 4 0) 5 0) 6 0) 7 0) 8 0) 9 0) 10 0) 11 0) 12 0) 13 0) 14 0))), (sa 6, .inl (y 1, 5, .inr (.inl f6)))]) (vin (by decide)) rfl d_State_clear_92 ?_
  refine j_iinc (pc := 93) C (v := 15) (lv' := [(1, .int 15), (0, .ref h)]) d_State_clear_93 0 rfl (by decide) (by decide) rfl ?_
  refine j_goto (pc := 96) C (tgt := 80) d_State_clear_96 (by decide) ?_
  refine j_iload_n (pc := 80) C d_State_clear_80 rfl 0 rfl ?_
  refine j_bipush (pc := 81) C (v := 16) d_State_clear_81 (by decide) ?_
  refine j_icmp_geF (pc := 83) C (tgt := 99) d_State_clear_83 (by decide) (by decide) ?_
  refine j_aload_n (pc := 86) C d_State_clear_86 rfl 1 rfl ?_
  refine j_get (pc := 87) C gf_State_28 0 rfl rfl d_State_clear_87 ?_
  refine j_iload_n (pc := 90) C d_State_clear_90 rfl 0 rfl ?_
  refine j_iconst (pc := 91) C (v := 0) d_State_clear_91 (by decide) ?_
  refine j_iast (pc := 92) C 6 rfl (ws' := [(h, .inr (7, [.int 0, .int 0, .int 0, .ref (sa 0), .ref (sa 1), .ref (sa 2), .ref (sa 3), .ref (sa 4), .ref (sa 5), .ref (sa 6)])), (sa 0, .inl (y 0, 9, .inl (upd (upd (upd (upd (upd (upd (upd (upd (upd f0 0 0) 1 0) 2 0) 3 0) 4 0) 5 0) 6 0) 7 0) 8 0))), (sa 1, .inl (y 0, 9, .inl (upd (upd (upd (upd (upd (upd (upd (upd (upd f1 0 0) 1 0) 2 0) 3 0) 4 0) 5 0) 6 0) 7 0) 8 0))), (sa 2, .inl (y 1, 9, .inr (.inl (vp_updL (vp_updL (vp_updL (vp_updL (vp_updL (vp_updL (vp_updL (vp_updL (vp_updL f2 0 0) 1 0) 2 0) 3 0) 4 0) 5 0) 6 0) 7 0) 8 0)))), (sa 3, .inl (y 0, 6, .inl (upd (upd (upd (upd (upd (upd f3 0 0) 1 0) 2 0) 3 0) 4 0) 5 0))), (sa 4, .inl (y 0, 6, .inl (upd (upd (upd (upd (upd (upd f4 0 0) 1 0) 2 0) 3 0) 4 0) 5 0))), (sa 5, .inl (y 0, 16, .inl (upd (upd (upd (upd (upd (upd (upd (upd (upd (upd (upd (upd (upd (upd (upd (upd f5 0 0) 1 0) 2 0) 3 0) 4 0) 5 0) 6 0) 7 0) 8 0) 9 0) 10 0) 11 0) 12 0) 13 0) 14 0) 15 0))), (sa 6, .inl (y 1, 5, .inr (.inl f6)))]) (vin (by decide)) rfl d_State_clear_92 ?_
  refine j_iinc (pc := 93) C (v := 16) (lv' := [(1, .int 16), (0, .ref h)]) d_State_clear_93 0 rfl (by decide) (by decide) rfl ?_
  refine j_goto (pc := 96) C (tgt := 80) d_State_clear_96 (by decide) ?_
  refine j_iload_n (pc := 80) C d_State_clear_80 rfl 0 rfl ?_
  refine j_bipush (pc := 81) C (v := 16) d_State_clear_81 (by decide) ?_
  refine j_icmp_geT (pc := 83) C (tgt := 99) d_State_clear_83 (by decide) (by decide) ?_
  refine j_iconst (pc := 99) C (v := 0) d_State_clear_99 (by decide) ?_
  refine j_istore_n (pc := 100) C (lv' := [(1, .int 0), (0, .ref h)]) d_State_clear_100 rfl (by decide) rfl ?_
  refine j_iload_n (pc := 101) C d_State_clear_101 rfl 0 rfl ?_
  refine j_iconst (pc := 102) C (v := 5) d_State_clear_102 (by decide) ?_
  refine j_icmp_geF (pc := 103) C (tgt := 119) d_State_clear_103 (by decide) (by decide) ?_
  refine j_aload_n (pc := 106) C d_State_clear_106 rfl 1 rfl ?_
  refine j_get (pc := 107) C gf_State_31 0 rfl rfl d_State_clear_107 ?_
  refine j_iload_n (pc := 110) C d_State_clear_110 rfl 0 rfl ?_
  refine j_lconst (pc := 111) C (v := 0) d_State_clear_111 (by decide) ?_
  refine j_last (pc := 112) C 7 rfl (ws' := [(h, .inr (7, [.int 0, .int 0, .int 0, .ref (sa 0), .ref (sa 1), .ref (sa 2), .ref (sa 3), .ref (sa 4), .ref (sa 5), .ref (sa 6)])), (sa 0, .inl (y 0, 9, .inl (upd (upd (upd (upd (upd (upd (upd (upd (upd f0 0 0) 1 0) 2 0) 3 0) 4 0) 5 0) 6 0) 7 0) 8 0))), (sa 1, .inl (y 0, 9, .inl (upd (upd (upd (upd (upd (upd (upd (upd (upd f1 0 0) 1 0) 2 0) 3 0) 4 0) 5 0) 6 0) 7 0) 8 0))), (sa 2, .inl (y 1, 9, .inr (.inl (vp_updL (vp_updL (vp_updL (vp_updL (vp_updL (vp_updL (vp_updL (vp_updL (vp_updL f2 0 0) 1 0) 2 0) 3 0) 4 0) 5 0) 6 0) 7 0) 8 0)))), (sa 3, .inl (y 0, 6, .inl (upd (upd (upd (upd (upd (upd f3 0 0) 1 0) 2 0) 3 0) 4 0) 5 0))), (sa 4, .inl (y 0, 6, .inl (upd (upd (upd (upd (upd (upd f4 0 0) 1 0) 2 0) 3 0) 4 0) 5 0))), (sa 5, .inl (y 0, 16, .inl (upd (upd (upd (upd (upd (upd (upd (upd (upd (upd (upd (upd (upd (upd (upd (upd f5 0 0) 1 0) 2 0) 3 0) 4 0) 5 0) 6 0) 7 0) 8 0) 9 0) 10 0) 11 0) 12 0) 13 0) 14 0) 15 0))), (sa 6, .inl (y 1, 5, .inr (.inl (vp_updL f6 0 0))))]) (vin (by decide)) rfl d_State_clear_112 ?_
  refine j_iinc (pc := 113) C (v := 1) (lv' := [(1, .int 1), (0, .ref h)]) d_State_clear_113 0 rfl (by decide) (by decide) rfl ?_
  refine j_goto (pc := 116) C (tgt := 101) d_State_clear_116 (by decide) ?_
  refine j_iload_n (pc := 101) C d_State_clear_101 rfl 0 rfl ?_
  refine j_iconst (pc := 102) C (v := 5) d_State_clear_102 (by decide) ?_
  refine j_icmp_geF (pc := 103) C (tgt := 119) d_State_clear_103 (by decide) (by decide) ?_
  refine j_aload_n (pc := 106) C d_State_clear_106 rfl 1 rfl ?_
  refine j_get (pc := 107) C gf_State_31 0 rfl rfl d_State_clear_107 ?_
  refine j_iload_n (pc := 110) C d_State_clear_110 rfl 0 rfl ?_
  refine j_lconst (pc := 111) C (v := 0) d_State_clear_111 (by decide) ?_
  refine j_last (pc := 112) C 7 rfl (ws' := [(h, .inr (7, [.int 0, .int 0, .int 0, .ref (sa 0), .ref (sa 1), .ref (sa 2), .ref (sa 3), .ref (sa 4), .ref (sa 5), .ref (sa 6)])), (sa 0, .inl (y 0, 9, .inl (upd (upd (upd (upd (upd (upd (upd (upd (upd f0 0 0) 1 0) 2 0) 3 0) 4 0) 5 0) 6 0) 7 0) 8 0))), (sa 1, .inl (y 0, 9, .inl (upd (upd (upd (upd (upd (upd (upd (upd (upd f1 0 0) 1 0) 2 0) 3 0) 4 0) 5 0) 6 0) 7 0) 8 0))), (sa 2, .inl (y 1, 9, .inr (.inl (vp_updL (vp_updL (vp_updL (vp_updL (vp_updL (vp_updL (vp_updL (vp_updL (vp_updL f2 0 0) 1 0) 2 0) 3 0) 4 0) 5 0) 6 0) 7 0) 8 0)))), (sa 3, .inl (y 0, 6, .inl (upd (upd (upd (upd (upd (upd f3 0 0) 1 0) 2 0) 3 0) 4 0) 5 0))), (sa 4, .inl (y 0, 6, .inl (upd (upd (upd (upd (upd (upd f4 0 0) 1 0) 2 0) 3 0) 4 0) 5 0))), (sa 5, .inl (y 0, 16, .inl (upd (upd (upd (upd (upd (upd (upd (upd (upd (upd (upd (upd (upd (upd (upd (upd f5 0 0) 1 0) 2 0) 3 0) 4 0) 5 0) 6 0) 7 0) 8 0) 9 0) 10 0) 11 0) 12 0) 13 0) 14 0) 15 0))), (sa 6, .inl (y 1, 5, .inr (.inl (vp_updL (vp_updL f6 0 0) 1 0))))]) (vin (by decide)) rfl d_State_clear_112 ?_
  refine j_iinc (pc := 113) C (v := 2) (lv' := [(1, .int 2), (0, .ref h)]) d_State_clear_113 0 rfl (by decide) (by decide) rfl ?_
  refine j_goto (pc := 116) C (tgt := 101) d_State_clear_116 (by decide) ?_
  refine j_iload_n (pc := 101) C d_State_clear_101 rfl 0 rfl ?_
  refine j_iconst (pc := 102) C (v := 5) d_State_clear_102 (by decide) ?_
  refine j_icmp_geF (pc := 103) C (tgt := 119) d_State_clear_103 (by decide) (by decide) ?_
  refine j_aload_n (pc := 106) C d_State_clear_106 rfl 1 rfl ?_
  refine j_get (pc := 107) C gf_State_31 0 rfl rfl d_State_clear_107 ?_
  refine j_iload_n (pc := 110) C d_State_clear_110 rfl 0 rfl ?_
  refine j_lconst (pc := 111) C (v := 0) d_State_clear_111 (by decide) ?_
  refine j_last (pc := 112) C 7 rfl (ws' := [(h, .inr (7, [.int 0, .int 0, .int 0, .ref (sa 0), .ref (sa 1), .ref (sa 2), .ref (sa 3), .ref (sa 4), .ref (sa 5), .ref (sa 6)])), (sa 0, .inl (y 0, 9, .inl (upd (upd (upd (upd (upd (upd (upd (upd (upd f0 0 0) 1 0) 2 0) 3 0) 4 0) 5 0) 6 0) 7 0) 8 0))), (sa 1, .inl (y 0, 9, .inl (upd (upd (upd (upd (upd (upd (upd (upd (upd f1 0 0) 1 0) 2 0) 3 0) 4 0) 5 0) 6 0) 7 0) 8 0))), (sa 2, .inl (y 1, 9, .inr (.inl (vp_updL (vp_updL (vp_updL (vp_updL (vp_updL (vp_updL (vp_updL (vp_updL (vp_updL f2 0 0) 1 0) 2 0) 3 0) 4 0) 5 0) 6 0) 7 0) 8 0)))), (sa 3, .inl (y 0, 6, .inl (upd (upd (upd (upd (upd (upd f3 0 0) 1 0) 2 0) 3 0) 4 0) 5 0))), (sa 4, .inl (y 0, 6, .inl (upd (upd (upd (upd (upd (upd f4 0 0) 1 0) 2 0) 3 0) 4 0) 5 0))), (sa 5, .inl (y 0, 16, .inl (upd (upd (upd (upd (upd (upd (upd (upd (upd (upd (upd (upd (upd (upd (upd (upd f5 0 0) 1 0) 2 0) 3 0) 4 0) 5 0) 6 0) 7 0) 8 0) 9 0) 10 0) 11 0) 12 0) 13 0) 14 0) 15 0))), (sa 6, .inl (y 1, 5, .inr (.inl (vp_updL (vp_updL (vp_updL f6 0 0) 1 0) 2 0))))]) (vin (by decide)) rfl d_State_clear_112 ?_
  refine j_iinc (pc := 113) C (v := 3) (lv' := [(1, .int 3), (0, .ref h)]) d_State_clear_113 0 rfl (by decide) (by decide) rfl ?_
  refine j_goto (pc := 116) C (tgt := 101) d_State_clear_116 (by decide) ?_
  refine j_iload_n (pc := 101) C d_State_clear_101 rfl 0 rfl ?_
  refine j_iconst (pc := 102) C (v := 5) d_State_clear_102 (by decide) ?_
  refine j_icmp_geF (pc := 103) C (tgt := 119) d_State_clear_103 (by decide) (by decide) ?_
  refine j_aload_n (pc := 106) C d_State_clear_106 rfl 1 rfl ?_
  refine j_get (pc := 107) C gf_State_31 0 rfl rfl d_State_clear_107 ?_
  refine j_iload_n (pc := 110) C d_State_clear_110 rfl 0 rfl ?_
  refine j_lconst (pc := 111) C (v := 0) d_State_clear_111 (by decide) ?_
  refine j_last (pc := 112) C 7 rfl (ws' := [(h, .inr (7, [.int 0, .int 0, .int 0, .ref (sa 0), .ref (sa 1), .ref (sa 2), .ref (sa 3), .ref (sa 4), .ref (sa 5), .ref (sa 6)])), (sa 0, .inl (y 0, 9, .inl (upd (upd (upd (upd (upd (upd (upd (upd (upd f0 0 0) 1 0) 2 0) 3 0) 4 0) 5 0) 6 0) 7 0) 8 0))), (sa 1, .inl (y 0, 9, .inl (upd (upd (upd (upd (upd (upd (upd (upd (upd f1 0 0) 1 0) 2 0) 3 0) 4 0) 5 0) 6 0) 7 0) 8 0))), (sa 2, .inl (y 1, 9, .inr (.inl (vp_updL (vp_updL (vp_updL (vp_updL (vp_updL (vp_updL (vp_updL (vp_updL (vp_updL f2 0 0) 1 0) 2 0) 3 0) 4 0) 5 0) 6 0) 7 0) 8 0)))), (sa 3, .inl (y 0, 6, .inl (upd (upd (upd (upd (upd (upd f3 0 0) 1 0) 2 0) 3 0) 4 0) 5 0))), (sa 4, .inl (y 0, 6, .inl (upd (upd (upd (upd (upd (upd f4 0 0) 1 0) 2 0) 3 0) 4 0) 5 0))), (sa 5, .inl (y 0, 16, .inl (upd (upd (upd (upd (upd (upd (upd (upd (upd (upd (upd (upd (upd (upd (upd (upd f5 0 0) 1 0) 2 0) 3 0) 4 0) 5 0) 6 0) 7 0) 8 0) 9 0) 10 0) 11 0) 12 0) 13 0) 14 0) 15 0))), (sa 6, .inl (y 1, 5, .inr (.inl (vp_updL (vp_updL (vp_updL (vp_updL f6 0 0) 1 0) 2 0) 3 0))))]) (vin (by decide)) rfl d_State_clear_112 ?_
  refine j_iinc (pc := 113) C (v := 4) (lv' := [(1, .int 4), (0, .ref h)]) d_State_clear_113 0 rfl (by decide) (by decide) rfl ?_
  refine j_goto (pc := 116) C (tgt := 101) d_State_clear_116 (by decide) ?_
  refine j_iload_n (pc := 101) C d_State_clear_101 rfl 0 rfl ?_
  refine j_iconst (pc := 102) C (v := 5) d_State_clear_102 (by decide) ?_
  refine j_icmp_geF (pc := 103) C (tgt := 119) d_State_clear_103 (by decide) (by decide) ?_
  refine j_aload_n (pc := 106) C d_State_clear_106 rfl 1 rfl ?_
  refine j_get (pc := 107) C gf_State_31 0 rfl rfl d_State_clear_107 ?_
  refine j_iload_n (pc := 110) C d_State_clear_110 rfl 0 rfl ?_
  refine j_lconst (pc := 111) C (v := 0) d_State_clear_111 (by decide) ?_
  refine j_last (pc := 112) C 7 rfl (ws' := [(h, .inr (7, [.int 0, .int 0, .int 0, .ref (sa 0), .ref (sa 1), .ref (sa 2), .ref (sa 3), .ref (sa 4), .ref (sa 5), .ref (sa 6)])), (sa 0, .inl (y 0, 9, .inl (upd (upd (upd (upd (upd (upd (upd (upd (upd f0 0 0) 1 0) 2 0) 3 0) 4 0) 5 0) 6 0) 7 0) 8 0))), (sa 1, .inl (y 0, 9, .inl (upd (upd (upd (upd (upd (upd (upd (upd (upd f1 0 0) 1 0) 2 0) 3 0) 4 0) 5 0) 6 0) 7 0) 8 0))), (sa 2, .inl (y 1, 9, .inr (.inl (vp_updL (vp_updL (vp_updL (vp_updL (vp_updL (vp_updL (vp_updL (vp_updL (vp_updL f2 0 0) 1 0) 2 0) 3 0) 4 0) 5 0) 6 0) 7 0) 8 0)))), (sa 3, .inl (y 0, 6, .inl (upd (upd (upd (upd (upd (upd f3 0 0) 1 0) 2 0) 3 0) 4 0) 5 0))), (sa 4, .inl (y 0, 6, .inl (upd (upd (upd (upd (upd (upd f4 0 0) 1 0) 2 0) 3 0) 4 0) 5 0))), (sa 5, .inl (y 0, 16, .inl (upd (upd (upd (upd (upd (upd (upd (upd (upd (upd (upd (upd (upd (upd (upd (upd f5 0 0) 1 0) 2 0) 3 0) 4 0) 5 0) 6 0) 7 0) 8 0) 9 0) 10 0) 11 0) 12 0) 13 0) 14 0) 15 0))), (sa 6, .inl (y 1, 5, .inr (.inl (vp_updL (vp_updL (vp_updL (vp_updL (vp_updL f6 0 0) 1 0) 2 0) 3 0) 4 0))))]) (vin (by decide)) rfl d_State_clear_112 ?_
  refine j_iinc (pc := 113) C (v := 5) (lv' := [(1, .int 5), (0, .ref h)]) d_State_clear_113 0 rfl (by decide) (by decide) rfl ?_
  refine j_goto (pc := 116) C (tgt := 101) d_State_clear_116 (by decide) ?_
  refine j_iload_n (pc := 101) C d_State_clear_101 rfl 0 rfl ?_
  refine j_iconst (pc := 102) C (v := 5) d_State_clear_102 (by decide) ?_
  refine j_icmp_geT (pc := 103) C (tgt := 119) d_State_clear_103 (by decide) (by decide) ?_
  exact j_vret (pc := 119) C hr (fun k => [0, 0, 0].getD k 0, fun k => [(upd (upd (upd (upd (upd (upd (upd (upd (upd f0 0 0) 1 0) 2 0) 3 0) 4 0) 5 0) 6 0) 7 0) 8 0), (upd (upd (upd (upd (upd (upd (upd (upd (upd f1 0 0) 1 0) 2 0) 3 0) 4 0) 5 0) 6 0) 7 0) 8 0), (upd (upd (upd (upd (upd (upd f3 0 0) 1 0) 2 0) 3 0) 4 0) 5 0), (upd (upd (upd (upd (upd (upd f4 0 0) 1 0) 2 0) 3 0) 4 0) 5 0), (upd (upd (upd (upd (upd (upd (upd (upd (upd (upd (upd (upd (upd (upd (upd (upd f5 0 0) 1 0) 2 0) 3 0) 4 0) 5 0) 6 0) 7 0) 8 0) 9 0) 10 0) 11 0) 12 0) 13 0) 14 0) 15 0)].getD k (fun _ => 0), fun k => [(vp_updL (vp_updL (vp_updL (vp_updL (vp_updL (vp_updL (vp_updL (vp_updL (vp_updL f2 0 0) 1 0) 2 0) 3 0) 4 0) 5 0) 6 0) 7 0) 8 0), (vp_updL (vp_updL (vp_updL (vp_updL (vp_updL f6 0 0) 1 0) 2 0) 3 0) 4 0)].getD k (fun _ => 0)) trivial [0, 1, 2, 3, 4, 5, 6, 7] rfl (by decide) (by decide) (by decide) d_State_clear_119
theorem d_Past_keep_0 : decode prog_6_method_2_code 0 = .ok (.aload_n 0, 1) := by decide +kernel
theorem d_Past_keep_1 : decode prog_6_method_2_code 1 = .ok (.getfield 11, 3) := by decide +kernel
theorem gf_Past_11 : GF "NineBoards$Past" 11 3 2 := ⟨_, _, _, rfl, ci_Past, by decide, (mt_1 (List.mem_of_getElem? (i := 119) rfl) rfl)⟩
theorem d_Past_keep_4 : decode prog_6_method_2_code 4 = .ok (.aload_n 0, 1) := by decide +kernel
theorem d_Past_keep_5 : decode prog_6_method_2_code 5 = .ok (.getfield 18, 3) := by decide +kernel
theorem gf_Past_18 : GF "NineBoards$Past" 18 3 1 := ⟨_, _, _, rfl, ci_Past, by decide, (mt_1 (List.mem_of_getElem? (i := 118) rfl) rfl)⟩
theorem d_Past_keep_8 : decode prog_6_method_2_code 8 = .ok (.aaload, 1) := by decide +kernel
theorem d_Past_keep_9 : decode prog_6_method_2_code 9 = .ok (.aload_n 1, 1) := by decide +kernel
theorem d_Past_keep_10 : decode prog_6_method_2_code 10 = .ok (.invokevirtual 22, 3) := by decide +kernel
theorem kw_Past_22 : KW "NineBoards$Past" 22 ⟨"NineBoards$State", "take", "(LNineBoards$State;)V"⟩ prog_10_method_3_code 2 none 1 := ⟨(mt_4 (List.mem_of_getElem? (i := 65) rfl) rfl), (mt_1 (List.mem_of_getElem? (i := 4) rfl) rfl), (mt_3 (List.mem_of_getElem? (i := 239) rfl) rfl), by decide +kernel⟩
theorem kv_State_take : Cond.instanceMethod ⟨"NineBoards$State", "take", "(LNineBoards$State;)V"⟩ ∈ TB ∧ Cond.selects "NineBoards$State" ⟨"NineBoards$State", "take", "(LNineBoards$State;)V"⟩ ⟨"NineBoards$State", "take", "(LNineBoards$State;)V"⟩ ∈ TB := ⟨(mt_3 (List.mem_of_getElem? (i := 237) rfl) rfl), (mt_3 (List.mem_of_getElem? (i := 238) rfl) rfl)⟩
theorem d_Past_keep_13 : decode prog_6_method_2_code 13 = .ok (.aload_n 0, 1) := by decide +kernel
theorem d_Past_keep_14 : decode prog_6_method_2_code 14 = .ok (.aload_n 0, 1) := by decide +kernel
theorem d_Past_keep_15 : decode prog_6_method_2_code 15 = .ok (.getfield 18, 3) := by decide +kernel
theorem d_Past_keep_18 : decode prog_6_method_2_code 18 = .ok (.iconst 1, 1) := by decide +kernel
theorem d_Past_keep_19 : decode prog_6_method_2_code 19 = .ok (.iadd, 1) := by decide +kernel
theorem d_Past_keep_20 : decode prog_6_method_2_code 20 = .ok (.bipush 30, 2) := by decide +kernel
theorem d_Past_keep_22 : decode prog_6_method_2_code 22 = .ok (.irem, 1) := by decide +kernel
theorem d_Past_keep_23 : decode prog_6_method_2_code 23 = .ok (.putfield 18, 3) := by decide +kernel
theorem pf_Past_18 : PF "NineBoards$Past" 18 3 1 (.int) false := ⟨_, _, _, ct_Past, rfl, ci_Past, by decide, (mt_1 (List.mem_of_getElem? (i := 118) rfl) rfl), cp_Past, cn_Past, rfl, by decide +kernel, (fun h => by cases h)⟩
theorem d_Past_keep_26 : decode prog_6_method_2_code 26 = .ok (.aload_n 0, 1) := by decide +kernel
theorem d_Past_keep_27 : decode prog_6_method_2_code 27 = .ok (.bipush 30, 2) := by decide +kernel
theorem d_Past_keep_29 : decode prog_6_method_2_code 29 = .ok (.aload_n 0, 1) := by decide +kernel
theorem d_Past_keep_30 : decode prog_6_method_2_code 30 = .ok (.getfield 26, 3) := by decide +kernel
theorem gf_Past_26 : GF "NineBoards$Past" 26 3 0 := ⟨_, _, _, rfl, ci_Past, by decide, (mt_1 (List.mem_of_getElem? (i := 116) rfl) rfl)⟩
theorem d_Past_keep_33 : decode prog_6_method_2_code 33 = .ok (.iconst 1, 1) := by decide +kernel
theorem d_Past_keep_34 : decode prog_6_method_2_code 34 = .ok (.iadd, 1) := by decide +kernel
theorem d_Past_keep_35 : decode prog_6_method_2_code 35 = .ok (.invokestatic 29, 3) := by decide +kernel
theorem d_Past_keep_38 : decode prog_6_method_2_code 38 = .ok (.putfield 26, 3) := by decide +kernel
theorem pf_Past_26 : PF "NineBoards$Past" 26 3 0 (.int) false := ⟨_, _, _, ct_Past, rfl, ci_Past, by decide, (mt_1 (List.mem_of_getElem? (i := 116) rfl) rfl), cp_Past, cn_Past, rfl, by decide +kernel, (fun h => by cases h)⟩
theorem d_Past_keep_41 : decode prog_6_method_2_code 41 = .ok (.return_, 1) := by decide +kernel
set_option maxHeartbeats 4000000 in
set_option maxRecDepth 100000 in
theorem c_keep (l : Launch) (D : va_G) (y : Nat → ClassId) (ps : Nat) (kp : Nat) (ix : Nat) (cn : Int32) (hh : Nat → Nat) (aa : Nat → Nat → Nat) (ds : Nat → SD) (h : Nat) (sa : Nat → Nat) (sd : Int32) (sw : Int32) (sl : Int32) (f0 : Nat → Int32) (f1 : Nat → Int32) (f2 : Nat → Int64) (f3 : Nat → Int32) (f4 : Nat → Int32) (f5 : Nat → Int32) (f6 : Nat → Int64) (hi : ix < 30) : CT l D y ⟨"NineBoards$Past", "keep", "(LNineBoards$State;)V"⟩ prog_6_method_2_code 2 none ({ frames := 2, cells := 0, slots := 0, locals := 85 } : Room) [.ref ps, .ref h] (([(ps, .inr (3, [.int cn, .int (nI ix), .ref kp])), (kp, .inl (y 4, 30, .inr (.inr (.inr (.inr (fun j => some (hh j))))))), (h, .inr (7, [.int sd, .int sw, .int sl, .ref (sa 0), .ref (sa 1), .ref (sa 2), .ref (sa 3), .ref (sa 4), .ref (sa 5), .ref (sa 6)])), (sa 0, .inl (y 0, 9, .inl f0)), (sa 1, .inl (y 0, 9, .inl f1)), (sa 2, .inl (y 1, 9, .inr (.inl f2))), (sa 3, .inl (y 0, 6, .inl f3)), (sa 4, .inl (y 0, 6, .inl f4)), (sa 5, .inl (y 0, 16, .inl f5)), (sa 6, .inl (y 1, 5, .inr (.inl f6)))] : va_W) ++ FG (KF y hh aa ds) (List.range 30)) (QV D (([(ps, .inr (3, [.int cn, .int (nI ix), .ref kp])), (kp, .inl (y 4, 30, .inr (.inr (.inr (.inr (fun j => some (hh j))))))), (h, .inr (7, [.int sd, .int sw, .int sl, .ref (sa 0), .ref (sa 1), .ref (sa 2), .ref (sa 3), .ref (sa 4), .ref (sa 5), .ref (sa 6)])), (sa 0, .inl (y 0, 9, .inl f0)), (sa 1, .inl (y 0, 9, .inl f1)), (sa 2, .inl (y 1, 9, .inr (.inl f2))), (sa 3, .inl (y 0, 6, .inl f3)), (sa 4, .inl (y 0, 6, .inl f4)), (sa 5, .inl (y 0, 16, .inl f5)), (sa 6, .inl (y 1, 5, .inr (.inl f6)))] : va_W) ++ FG (KF y hh aa ds) (List.range 30)) (fun (_ : Int32 × (Nat → SD)) => True) (fun u => (([(ps, .inr (3, [.int u.1, .int (nI ((ix + 1) % 30)), .ref kp])), (kp, .inl (y 4, 30, .inr (.inr (.inr (.inr (fun j => some (hh j))))))), (h, .inr (7, [.int sd, .int sw, .int sl, .ref (sa 0), .ref (sa 1), .ref (sa 2), .ref (sa 3), .ref (sa 4), .ref (sa 5), .ref (sa 6)])), (sa 0, .inl (y 0, 9, .inl f0)), (sa 1, .inl (y 0, 9, .inl f1)), (sa 2, .inl (y 1, 9, .inr (.inl f2))), (sa 3, .inl (y 0, 6, .inl f3)), (sa 4, .inl (y 0, 6, .inl f4)), (sa 5, .inl (y 0, 16, .inl f5)), (sa 6, .inl (y 1, 5, .inr (.inl f6)))] : va_W) ++ FG (KF y hh aa u.2) (List.range 30)))) := by
  refine CT.of (by decide) (nb rfl) ?_
  intro p e s m args below meth c C hr
  refine j_lv (lv' := [(0, .ref ps), (1, .ref h)]) rfl ?_
  refine j_aload_n (pc := 0) C d_Past_keep_0 rfl 0 rfl ?_
  refine j_get (pc := 1) C gf_Past_11 0 rfl rfl d_Past_keep_1 ?_
  refine j_aload_n (pc := 4) C d_Past_keep_4 rfl 0 rfl ?_
  refine j_get (pc := 5) C gf_Past_18 0 rfl rfl d_Past_keep_5 ?_
  refine j_aald (pc := 8) C 1 rfl (v := hh ix) (vp_in_nI (by omega) (by decide)) (by rw [nI_clamp (by omega)]) d_Past_keep_8 ?_
  refine j_aload_n (pc := 9) C d_Past_keep_9 rfl 1 rfl ?_
  refine j_perm (ws' := (([(ps, .inr (3, [.int cn, .int (nI ix), .ref kp])), (kp, .inl (y 4, 30, .inr (.inr (.inr (.inr (fun j => some (hh j))))))), (h, .inr (7, [.int sd, .int sw, .int sl, .ref (sa 0), .ref (sa 1), .ref (sa 2), .ref (sa 3), .ref (sa 4), .ref (sa 5), .ref (sa 6)])), (sa 0, .inl (y 0, 9, .inl f0)), (sa 1, .inl (y 0, 9, .inl f1)), (sa 2, .inl (y 1, 9, .inr (.inl f2))), (sa 3, .inl (y 0, 6, .inl f3)), (sa 4, .inl (y 0, 6, .inl f4)), (sa 5, .inl (y 0, 16, .inl f5)), (sa 6, .inl (y 1, 5, .inr (.inl f6))), (hh ix, .inr (7, [.int ((ds ix).1 0), .int ((ds ix).1 1), .int ((ds ix).1 2), .ref (aa ix 0), .ref (aa ix 1), .ref (aa ix 2), .ref (aa ix 3), .ref (aa ix 4), .ref (aa ix 5), .ref (aa ix 6)])), (aa ix 0, .inl (y 0, 9, .inl ((ds ix).2.1 0))), (aa ix 1, .inl (y 0, 9, .inl ((ds ix).2.1 1))), (aa ix 2, .inl (y 1, 9, .inr (.inl ((ds ix).2.2 0)))), (aa ix 3, .inl (y 0, 6, .inl ((ds ix).2.1 2))), (aa ix 4, .inl (y 0, 6, .inl ((ds ix).2.1 3))), (aa ix 5, .inl (y 0, 16, .inl ((ds ix).2.1 4))), (aa ix 6, .inl (y 1, 5, .inr (.inl ((ds ix).2.2 1))))] : va_W) ++ FG (KF y hh aa ds) ((List.range 30).erase ix))) (fg_out (F := KF y hh aa ds) (X := [(ps, .inr (3, [.int cn, .int (nI ix), .ref kp])), (kp, .inl (y 4, 30, .inr (.inr (.inr (.inr (fun j => some (hh j))))))), (h, .inr (7, [.int sd, .int sw, .int sl, .ref (sa 0), .ref (sa 1), .ref (sa 2), .ref (sa 3), .ref (sa 4), .ref (sa 5), .ref (sa 6)])), (sa 0, .inl (y 0, 9, .inl f0)), (sa 1, .inl (y 0, 9, .inl f1)), (sa 2, .inl (y 1, 9, .inr (.inl f2))), (sa 3, .inl (y 0, 6, .inl f3)), (sa 4, .inl (y 0, 6, .inl f4)), (sa 5, .inl (y 0, 16, .inl f5)), (sa 6, .inl (y 1, 5, .inr (.inl f6)))]) (i := ix) (rm30 hi)) ?_
  refine j_callVvT (pc := 10) C (c_take l D y (hh ix) (aa ix) ((ds ix).1 0) ((ds ix).1 1) ((ds ix).1 2) ((ds ix).2.1 0) ((ds ix).2.1 1) ((ds ix).2.2 0) ((ds ix).2.1 2) ((ds ix).2.1 3) ((ds ix).2.1 4) ((ds ix).2.2 1) h sa sd sw sl f0 f1 f2 f3 f4 f5 f6) kw_Past_22 kv_State_take 0 7 rfl rfl ⟨by decide, by decide⟩ ⟨by decide, by decide⟩ (wr := [(ps, .inr (3, [.int cn, .int (nI ix), .ref kp])), (kp, .inl (y 4, 30, .inr (.inr (.inr (.inr (fun j => some (hh j)))))))]) [10, 11, 12, 13, 14, 15, 16, 17, 2, 3, 4, 5, 6, 7, 8, 9] [0, 1] rfl rfl (by decide) (by decide) (by decide) (As := [.ref h]) (rest := []) rfl (nb rfl) rfl d_Past_keep_10 (fun u1 _ => ?_)
  refine j_ws (ws' := (([(ps, .inr (3, [.int cn, .int (nI ix), .ref kp])), (kp, .inl (y 4, 30, .inr (.inr (.inr (.inr (fun j => some (hh j))))))), (hh ix, .inr (7, [.int (u1.1 0), .int (u1.1 1), .int (u1.1 2), .ref (aa ix 0), .ref (aa ix 1), .ref (aa ix 2), .ref (aa ix 3), .ref (aa ix 4), .ref (aa ix 5), .ref (aa ix 6)])), (aa ix 0, .inl (y 0, 9, .inl (u1.2.1 0))), (aa ix 1, .inl (y 0, 9, .inl (u1.2.1 1))), (aa ix 2, .inl (y 1, 9, .inr (.inl (u1.2.2 0)))), (aa ix 3, .inl (y 0, 6, .inl (u1.2.1 2))), (aa ix 4, .inl (y 0, 6, .inl (u1.2.1 3))), (aa ix 5, .inl (y 0, 16, .inl (u1.2.1 4))), (aa ix 6, .inl (y 1, 5, .inr (.inl (u1.2.2 1)))), (h, .inr (7, [.int sd, .int sw, .int sl, .ref (sa 0), .ref (sa 1), .ref (sa 2), .ref (sa 3), .ref (sa 4), .ref (sa 5), .ref (sa 6)])), (sa 0, .inl (y 0, 9, .inl f0)), (sa 1, .inl (y 0, 9, .inl f1)), (sa 2, .inl (y 1, 9, .inr (.inl f2))), (sa 3, .inl (y 0, 6, .inl f3)), (sa 4, .inl (y 0, 6, .inl f4)), (sa 5, .inl (y 0, 16, .inl f5)), (sa 6, .inl (y 1, 5, .inr (.inl f6)))] : va_W) ++ FG (KF y hh aa ds) ((List.range 30).erase ix))) rfl ?_
  refine j_subT (X' := [(ps, .inr (3, [.int cn, .int (nI ix), .ref kp])), (kp, .inl (y 4, 30, .inr (.inr (.inr (.inr (fun j => some (hh j))))))), (h, .inr (7, [.int sd, .int sw, .int sl, .ref (sa 0), .ref (sa 1), .ref (sa 2), .ref (sa 3), .ref (sa 4), .ref (sa 5), .ref (sa 6)])), (sa 0, .inl (y 0, 9, .inl f0)), (sa 1, .inl (y 0, 9, .inl f1)), (sa 2, .inl (y 1, 9, .inr (.inl f2))), (sa 3, .inl (y 0, 6, .inl f3)), (sa 4, .inl (y 0, 6, .inl f4)), (sa 5, .inl (y 0, 16, .inl f5)), (sa 6, .inl (y 1, 5, .inr (.inl f6))), (hh ix, .inr (7, [.int (u1.1 0), .int (u1.1 1), .int (u1.1 2), .ref (aa ix 0), .ref (aa ix 1), .ref (aa ix 2), .ref (aa ix 3), .ref (aa ix 4), .ref (aa ix 5), .ref (aa ix 6)])), (aa ix 0, .inl (y 0, 9, .inl (u1.2.1 0))), (aa ix 1, .inl (y 0, 9, .inl (u1.2.1 1))), (aa ix 2, .inl (y 1, 9, .inr (.inl (u1.2.2 0)))), (aa ix 3, .inl (y 0, 6, .inl (u1.2.1 2))), (aa ix 4, .inl (y 0, 6, .inl (u1.2.1 3))), (aa ix 5, .inl (y 0, 16, .inl (u1.2.1 4))), (aa ix 6, .inl (y 1, 5, .inr (.inl (u1.2.2 1))))]) [0, 1, 10, 11, 12, 13, 14, 15, 16, 17, 2, 3, 4, 5, 6, 7, 8, 9] rfl (by decide) ?_
  refine j_perm (ws' := (([(ps, .inr (3, [.int cn, .int (nI ix), .ref kp])), (kp, .inl (y 4, 30, .inr (.inr (.inr (.inr (fun j => some (hh j))))))), (h, .inr (7, [.int sd, .int sw, .int sl, .ref (sa 0), .ref (sa 1), .ref (sa 2), .ref (sa 3), .ref (sa 4), .ref (sa 5), .ref (sa 6)])), (sa 0, .inl (y 0, 9, .inl f0)), (sa 1, .inl (y 0, 9, .inl f1)), (sa 2, .inl (y 1, 9, .inr (.inl f2))), (sa 3, .inl (y 0, 6, .inl f3)), (sa 4, .inl (y 0, 6, .inl f4)), (sa 5, .inl (y 0, 16, .inl f5)), (sa 6, .inl (y 1, 5, .inr (.inl f6)))] : va_W) ++ FG (KF y hh aa (va_up ds ix (fun k => [u1.1 0, u1.1 1, u1.1 2].getD k 0, fun k => [(u1.2.1 0), (u1.2.1 1), (u1.2.1 2), (u1.2.1 3), (u1.2.1 4)].getD k (fun _ => 0), fun k => [(u1.2.2 0), (u1.2.2 1)].getD k (fun _ => 0)))) (List.range 30))) (kf_in (X := [(ps, .inr (3, [.int cn, .int (nI ix), .ref kp])), (kp, .inl (y 4, 30, .inr (.inr (.inr (.inr (fun j => some (hh j))))))), (h, .inr (7, [.int sd, .int sw, .int sl, .ref (sa 0), .ref (sa 1), .ref (sa 2), .ref (sa 3), .ref (sa 4), .ref (sa 5), .ref (sa 6)])), (sa 0, .inl (y 0, 9, .inl f0)), (sa 1, .inl (y 0, 9, .inl f1)), (sa 2, .inl (y 1, 9, .inr (.inl f2))), (sa 3, .inl (y 0, 6, .inl f3)), (sa 4, .inl (y 0, 6, .inl f4)), (sa 5, .inl (y 0, 16, .inl f5)), (sa 6, .inl (y 1, 5, .inr (.inl f6)))]) (i := ix) (b := (fun k => [u1.1 0, u1.1 1, u1.1 2].getD k 0, fun k => [(u1.2.1 0), (u1.2.1 1), (u1.2.1 2), (u1.2.1 3), (u1.2.1 4)].getD k (fun _ => 0), fun k => [(u1.2.2 0), (u1.2.2 1)].getD k (fun _ => 0))) (rm30 hi) rn30) ?_
  refine j_aload_n (pc := 13) C d_Past_keep_13 rfl 0 rfl ?_
  refine j_aload_n (pc := 14) C d_Past_keep_14 rfl 0 rfl ?_
  refine j_get (pc := 15) C gf_Past_18 0 rfl rfl d_Past_keep_15 ?_
  refine j_iconst (pc := 18) C (v := 1) d_Past_keep_18 (by decide) ?_
  refine j_iadd (pc := 19) C (v := (nI ix) + 1) d_Past_keep_19 rfl ?_
  refine j_bipush (pc := 20) C (v := 30) d_Past_keep_20 (by decide) ?_
  refine j_irem (pc := 22) C (v := nI ((ix + 1) % 30)) d_Past_keep_22 (by decide) (i_30 hi) ?_
  refine j_put (pc := 23) C pf_Past_18 0 (ws' := (([(ps, .inr (3, [.int cn, .int (nI ((ix + 1) % 30)), .ref kp])), (kp, .inl (y 4, 30, .inr (.inr (.inr (.inr (fun j => some (hh j))))))), (h, .inr (7, [.int sd, .int sw, .int sl, .ref (sa 0), .ref (sa 1), .ref (sa 2), .ref (sa 3), .ref (sa 4), .ref (sa 5), .ref (sa 6)])), (sa 0, .inl (y 0, 9, .inl f0)), (sa 1, .inl (y 0, 9, .inl f1)), (sa 2, .inl (y 1, 9, .inr (.inl f2))), (sa 3, .inl (y 0, 6, .inl f3)), (sa 4, .inl (y 0, 6, .inl f4)), (sa 5, .inl (y 0, 16, .inl f5)), (sa 6, .inl (y 1, 5, .inr (.inl f6)))] : va_W) ++ FG (KF y hh aa (va_up ds ix (fun k => [u1.1 0, u1.1 1, u1.1 2].getD k 0, fun k => [(u1.2.1 0), (u1.2.1 1), (u1.2.1 2), (u1.2.1 3), (u1.2.1 4)].getD k (fun _ => 0), fun k => [(u1.2.2 0), (u1.2.2 1)].getD k (fun _ => 0)))) (List.range 30))) rfl rfl rfl (nl rfl) rfl d_Past_keep_23 ?_
  refine j_aload_n (pc := 26) C d_Past_keep_26 rfl 0 rfl ?_
  refine j_bipush (pc := 27) C (v := 30) d_Past_keep_27 (by decide) ?_
  refine j_aload_n (pc := 29) C d_Past_keep_29 rfl 0 rfl ?_
  refine j_get (pc := 30) C gf_Past_26 0 rfl rfl d_Past_keep_30 ?_
  refine j_iconst (pc := 33) C (v := 1) d_Past_keep_33 (by decide) ?_
  refine j_iadd (pc := 34) C (v := cn + 1) d_Past_keep_34 rfl ?_
  refine j_mmin (pc := 35) C (mt_4 (List.mem_of_getElem? (i := 66) rfl) rfl) (mt_3 (List.mem_of_getElem? (i := 56) rfl) rfl) (mt_1 (List.mem_of_getElem? (i := 3) rfl) rfl) (mt_3 (List.mem_of_getElem? (i := 57) rfl) rfl) (v := if cn + 1 < 30 then cn + 1 else 30) rfl (by decide) (nb rfl) (by decide) (by decide) d_Past_keep_35 ?_
  refine j_put (pc := 38) C pf_Past_26 0 (ws' := (([(ps, .inr (3, [.int (if cn + 1 < 30 then cn + 1 else 30), .int (nI ((ix + 1) % 30)), .ref kp])), (kp, .inl (y 4, 30, .inr (.inr (.inr (.inr (fun j => some (hh j))))))), (h, .inr (7, [.int sd, .int sw, .int sl, .ref (sa 0), .ref (sa 1), .ref (sa 2), .ref (sa 3), .ref (sa 4), .ref (sa 5), .ref (sa 6)])), (sa 0, .inl (y 0, 9, .inl f0)), (sa 1, .inl (y 0, 9, .inl f1)), (sa 2, .inl (y 1, 9, .inr (.inl f2))), (sa 3, .inl (y 0, 6, .inl f3)), (sa 4, .inl (y 0, 6, .inl f4)), (sa 5, .inl (y 0, 16, .inl f5)), (sa 6, .inl (y 1, 5, .inr (.inl f6)))] : va_W) ++ FG (KF y hh aa (va_up ds ix (fun k => [u1.1 0, u1.1 1, u1.1 2].getD k 0, fun k => [(u1.2.1 0), (u1.2.1 1), (u1.2.1 2), (u1.2.1 3), (u1.2.1 4)].getD k (fun _ => 0), fun k => [(u1.2.2 0), (u1.2.2 1)].getD k (fun _ => 0)))) (List.range 30))) rfl rfl rfl (nl rfl) rfl d_Past_keep_38 ?_
  exact j_vretW (pc := 41) C hr (if cn + 1 < 30 then cn + 1 else 30, (va_up ds ix (fun k => [u1.1 0, u1.1 1, u1.1 2].getD k 0, fun k => [(u1.2.1 0), (u1.2.1 1), (u1.2.1 2), (u1.2.1 3), (u1.2.1 4)].getD k (fun _ => 0), fun k => [(u1.2.2 0), (u1.2.2 1)].getD k (fun _ => 0)))) trivial rfl (by decide) (by decide) d_Past_keep_41
theorem d_Past_bringBack_0 : decode prog_6_method_3_code 0 = .ok (.aload_n 0, 1) := by decide +kernel
theorem d_Past_bringBack_1 : decode prog_6_method_3_code 1 = .ok (.getfield 26, 3) := by decide +kernel
theorem d_Past_bringBack_4 : decode prog_6_method_3_code 4 = .ok (.ifCond .gt 5, 3) := by decide +kernel
theorem d_Past_bringBack_9 : decode prog_6_method_3_code 9 = .ok (.aload_n 0, 1) := by decide +kernel
theorem d_Past_bringBack_10 : decode prog_6_method_3_code 10 = .ok (.aload_n 0, 1) := by decide +kernel
theorem d_Past_bringBack_11 : decode prog_6_method_3_code 11 = .ok (.getfield 18, 3) := by decide +kernel
theorem d_Past_bringBack_14 : decode prog_6_method_3_code 14 = .ok (.bipush 30, 2) := by decide +kernel
theorem d_Past_bringBack_16 : decode prog_6_method_3_code 16 = .ok (.iadd, 1) := by decide +kernel
theorem d_Past_bringBack_17 : decode prog_6_method_3_code 17 = .ok (.iconst 1, 1) := by decide +kernel
theorem d_Past_bringBack_18 : decode prog_6_method_3_code 18 = .ok (.isub, 1) := by decide +kernel
theorem d_Past_bringBack_19 : decode prog_6_method_3_code 19 = .ok (.bipush 30, 2) := by decide +kernel
theorem d_Past_bringBack_21 : decode prog_6_method_3_code 21 = .ok (.irem, 1) := by decide +kernel
theorem d_Past_bringBack_22 : decode prog_6_method_3_code 22 = .ok (.putfield 18, 3) := by decide +kernel
theorem d_Past_bringBack_25 : decode prog_6_method_3_code 25 = .ok (.aload_n 0, 1) := by decide +kernel
theorem d_Past_bringBack_26 : decode prog_6_method_3_code 26 = .ok (.dup, 1) := by decide +kernel
theorem d_Past_bringBack_27 : decode prog_6_method_3_code 27 = .ok (.getfield 26, 3) := by decide +kernel
theorem d_Past_bringBack_30 : decode prog_6_method_3_code 30 = .ok (.iconst 1, 1) := by decide +kernel
theorem d_Past_bringBack_31 : decode prog_6_method_3_code 31 = .ok (.isub, 1) := by decide +kernel
theorem d_Past_bringBack_32 : decode prog_6_method_3_code 32 = .ok (.putfield 26, 3) := by decide +kernel
theorem d_Past_bringBack_35 : decode prog_6_method_3_code 35 = .ok (.aload_n 1, 1) := by decide +kernel
theorem d_Past_bringBack_36 : decode prog_6_method_3_code 36 = .ok (.aload_n 0, 1) := by decide +kernel
theorem d_Past_bringBack_37 : decode prog_6_method_3_code 37 = .ok (.getfield 11, 3) := by decide +kernel
theorem d_Past_bringBack_40 : decode prog_6_method_3_code 40 = .ok (.aload_n 0, 1) := by decide +kernel
theorem d_Past_bringBack_41 : decode prog_6_method_3_code 41 = .ok (.getfield 18, 3) := by decide +kernel
theorem d_Past_bringBack_44 : decode prog_6_method_3_code 44 = .ok (.aaload, 1) := by decide +kernel
theorem d_Past_bringBack_45 : decode prog_6_method_3_code 45 = .ok (.invokevirtual 22, 3) := by decide +kernel
theorem d_Past_bringBack_48 : decode prog_6_method_3_code 48 = .ok (.iconst 1, 1) := by decide +kernel
theorem d_Past_bringBack_49 : decode prog_6_method_3_code 49 = .ok (.ireturn, 1) := by decide +kernel
theorem d_Past_bringBack_7 : decode prog_6_method_3_code 7 = .ok (.iconst 0, 1) := by decide +kernel
theorem d_Past_bringBack_8 : decode prog_6_method_3_code 8 = .ok (.ireturn, 1) := by decide +kernel
set_option maxHeartbeats 4000000 in
set_option maxRecDepth 100000 in
theorem c_bringBack (l : Launch) (D : va_G) (y : Nat → ClassId) (ps : Nat) (kp : Nat) (ix : Nat) (cn : Int32) (hh : Nat → Nat) (aa : Nat → Nat → Nat) (ds : Nat → SD) (h : Nat) (sa : Nat → Nat) (sd : Int32) (sw : Int32) (sl : Int32) (f0 : Nat → Int32) (f1 : Nat → Int32) (f2 : Nat → Int64) (f3 : Nat → Int32) (f4 : Nat → Int32) (f5 : Nat → Int32) (f6 : Nat → Int64) (hi : ix < 30) : CT l D y ⟨"NineBoards$Past", "bringBack", "(LNineBoards$State;)Z"⟩ prog_6_method_3_code 2 (some .boolean) ({ frames := 2, cells := 0, slots := 0, locals := 85 } : Room) [.ref ps, .ref h] (([(ps, .inr (3, [.int cn, .int (nI ix), .ref kp])), (kp, .inl (y 4, 30, .inr (.inr (.inr (.inr (fun j => some (hh j))))))), (h, .inr (7, [.int sd, .int sw, .int sl, .ref (sa 0), .ref (sa 1), .ref (sa 2), .ref (sa 3), .ref (sa 4), .ref (sa 5), .ref (sa 6)])), (sa 0, .inl (y 0, 9, .inl f0)), (sa 1, .inl (y 0, 9, .inl f1)), (sa 2, .inl (y 1, 9, .inr (.inl f2))), (sa 3, .inl (y 0, 6, .inl f3)), (sa 4, .inl (y 0, 6, .inl f4)), (sa 5, .inl (y 0, 16, .inl f5)), (sa 6, .inl (y 1, 5, .inr (.inl f6)))] : va_W) ++ FG (KF y hh aa ds) (List.range 30)) (QI D (([(ps, .inr (3, [.int cn, .int (nI ix), .ref kp])), (kp, .inl (y 4, 30, .inr (.inr (.inr (.inr (fun j => some (hh j))))))), (h, .inr (7, [.int sd, .int sw, .int sl, .ref (sa 0), .ref (sa 1), .ref (sa 2), .ref (sa 3), .ref (sa 4), .ref (sa 5), .ref (sa 6)])), (sa 0, .inl (y 0, 9, .inl f0)), (sa 1, .inl (y 0, 9, .inl f1)), (sa 2, .inl (y 1, 9, .inr (.inl f2))), (sa 3, .inl (y 0, 6, .inl f3)), (sa 4, .inl (y 0, 6, .inl f4)), (sa 5, .inl (y 0, 16, .inl f5)), (sa 6, .inl (y 1, 5, .inr (.inl f6)))] : va_W) ++ FG (KF y hh aa ds) (List.range 30)) (fun (r : Int32) (u : Int32 × Nat × SD × (Nat → SD)) => (r = 0 ∨ r = 1) ∧ u.2.1 < 30) (fun u => (([(ps, .inr (3, [.int u.1, .int (nI u.2.1), .ref kp])), (kp, .inl (y 4, 30, .inr (.inr (.inr (.inr (fun j => some (hh j))))))), (h, .inr (7, [.int (u.2.2.1.1 0), .int (u.2.2.1.1 1), .int (u.2.2.1.1 2), .ref (sa 0), .ref (sa 1), .ref (sa 2), .ref (sa 3), .ref (sa 4), .ref (sa 5), .ref (sa 6)])), (sa 0, .inl (y 0, 9, .inl (u.2.2.1.2.1 0))), (sa 1, .inl (y 0, 9, .inl (u.2.2.1.2.1 1))), (sa 2, .inl (y 1, 9, .inr (.inl (u.2.2.1.2.2 0)))), (sa 3, .inl (y 0, 6, .inl (u.2.2.1.2.1 2))), (sa 4, .inl (y 0, 6, .inl (u.2.2.1.2.1 3))), (sa 5, .inl (y 0, 16, .inl (u.2.2.1.2.1 4))), (sa 6, .inl (y 1, 5, .inr (.inl (u.2.2.1.2.2 1))))] : va_W) ++ FG (KF y hh aa u.2.2.2) (List.range 30)))) := by
  refine CT.of (by decide) (nb rfl) ?_
  intro p e s m args below meth c C hr
  refine j_lv (lv' := [(0, .ref ps), (1, .ref h)]) rfl ?_
  refine j_aload_n (pc := 0) C d_Past_bringBack_0 rfl 0 rfl ?_
  refine j_get (pc := 1) C gf_Past_26 0 rfl rfl d_Past_bringBack_1 ?_
  refine j_if_gt (pc := 4) C (tgt := 9) d_Past_bringBack_4 (by decide) (fun c1 => ?_) (fun c1 => ?_)
  · refine j_aload_n (pc := 9) C d_Past_bringBack_9 rfl 0 rfl ?_
    refine j_aload_n (pc := 10) C d_Past_bringBack_10 rfl 0 rfl ?_
    refine j_get (pc := 11) C gf_Past_18 0 rfl rfl d_Past_bringBack_11 ?_
    refine j_bipush (pc := 14) C (v := 30) d_Past_bringBack_14 (by decide) ?_
    refine j_iadd (pc := 16) C (v := (nI ix) + 30) d_Past_bringBack_16 rfl ?_
    refine j_iconst (pc := 17) C (v := 1) d_Past_bringBack_17 (by decide) ?_
    refine j_isub (pc := 18) C (v := ((nI ix) + 30) - 1) d_Past_bringBack_18 rfl ?_
    refine j_bipush (pc := 19) C (v := 30) d_Past_bringBack_19 (by decide) ?_
    refine j_irem (pc := 21) C (v := nI ((ix + 29) % 30)) d_Past_bringBack_21 (by decide) (i_29 hi) ?_
    refine j_put (pc := 22) C pf_Past_18 0 (ws' := (([(ps, .inr (3, [.int cn, .int (nI ((ix + 29) % 30)), .ref kp])), (kp, .inl (y 4, 30, .inr (.inr (.inr (.inr (fun j => some (hh j))))))), (h, .inr (7, [.int sd, .int sw, .int sl, .ref (sa 0), .ref (sa 1), .ref (sa 2), .ref (sa 3), .ref (sa 4), .ref (sa 5), .ref (sa 6)])), (sa 0, .inl (y 0, 9, .inl f0)), (sa 1, .inl (y 0, 9, .inl f1)), (sa 2, .inl (y 1, 9, .inr (.inl f2))), (sa 3, .inl (y 0, 6, .inl f3)), (sa 4, .inl (y 0, 6, .inl f4)), (sa 5, .inl (y 0, 16, .inl f5)), (sa 6, .inl (y 1, 5, .inr (.inl f6)))] : va_W) ++ FG (KF y hh aa ds) (List.range 30))) rfl rfl rfl (nl rfl) rfl d_Past_bringBack_22 ?_
    refine j_aload_n (pc := 25) C d_Past_bringBack_25 rfl 0 rfl ?_
    refine j_dup (pc := 26) C d_Past_bringBack_26 rfl ?_
    refine j_get (pc := 27) C gf_Past_26 0 rfl rfl d_Past_bringBack_27 ?_
    refine j_iconst (pc := 30) C (v := 1) d_Past_bringBack_30 (by decide) ?_
    refine j_isub (pc := 31) C (v := cn - 1) d_Past_bringBack_31 rfl ?_
    refine j_put (pc := 32) C pf_Past_26 0 (ws' := (([(ps, .inr (3, [.int (cn - 1), .int (nI ((ix + 29) % 30)), .ref kp])), (kp, .inl (y 4, 30, .inr (.inr (.inr (.inr (fun j => some (hh j))))))), (h, .inr (7, [.int sd, .int sw, .int sl, .ref (sa 0), .ref (sa 1), .ref (sa 2), .ref (sa 3), .ref (sa 4), .ref (sa 5), .ref (sa 6)])), (sa 0, .inl (y 0, 9, .inl f0)), (sa 1, .inl (y 0, 9, .inl f1)), (sa 2, .inl (y 1, 9, .inr (.inl f2))), (sa 3, .inl (y 0, 6, .inl f3)), (sa 4, .inl (y 0, 6, .inl f4)), (sa 5, .inl (y 0, 16, .inl f5)), (sa 6, .inl (y 1, 5, .inr (.inl f6)))] : va_W) ++ FG (KF y hh aa ds) (List.range 30))) rfl rfl rfl (nl rfl) rfl d_Past_bringBack_32 ?_
    refine j_aload_n (pc := 35) C d_Past_bringBack_35 rfl 1 rfl ?_
    refine j_aload_n (pc := 36) C d_Past_bringBack_36 rfl 0 rfl ?_
    refine j_get (pc := 37) C gf_Past_11 0 rfl rfl d_Past_bringBack_37 ?_
    refine j_aload_n (pc := 40) C d_Past_bringBack_40 rfl 0 rfl ?_
    refine j_get (pc := 41) C gf_Past_18 0 rfl rfl d_Past_bringBack_41 ?_
    refine j_aald (pc := 44) C 1 rfl (v := hh ((ix + 29) % 30)) (vp_in_nI (Nat.mod_lt _ (by decide)) (by decide)) (by rw [nI_clamp (by omega)]) d_Past_bringBack_44 ?_
    refine j_perm (ws' := (([(ps, .inr (3, [.int (cn - 1), .int (nI ((ix + 29) % 30)), .ref kp])), (kp, .inl (y 4, 30, .inr (.inr (.inr (.inr (fun j => some (hh j))))))), (h, .inr (7, [.int sd, .int sw, .int sl, .ref (sa 0), .ref (sa 1), .ref (sa 2), .ref (sa 3), .ref (sa 4), .ref (sa 5), .ref (sa 6)])), (sa 0, .inl (y 0, 9, .inl f0)), (sa 1, .inl (y 0, 9, .inl f1)), (sa 2, .inl (y 1, 9, .inr (.inl f2))), (sa 3, .inl (y 0, 6, .inl f3)), (sa 4, .inl (y 0, 6, .inl f4)), (sa 5, .inl (y 0, 16, .inl f5)), (sa 6, .inl (y 1, 5, .inr (.inl f6))), (hh ((ix + 29) % 30), .inr (7, [.int ((ds ((ix + 29) % 30)).1 0), .int ((ds ((ix + 29) % 30)).1 1), .int ((ds ((ix + 29) % 30)).1 2), .ref (aa ((ix + 29) % 30) 0), .ref (aa ((ix + 29) % 30) 1), .ref (aa ((ix + 29) % 30) 2), .ref (aa ((ix + 29) % 30) 3), .ref (aa ((ix + 29) % 30) 4), .ref (aa ((ix + 29) % 30) 5), .ref (aa ((ix + 29) % 30) 6)])), (aa ((ix + 29) % 30) 0, .inl (y 0, 9, .inl ((ds ((ix + 29) % 30)).2.1 0))), (aa ((ix + 29) % 30) 1, .inl (y 0, 9, .inl ((ds ((ix + 29) % 30)).2.1 1))), (aa ((ix + 29) % 30) 2, .inl (y 1, 9, .inr (.inl ((ds ((ix + 29) % 30)).2.2 0)))), (aa ((ix + 29) % 30) 3, .inl (y 0, 6, .inl ((ds ((ix + 29) % 30)).2.1 2))), (aa ((ix + 29) % 30) 4, .inl (y 0, 6, .inl ((ds ((ix + 29) % 30)).2.1 3))), (aa ((ix + 29) % 30) 5, .inl (y 0, 16, .inl ((ds ((ix + 29) % 30)).2.1 4))), (aa ((ix + 29) % 30) 6, .inl (y 1, 5, .inr (.inl ((ds ((ix + 29) % 30)).2.2 1))))] : va_W) ++ FG (KF y hh aa ds) ((List.range 30).erase ((ix + 29) % 30)))) (fg_out (F := KF y hh aa ds) (X := [(ps, .inr (3, [.int (cn - 1), .int (nI ((ix + 29) % 30)), .ref kp])), (kp, .inl (y 4, 30, .inr (.inr (.inr (.inr (fun j => some (hh j))))))), (h, .inr (7, [.int sd, .int sw, .int sl, .ref (sa 0), .ref (sa 1), .ref (sa 2), .ref (sa 3), .ref (sa 4), .ref (sa 5), .ref (sa 6)])), (sa 0, .inl (y 0, 9, .inl f0)), (sa 1, .inl (y 0, 9, .inl f1)), (sa 2, .inl (y 1, 9, .inr (.inl f2))), (sa 3, .inl (y 0, 6, .inl f3)), (sa 4, .inl (y 0, 6, .inl f4)), (sa 5, .inl (y 0, 16, .inl f5)), (sa 6, .inl (y 1, 5, .inr (.inl f6)))]) (i := (ix + 29) % 30) (rm30 (Nat.mod_lt _ (by decide)))) ?_
    refine j_callVvT (pc := 45) C (c_take l D y h sa sd sw sl f0 f1 f2 f3 f4 f5 f6 (hh ((ix + 29) % 30)) (aa ((ix + 29) % 30)) ((ds ((ix + 29) % 30)).1 0) ((ds ((ix + 29) % 30)).1 1) ((ds ((ix + 29) % 30)).1 2) ((ds ((ix + 29) % 30)).2.1 0) ((ds ((ix + 29) % 30)).2.1 1) ((ds ((ix + 29) % 30)).2.2 0) ((ds ((ix + 29) % 30)).2.1 2) ((ds ((ix + 29) % 30)).2.1 3) ((ds ((ix + 29) % 30)).2.1 4) ((ds ((ix + 29) % 30)).2.2 1)) kw_Past_22 kv_State_take 0 7 rfl rfl ⟨by decide, by decide⟩ ⟨by decide, by decide⟩ (wr := [(ps, .inr (3, [.int (cn - 1), .int (nI ((ix + 29) % 30)), .ref kp])), (kp, .inl (y 4, 30, .inr (.inr (.inr (.inr (fun j => some (hh j)))))))]) [2, 3, 4, 5, 6, 7, 8, 9, 10, 11, 12, 13, 14, 15, 16, 17] [0, 1] rfl rfl (by decide) (by decide) (by decide) (As := [.ref (hh ((ix + 29) % 30))]) (rest := []) rfl (nb rfl) rfl d_Past_bringBack_45 (fun u2 _ => ?_)
    refine j_ws (ws' := (([(ps, .inr (3, [.int (cn - 1), .int (nI ((ix + 29) % 30)), .ref kp])), (kp, .inl (y 4, 30, .inr (.inr (.inr (.inr (fun j => some (hh j))))))), (h, .inr (7, [.int (u2.1 0), .int (u2.1 1), .int (u2.1 2), .ref (sa 0), .ref (sa 1), .ref (sa 2), .ref (sa 3), .ref (sa 4), .ref (sa 5), .ref (sa 6)])), (sa 0, .inl (y 0, 9, .inl (u2.2.1 0))), (sa 1, .inl (y 0, 9, .inl (u2.2.1 1))), (sa 2, .inl (y 1, 9, .inr (.inl (u2.2.2 0)))), (sa 3, .inl (y 0, 6, .inl (u2.2.1 2))), (sa 4, .inl (y 0, 6, .inl (u2.2.1 3))), (sa 5, .inl (y 0, 16, .inl (u2.2.1 4))), (sa 6, .inl (y 1, 5, .inr (.inl (u2.2.2 1)))), (hh ((ix + 29) % 30), .inr (7, [.int ((ds ((ix + 29) % 30)).1 0), .int ((ds ((ix + 29) % 30)).1 1), .int ((ds ((ix + 29) % 30)).1 2), .ref (aa ((ix + 29) % 30) 0), .ref (aa ((ix + 29) % 30) 1), .ref (aa ((ix + 29) % 30) 2), .ref (aa ((ix + 29) % 30) 3), .ref (aa ((ix + 29) % 30) 4), .ref (aa ((ix + 29) % 30) 5), .ref (aa ((ix + 29) % 30) 6)])), (aa ((ix + 29) % 30) 0, .inl (y 0, 9, .inl ((ds ((ix + 29) % 30)).2.1 0))), (aa ((ix + 29) % 30) 1, .inl (y 0, 9, .inl ((ds ((ix + 29) % 30)).2.1 1))), (aa ((ix + 29) % 30) 2, .inl (y 1, 9, .inr (.inl ((ds ((ix + 29) % 30)).2.2 0)))), (aa ((ix + 29) % 30) 3, .inl (y 0, 6, .inl ((ds ((ix + 29) % 30)).2.1 2))), (aa ((ix + 29) % 30) 4, .inl (y 0, 6, .inl ((ds ((ix + 29) % 30)).2.1 3))), (aa ((ix + 29) % 30) 5, .inl (y 0, 16, .inl ((ds ((ix + 29) % 30)).2.1 4))), (aa ((ix + 29) % 30) 6, .inl (y 1, 5, .inr (.inl ((ds ((ix + 29) % 30)).2.2 1))))] : va_W) ++ FG (KF y hh aa ds) ((List.range 30).erase ((ix + 29) % 30)))) rfl ?_
    refine j_perm (ws' := (([(ps, .inr (3, [.int (cn - 1), .int (nI ((ix + 29) % 30)), .ref kp])), (kp, .inl (y 4, 30, .inr (.inr (.inr (.inr (fun j => some (hh j))))))), (h, .inr (7, [.int (u2.1 0), .int (u2.1 1), .int (u2.1 2), .ref (sa 0), .ref (sa 1), .ref (sa 2), .ref (sa 3), .ref (sa 4), .ref (sa 5), .ref (sa 6)])), (sa 0, .inl (y 0, 9, .inl (u2.2.1 0))), (sa 1, .inl (y 0, 9, .inl (u2.2.1 1))), (sa 2, .inl (y 1, 9, .inr (.inl (u2.2.2 0)))), (sa 3, .inl (y 0, 6, .inl (u2.2.1 2))), (sa 4, .inl (y 0, 6, .inl (u2.2.1 3))), (sa 5, .inl (y 0, 16, .inl (u2.2.1 4))), (sa 6, .inl (y 1, 5, .inr (.inl (u2.2.2 1))))] : va_W) ++ FG (KF y hh aa (va_up ds ((ix + 29) % 30) (fun k => [(ds ((ix + 29) % 30)).1 0, (ds ((ix + 29) % 30)).1 1, (ds ((ix + 29) % 30)).1 2].getD k 0, fun k => [((ds ((ix + 29) % 30)).2.1 0), ((ds ((ix + 29) % 30)).2.1 1), ((ds ((ix + 29) % 30)).2.1 2), ((ds ((ix + 29) % 30)).2.1 3), ((ds ((ix + 29) % 30)).2.1 4)].getD k (fun _ => 0), fun k => [((ds ((ix + 29) % 30)).2.2 0), ((ds ((ix + 29) % 30)).2.2 1)].getD k (fun _ => 0)))) (List.range 30))) (kf_in (X := [(ps, .inr (3, [.int (cn - 1), .int (nI ((ix + 29) % 30)), .ref kp])), (kp, .inl (y 4, 30, .inr (.inr (.inr (.inr (fun j => some (hh j))))))), (h, .inr (7, [.int (u2.1 0), .int (u2.1 1), .int (u2.1 2), .ref (sa 0), .ref (sa 1), .ref (sa 2), .ref (sa 3), .ref (sa 4), .ref (sa 5), .ref (sa 6)])), (sa 0, .inl (y 0, 9, .inl (u2.2.1 0))), (sa 1, .inl (y 0, 9, .inl (u2.2.1 1))), (sa 2, .inl (y 1, 9, .inr (.inl (u2.2.2 0)))), (sa 3, .inl (y 0, 6, .inl (u2.2.1 2))), (sa 4, .inl (y 0, 6, .inl (u2.2.1 3))), (sa 5, .inl (y 0, 16, .inl (u2.2.1 4))), (sa 6, .inl (y 1, 5, .inr (.inl (u2.2.2 1))))]) (i := (ix + 29) % 30) (b := (fun k => [(ds ((ix + 29) % 30)).1 0, (ds ((ix + 29) % 30)).1 1, (ds ((ix + 29) % 30)).1 2].getD k 0, fun k => [((ds ((ix + 29) % 30)).2.1 0), ((ds ((ix + 29) % 30)).2.1 1), ((ds ((ix + 29) % 30)).2.1 2), ((ds ((ix + 29) % 30)).2.1 3), ((ds ((ix + 29) % 30)).2.1 4)].getD k (fun _ => 0), fun k => [((ds ((ix + 29) % 30)).2.2 0), ((ds ((ix + 29) % 30)).2.2 1)].getD k (fun _ => 0))) (rm30 (Nat.mod_lt _ (by decide))) rn30) ?_
    refine j_iconst (pc := 48) C (v := 1) d_Past_bringBack_48 (by decide) ?_
    exact j_iretW (pc := 49) C hr (by decide) (cn - 1, (ix + 29) % 30, (fun k => [u2.1 0, u2.1 1, u2.1 2].getD k 0, fun k => [(u2.2.1 0), (u2.2.1 1), (u2.2.1 2), (u2.2.1 3), (u2.2.1 4)].getD k (fun _ => 0), fun k => [(u2.2.2 0), (u2.2.2 1)].getD k (fun _ => 0)), (va_up ds ((ix + 29) % 30) (fun k => [(ds ((ix + 29) % 30)).1 0, (ds ((ix + 29) % 30)).1 1, (ds ((ix + 29) % 30)).1 2].getD k 0, fun k => [((ds ((ix + 29) % 30)).2.1 0), ((ds ((ix + 29) % 30)).2.1 1), ((ds ((ix + 29) % 30)).2.1 2), ((ds ((ix + 29) % 30)).2.1 3), ((ds ((ix + 29) % 30)).2.1 4)].getD k (fun _ => 0), fun k => [((ds ((ix + 29) % 30)).2.2 0), ((ds ((ix + 29) % 30)).2.2 1)].getD k (fun _ => 0)))) ⟨by decide, Nat.mod_lt _ (by decide)⟩ rfl (by decide) (by decide) d_Past_bringBack_49
  · refine j_iconst (pc := 7) C (v := 0) d_Past_bringBack_7 (by decide) ?_
    exact j_iretW (pc := 8) C hr (by decide) (cn, ix, (fun k => [sd, sw, sl].getD k 0, fun k => [f0, f1, f3, f4, f5].getD k (fun _ => 0), fun k => [f2, f6].getD k (fun _ => 0)), ds) ⟨by decide, hi⟩ rfl (by decide) (by decide) d_Past_bringBack_8
end
