section
-- ===== PART A: goes FIRST, ahead of the names: the tables' words, and 'selects' of the private methods out of them =====
/-- a private method of a class that the tables say can be made, by its rows of tables_1 -/
def lw_okq (q : MethodName × Nat) : Prop := (q.1.cls ≠ "java/lang/invoke/MethodHandle" ∧ q.1.cls ≠ "java/lang/invoke/VarHandle") ∧ Cond.instantiable q.1.cls q.2 ∈ tables_1 ∧ Cond.privateMethod q.1 ∈ tables_1 ∧ Cond.instanceMethod q.1 ∈ tables_1
theorem lw_p0 : lw_okq (⟨"OwnMemory", "slideTogether", "()V"⟩, 10) := ⟨⟨by decide +kernel, by decide +kernel⟩, List.mem_of_getElem? (i := 20) (by decide +kernel), List.mem_of_getElem? (i := 74) (by decide +kernel), List.mem_of_getElem? (i := 75) (by decide +kernel)⟩
theorem lw_p1 : lw_okq (⟨"OwnMemory", "touchRoots", "(Z)V"⟩, 10) := ⟨⟨by decide +kernel, by decide +kernel⟩, List.mem_of_getElem? (i := 20) (by decide +kernel), List.mem_of_getElem? (i := 78) (by decide +kernel), List.mem_of_getElem? (i := 79) (by decide +kernel)⟩
theorem lw_p2 : lw_okq (⟨"OwnMemory", "touch", "(IZ)I"⟩, 10) := ⟨⟨by decide +kernel, by decide +kernel⟩, List.mem_of_getElem? (i := 20) (by decide +kernel), List.mem_of_getElem? (i := 82) (by decide +kernel), List.mem_of_getElem? (i := 83) (by decide +kernel)⟩
theorem lw_p3 : lw_okq (⟨"OwnMemory", "touchLeads", "(IZ)V"⟩, 10) := ⟨⟨by decide +kernel, by decide +kernel⟩, List.mem_of_getElem? (i := 20) (by decide +kernel), List.mem_of_getElem? (i := 86) (by decide +kernel), List.mem_of_getElem? (i := 87) (by decide +kernel)⟩
theorem lw_p4 : lw_okq (⟨"OwnMemory", "linksAt", "(I)I"⟩, 10) := ⟨⟨by decide +kernel, by decide +kernel⟩, List.mem_of_getElem? (i := 20) (by decide +kernel), List.mem_of_getElem? (i := 90) (by decide +kernel), List.mem_of_getElem? (i := 91) (by decide +kernel)⟩
theorem lw_p5 : lw_okq (⟨"OwnMemory", "valuesAt", "(I)I"⟩, 10) := ⟨⟨by decide +kernel, by decide +kernel⟩, List.mem_of_getElem? (i := 20) (by decide +kernel), List.mem_of_getElem? (i := 94) (by decide +kernel), List.mem_of_getElem? (i := 95) (by decide +kernel)⟩
theorem lw_p6 : lw_okq (⟨"OwnMemory", "planMoves", "()I"⟩, 10) := ⟨⟨by decide +kernel, by decide +kernel⟩, List.mem_of_getElem? (i := 20) (by decide +kernel), List.mem_of_getElem? (i := 102) (by decide +kernel), List.mem_of_getElem? (i := 103) (by decide +kernel)⟩
theorem lw_p7 : lw_okq (⟨"OwnMemory", "sizeAt", "(I)I"⟩, 10) := ⟨⟨by decide +kernel, by decide +kernel⟩, List.mem_of_getElem? (i := 20) (by decide +kernel), List.mem_of_getElem? (i := 106) (by decide +kernel), List.mem_of_getElem? (i := 107) (by decide +kernel)⟩
theorem lw_p8 : lw_okq (⟨"OwnMemory", "keepNames", "()V"⟩, 10) := ⟨⟨by decide +kernel, by decide +kernel⟩, List.mem_of_getElem? (i := 20) (by decide +kernel), List.mem_of_getElem? (i := 110) (by decide +kernel), List.mem_of_getElem? (i := 111) (by decide +kernel)⟩
theorem lw_p9 : lw_okq (⟨"OwnMemory", "moveAll", "()V"⟩, 10) := ⟨⟨by decide +kernel, by decide +kernel⟩, List.mem_of_getElem? (i := 20) (by decide +kernel), List.mem_of_getElem? (i := 114) (by decide +kernel), List.mem_of_getElem? (i := 115) (by decide +kernel)⟩
theorem lw_p10 : lw_okq (⟨"java/lang/Throwable", "fillInStackTrace", "(I)Ljava/lang/Throwable;"⟩, 6) := ⟨⟨by decide +kernel, by decide +kernel⟩, List.mem_of_getElem? (i := 173) (by decide +kernel), List.mem_of_getElem? (i := 171) (by decide +kernel), List.mem_of_getElem? (i := 172) (by decide +kernel)⟩
theorem lw_p11 : lw_okq (⟨"OwnMemory", "make", "(IIII)I"⟩, 10) := ⟨⟨by decide +kernel, by decide +kernel⟩, List.mem_of_getElem? (i := 20) (by decide +kernel), List.mem_of_getElem? (i := 207) (by decide +kernel), List.mem_of_getElem? (i := 208) (by decide +kernel)⟩
theorem lw_p12 : lw_okq (⟨"OwnMemory", "isStressed", "()Z"⟩, 10) := ⟨⟨by decide +kernel, by decide +kernel⟩, List.mem_of_getElem? (i := 20) (by decide +kernel), List.mem_of_getElem? (i := 211) (by decide +kernel), List.mem_of_getElem? (i := 212) (by decide +kernel)⟩
theorem lw_p13 : lw_okq (⟨"OwnMemory", "widen", "(I)V"⟩, 10) := ⟨⟨by decide +kernel, by decide +kernel⟩, List.mem_of_getElem? (i := 20) (by decide +kernel), List.mem_of_getElem? (i := 231) (by decide +kernel), List.mem_of_getElem? (i := 232) (by decide +kernel)⟩
theorem lw_p14 : lw_okq (⟨"OwnMemory", "kindAt", "(I)I"⟩, 10) := ⟨⟨by decide +kernel, by decide +kernel⟩, List.mem_of_getElem? (i := 20) (by decide +kernel), List.mem_of_getElem? (i := 509) (by decide +kernel), List.mem_of_getElem? (i := 510) (by decide +kernel)⟩
theorem lw_p15 : lw_okq (⟨"OwnMemory", "linkSlot", "(II)I"⟩, 10) := ⟨⟨by decide +kernel, by decide +kernel⟩, List.mem_of_getElem? (i := 20) (by decide +kernel), List.mem_of_getElem? (i := 527) (by decide +kernel), List.mem_of_getElem? (i := 528) (by decide +kernel)⟩
def lw_privs_1 : List (MethodName × Nat) := [(⟨"OwnMemory", "slideTogether", "()V"⟩, 10), (⟨"OwnMemory", "touchRoots", "(Z)V"⟩, 10), (⟨"OwnMemory", "touch", "(IZ)I"⟩, 10), (⟨"OwnMemory", "touchLeads", "(IZ)V"⟩, 10), (⟨"OwnMemory", "linksAt", "(I)I"⟩, 10), (⟨"OwnMemory", "valuesAt", "(I)I"⟩, 10), (⟨"OwnMemory", "planMoves", "()I"⟩, 10), (⟨"OwnMemory", "sizeAt", "(I)I"⟩, 10), (⟨"OwnMemory", "keepNames", "()V"⟩, 10), (⟨"OwnMemory", "moveAll", "()V"⟩, 10), (⟨"java/lang/Throwable", "fillInStackTrace", "(I)Ljava/lang/Throwable;"⟩, 6), (⟨"OwnMemory", "make", "(IIII)I"⟩, 10), (⟨"OwnMemory", "isStressed", "()Z"⟩, 10), (⟨"OwnMemory", "widen", "(I)V"⟩, 10), (⟨"OwnMemory", "kindAt", "(I)I"⟩, 10), (⟨"OwnMemory", "linkSlot", "(II)I"⟩, 10)]
theorem lw_r1 : ∀ q ∈ lw_privs_1, lw_okq q := List.forall_mem_cons.mpr ⟨lw_p0, List.forall_mem_cons.mpr ⟨lw_p1, List.forall_mem_cons.mpr ⟨lw_p2, List.forall_mem_cons.mpr ⟨lw_p3, List.forall_mem_cons.mpr ⟨lw_p4, List.forall_mem_cons.mpr ⟨lw_p5, List.forall_mem_cons.mpr ⟨lw_p6, List.forall_mem_cons.mpr ⟨lw_p7, List.forall_mem_cons.mpr ⟨lw_p8, List.forall_mem_cons.mpr ⟨lw_p9, List.forall_mem_cons.mpr ⟨lw_p10, List.forall_mem_cons.mpr ⟨lw_p11, List.forall_mem_cons.mpr ⟨lw_p12, List.forall_mem_cons.mpr ⟨lw_p13, List.forall_mem_cons.mpr ⟨lw_p14, List.forall_mem_cons.mpr ⟨lw_p15, fun _ h => absurd h List.not_mem_nil⟩⟩⟩⟩⟩⟩⟩⟩⟩⟩⟩⟩⟩⟩⟩⟩
theorem lw_p16 : lw_okq (⟨"OwnMemory", "needBlock", "(I)I"⟩, 10) := ⟨⟨by decide +kernel, by decide +kernel⟩, List.mem_of_getElem? (i := 20) (by decide +kernel), List.mem_of_getElem? (i := 531) (by decide +kernel), List.mem_of_getElem? (i := 532) (by decide +kernel)⟩
theorem lw_p17 : lw_okq (⟨"OwnMemory", "valueSlot", "(II)I"⟩, 10) := ⟨⟨by decide +kernel, by decide +kernel⟩, List.mem_of_getElem? (i := 20) (by decide +kernel), List.mem_of_getElem? (i := 551) (by decide +kernel), List.mem_of_getElem? (i := 552) (by decide +kernel)⟩
theorem lw_p18 : lw_okq (⟨"OwnMemory", "plainSlot", "(II)I"⟩, 10) := ⟨⟨by decide +kernel, by decide +kernel⟩, List.mem_of_getElem? (i := 20) (by decide +kernel), List.mem_of_getElem? (i := 589) (by decide +kernel), List.mem_of_getElem? (i := 590) (by decide +kernel)⟩
theorem lw_p19 : lw_okq (⟨"OwnMemory", "makeFlat", "(II)I"⟩, 10) := ⟨⟨by decide +kernel, by decide +kernel⟩, List.mem_of_getElem? (i := 20) (by decide +kernel), List.mem_of_getElem? (i := 609) (by decide +kernel), List.mem_of_getElem? (i := 610) (by decide +kernel)⟩
theorem lw_p20 : lw_okq (⟨"OwnMemory", "putLength", "(II)V"⟩, 10) := ⟨⟨by decide +kernel, by decide +kernel⟩, List.mem_of_getElem? (i := 20) (by decide +kernel), List.mem_of_getElem? (i := 613) (by decide +kernel), List.mem_of_getElem? (i := 614) (by decide +kernel)⟩
theorem lw_p21 : lw_okq (⟨"OwnMemory", "putUnit", "(III)V"⟩, 10) := ⟨⟨by decide +kernel, by decide +kernel⟩, List.mem_of_getElem? (i := 20) (by decide +kernel), List.mem_of_getElem? (i := 618) (by decide +kernel), List.mem_of_getElem? (i := 619) (by decide +kernel)⟩
theorem lw_p22 : lw_okq (⟨"OwnMemory", "needText", "(I)V"⟩, 10) := ⟨⟨by decide +kernel, by decide +kernel⟩, List.mem_of_getElem? (i := 20) (by decide +kernel), List.mem_of_getElem? (i := 629) (by decide +kernel), List.mem_of_getElem? (i := 630) (by decide +kernel)⟩
theorem lw_p23 : lw_okq (⟨"OwnMemory", "lengthIn", "(I)I"⟩, 10) := ⟨⟨by decide +kernel, by decide +kernel⟩, List.mem_of_getElem? (i := 20) (by decide +kernel), List.mem_of_getElem? (i := 634) (by decide +kernel), List.mem_of_getElem? (i := 635) (by decide +kernel)⟩
theorem lw_p24 : lw_okq (⟨"OwnMemory", "lengthAt", "(I)I"⟩, 10) := ⟨⟨by decide +kernel, by decide +kernel⟩, List.mem_of_getElem? (i := 20) (by decide +kernel), List.mem_of_getElem? (i := 638) (by decide +kernel), List.mem_of_getElem? (i := 639) (by decide +kernel)⟩
theorem lw_p25 : lw_okq (⟨"OwnMemory", "makeFlatOfTwo", "(II)I"⟩, 10) := ⟨⟨by decide +kernel, by decide +kernel⟩, List.mem_of_getElem? (i := 20) (by decide +kernel), List.mem_of_getElem? (i := 643) (by decide +kernel), List.mem_of_getElem? (i := 644) (by decide +kernel)⟩
theorem lw_p26 : lw_okq (⟨"OwnMemory", "copyUnits", "(IIIII)V"⟩, 10) := ⟨⟨by decide +kernel, by decide +kernel⟩, List.mem_of_getElem? (i := 20) (by decide +kernel), List.mem_of_getElem? (i := 647) (by decide +kernel), List.mem_of_getElem? (i := 648) (by decide +kernel)⟩
theorem lw_p27 : lw_okq (⟨"OwnMemory", "unitAt", "(II)I"⟩, 10) := ⟨⟨by decide +kernel, by decide +kernel⟩, List.mem_of_getElem? (i := 20) (by decide +kernel), List.mem_of_getElem? (i := 651) (by decide +kernel), List.mem_of_getElem? (i := 652) (by decide +kernel)⟩
theorem lw_p28 : lw_okq (⟨"OwnMemory", "makeJoined", "(II)I"⟩, 10) := ⟨⟨by decide +kernel, by decide +kernel⟩, List.mem_of_getElem? (i := 20) (by decide +kernel), List.mem_of_getElem? (i := 655) (by decide +kernel), List.mem_of_getElem? (i := 656) (by decide +kernel)⟩
theorem lw_p29 : lw_okq (⟨"OwnMemory", "goOver", "(I)V"⟩, 10) := ⟨⟨by decide +kernel, by decide +kernel⟩, List.mem_of_getElem? (i := 20) (by decide +kernel), List.mem_of_getElem? (i := 667) (by decide +kernel), List.mem_of_getElem? (i := 668) (by decide +kernel)⟩
theorem lw_p30 : lw_okq (⟨"OwnMemory", "copyAllUnits", "(II)V"⟩, 10) := ⟨⟨by decide +kernel, by decide +kernel⟩, List.mem_of_getElem? (i := 20) (by decide +kernel), List.mem_of_getElem? (i := 671) (by decide +kernel), List.mem_of_getElem? (i := 672) (by decide +kernel)⟩
theorem lw_p31 : lw_okq (⟨"OwnMemory", "flatOf", "(I)I"⟩, 10) := ⟨⟨by decide +kernel, by decide +kernel⟩, List.mem_of_getElem? (i := 20) (by decide +kernel), List.mem_of_getElem? (i := 675) (by decide +kernel), List.mem_of_getElem? (i := 676) (by decide +kernel)⟩
def lw_privs_2 : List (MethodName × Nat) := [(⟨"OwnMemory", "needBlock", "(I)I"⟩, 10), (⟨"OwnMemory", "valueSlot", "(II)I"⟩, 10), (⟨"OwnMemory", "plainSlot", "(II)I"⟩, 10), (⟨"OwnMemory", "makeFlat", "(II)I"⟩, 10), (⟨"OwnMemory", "putLength", "(II)V"⟩, 10), (⟨"OwnMemory", "putUnit", "(III)V"⟩, 10), (⟨"OwnMemory", "needText", "(I)V"⟩, 10), (⟨"OwnMemory", "lengthIn", "(I)I"⟩, 10), (⟨"OwnMemory", "lengthAt", "(I)I"⟩, 10), (⟨"OwnMemory", "makeFlatOfTwo", "(II)I"⟩, 10), (⟨"OwnMemory", "copyUnits", "(IIIII)V"⟩, 10), (⟨"OwnMemory", "unitAt", "(II)I"⟩, 10), (⟨"OwnMemory", "makeJoined", "(II)I"⟩, 10), (⟨"OwnMemory", "goOver", "(I)V"⟩, 10), (⟨"OwnMemory", "copyAllUnits", "(II)V"⟩, 10), (⟨"OwnMemory", "flatOf", "(I)I"⟩, 10)]
theorem lw_r2 : ∀ q ∈ lw_privs_2, lw_okq q := List.forall_mem_cons.mpr ⟨lw_p16, List.forall_mem_cons.mpr ⟨lw_p17, List.forall_mem_cons.mpr ⟨lw_p18, List.forall_mem_cons.mpr ⟨lw_p19, List.forall_mem_cons.mpr ⟨lw_p20, List.forall_mem_cons.mpr ⟨lw_p21, List.forall_mem_cons.mpr ⟨lw_p22, List.forall_mem_cons.mpr ⟨lw_p23, List.forall_mem_cons.mpr ⟨lw_p24, List.forall_mem_cons.mpr ⟨lw_p25, List.forall_mem_cons.mpr ⟨lw_p26, List.forall_mem_cons.mpr ⟨lw_p27, List.forall_mem_cons.mpr ⟨lw_p28, List.forall_mem_cons.mpr ⟨lw_p29, List.forall_mem_cons.mpr ⟨lw_p30, List.forall_mem_cons.mpr ⟨lw_p31, fun _ h => absurd h List.not_mem_nil⟩⟩⟩⟩⟩⟩⟩⟩⟩⟩⟩⟩⟩⟩⟩⟩
theorem lw_p32 : lw_okq (⟨"OwnMemory", "findName", "(I)I"⟩, 10) := ⟨⟨by decide +kernel, by decide +kernel⟩, List.mem_of_getElem? (i := 20) (by decide +kernel), List.mem_of_getElem? (i := 711) (by decide +kernel), List.mem_of_getElem? (i := 712) (by decide +kernel)⟩
theorem lw_p33 : lw_okq (⟨"OwnMemory", "hasSameUnits", "(II)Z"⟩, 10) := ⟨⟨by decide +kernel, by decide +kernel⟩, List.mem_of_getElem? (i := 20) (by decide +kernel), List.mem_of_getElem? (i := 715) (by decide +kernel), List.mem_of_getElem? (i := 716) (by decide +kernel)⟩
theorem lw_p34 : lw_okq (⟨"OwnMemory", "makeName", "(I)I"⟩, 10) := ⟨⟨by decide +kernel, by decide +kernel⟩, List.mem_of_getElem? (i := 20) (by decide +kernel), List.mem_of_getElem? (i := 719) (by decide +kernel), List.mem_of_getElem? (i := 720) (by decide +kernel)⟩
theorem lw_p35 : lw_okq (⟨"OwnMemoryModel", "taken", "()I"⟩, 21) := ⟨⟨by decide +kernel, by decide +kernel⟩, List.mem_of_getElem? (i := 731) (by decide +kernel), List.mem_of_getElem? (i := 814) (by decide +kernel), List.mem_of_getElem? (i := 815) (by decide +kernel)⟩
theorem lw_p36 : lw_okq (⟨"OwnMemoryModel", "look", "()V"⟩, 21) := ⟨⟨by decide +kernel, by decide +kernel⟩, List.mem_of_getElem? (i := 731) (by decide +kernel), List.mem_of_getElem? (i := 818) (by decide +kernel), List.mem_of_getElem? (i := 819) (by decide +kernel)⟩
theorem lw_p37 : lw_okq (⟨"OwnMemoryModel", "come", "(I)V"⟩, 21) := ⟨⟨by decide +kernel, by decide +kernel⟩, List.mem_of_getElem? (i := 731) (by decide +kernel), List.mem_of_getElem? (i := 822) (by decide +kernel), List.mem_of_getElem? (i := 823) (by decide +kernel)⟩
theorem lw_p38 : lw_okq (⟨"OwnMemoryModel", "words", "(I)I"⟩, 21) := ⟨⟨by decide +kernel, by decide +kernel⟩, List.mem_of_getElem? (i := 731) (by decide +kernel), List.mem_of_getElem? (i := 826) (by decide +kernel), List.mem_of_getElem? (i := 827) (by decide +kernel)⟩
theorem lw_p39 : lw_okq (⟨"OwnMemoryModel", "says", "(Z)Z"⟩, 21) := ⟨⟨by decide +kernel, by decide +kernel⟩, List.mem_of_getElem? (i := 731) (by decide +kernel), List.mem_of_getElem? (i := 844) (by decide +kernel), List.mem_of_getElem? (i := 845) (by decide +kernel)⟩
theorem lw_p40 : lw_okq (⟨"OwnMemoryModel", "make", "(III)I"⟩, 21) := ⟨⟨by decide +kernel, by decide +kernel⟩, List.mem_of_getElem? (i := 731) (by decide +kernel), List.mem_of_getElem? (i := 848) (by decide +kernel), List.mem_of_getElem? (i := 849) (by decide +kernel)⟩
theorem lw_p41 : lw_okq (⟨"OwnMemoryModel", "hasLink", "(II)Z"⟩, 21) := ⟨⟨by decide +kernel, by decide +kernel⟩, List.mem_of_getElem? (i := 731) (by decide +kernel), List.mem_of_getElem? (i := 872) (by decide +kernel), List.mem_of_getElem? (i := 873) (by decide +kernel)⟩
theorem lw_p42 : lw_okq (⟨"OwnMemoryModel", "isBlock", "(I)Z"⟩, 21) := ⟨⟨by decide +kernel, by decide +kernel⟩, List.mem_of_getElem? (i := 731) (by decide +kernel), List.mem_of_getElem? (i := 876) (by decide +kernel), List.mem_of_getElem? (i := 877) (by decide +kernel)⟩
theorem lw_p43 : lw_okq (⟨"OwnMemoryModel", "hasValue", "(II)Z"⟩, 21) := ⟨⟨by decide +kernel, by decide +kernel⟩, List.mem_of_getElem? (i := 731) (by decide +kernel), List.mem_of_getElem? (i := 888) (by decide +kernel), List.mem_of_getElem? (i := 889) (by decide +kernel)⟩
theorem lw_p44 : lw_okq (⟨"OwnMemoryModel", "hasWord", "(II)Z"⟩, 21) := ⟨⟨by decide +kernel, by decide +kernel⟩, List.mem_of_getElem? (i := 731) (by decide +kernel), List.mem_of_getElem? (i := 909) (by decide +kernel), List.mem_of_getElem? (i := 910) (by decide +kernel)⟩
theorem lw_p45 : lw_okq (⟨"OwnMemoryModel", "full", "(I)I"⟩, 21) := ⟨⟨by decide +kernel, by decide +kernel⟩, List.mem_of_getElem? (i := 731) (by decide +kernel), List.mem_of_getElem? (i := 921) (by decide +kernel), List.mem_of_getElem? (i := 922) (by decide +kernel)⟩
theorem lw_p46 : lw_okq (⟨"OwnMemoryModel", "isText", "(I)Z"⟩, 21) := ⟨⟨by decide +kernel, by decide +kernel⟩, List.mem_of_getElem? (i := 731) (by decide +kernel), List.mem_of_getElem? (i := 929) (by decide +kernel), List.mem_of_getElem? (i := 930) (by decide +kernel)⟩
theorem lw_p47 : lw_okq (⟨"OwnMemoryModel", "partOf", "(IIII)I"⟩, 21) := ⟨⟨by decide +kernel, by decide +kernel⟩, List.mem_of_getElem? (i := 731) (by decide +kernel), List.mem_of_getElem? (i := 937) (by decide +kernel), List.mem_of_getElem? (i := 938) (by decide +kernel)⟩
def lw_privs_3 : List (MethodName × Nat) := [(⟨"OwnMemory", "findName", "(I)I"⟩, 10), (⟨"OwnMemory", "hasSameUnits", "(II)Z"⟩, 10), (⟨"OwnMemory", "makeName", "(I)I"⟩, 10), (⟨"OwnMemoryModel", "taken", "()I"⟩, 21), (⟨"OwnMemoryModel", "look", "()V"⟩, 21), (⟨"OwnMemoryModel", "come", "(I)V"⟩, 21), (⟨"OwnMemoryModel", "words", "(I)I"⟩, 21), (⟨"OwnMemoryModel", "says", "(Z)Z"⟩, 21), (⟨"OwnMemoryModel", "make", "(III)I"⟩, 21), (⟨"OwnMemoryModel", "hasLink", "(II)Z"⟩, 21), (⟨"OwnMemoryModel", "isBlock", "(I)Z"⟩, 21), (⟨"OwnMemoryModel", "hasValue", "(II)Z"⟩, 21), (⟨"OwnMemoryModel", "hasWord", "(II)Z"⟩, 21), (⟨"OwnMemoryModel", "full", "(I)I"⟩, 21), (⟨"OwnMemoryModel", "isText", "(I)Z"⟩, 21), (⟨"OwnMemoryModel", "partOf", "(IIII)I"⟩, 21)]
theorem lw_r3 : ∀ q ∈ lw_privs_3, lw_okq q := List.forall_mem_cons.mpr ⟨lw_p32, List.forall_mem_cons.mpr ⟨lw_p33, List.forall_mem_cons.mpr ⟨lw_p34, List.forall_mem_cons.mpr ⟨lw_p35, List.forall_mem_cons.mpr ⟨lw_p36, List.forall_mem_cons.mpr ⟨lw_p37, List.forall_mem_cons.mpr ⟨lw_p38, List.forall_mem_cons.mpr ⟨lw_p39, List.forall_mem_cons.mpr ⟨lw_p40, List.forall_mem_cons.mpr ⟨lw_p41, List.forall_mem_cons.mpr ⟨lw_p42, List.forall_mem_cons.mpr ⟨lw_p43, List.forall_mem_cons.mpr ⟨lw_p44, List.forall_mem_cons.mpr ⟨lw_p45, List.forall_mem_cons.mpr ⟨lw_p46, List.forall_mem_cons.mpr ⟨lw_p47, fun _ h => absurd h List.not_mem_nil⟩⟩⟩⟩⟩⟩⟩⟩⟩⟩⟩⟩⟩⟩⟩⟩
theorem lw_p48 : lw_okq (⟨"OwnMemoryModel", "goOver", "(I)Z"⟩, 21) := ⟨⟨by decide +kernel, by decide +kernel⟩, List.mem_of_getElem? (i := 731) (by decide +kernel), List.mem_of_getElem? (i := 941) (by decide +kernel), List.mem_of_getElem? (i := 942) (by decide +kernel)⟩
theorem lw_p49 : lw_okq (⟨"OwnMemoryModel", "unitOf", "(II)I"⟩, 21) := ⟨⟨by decide +kernel, by decide +kernel⟩, List.mem_of_getElem? (i := 731) (by decide +kernel), List.mem_of_getElem? (i := 953) (by decide +kernel), List.mem_of_getElem? (i := 954) (by decide +kernel)⟩
theorem lw_p50 : lw_okq (⟨"OwnMemoryModel", "order", "(II)I"⟩, 21) := ⟨⟨by decide +kernel, by decide +kernel⟩, List.mem_of_getElem? (i := 731) (by decide +kernel), List.mem_of_getElem? (i := 962) (by decide +kernel), List.mem_of_getElem? (i := 963) (by decide +kernel)⟩
theorem lw_p51 : lw_okq (⟨"OwnMemoryModel", "find", "(I)I"⟩, 21) := ⟨⟨by decide +kernel, by decide +kernel⟩, List.mem_of_getElem? (i := 731) (by decide +kernel), List.mem_of_getElem? (i := 970) (by decide +kernel), List.mem_of_getElem? (i := 971) (by decide +kernel)⟩
def lw_privs_4 : List (MethodName × Nat) := [(⟨"OwnMemoryModel", "goOver", "(I)Z"⟩, 21), (⟨"OwnMemoryModel", "unitOf", "(II)I"⟩, 21), (⟨"OwnMemoryModel", "order", "(II)I"⟩, 21), (⟨"OwnMemoryModel", "find", "(I)I"⟩, 21)]
theorem lw_r4 : ∀ q ∈ lw_privs_4, lw_okq q := List.forall_mem_cons.mpr ⟨lw_p48, List.forall_mem_cons.mpr ⟨lw_p49, List.forall_mem_cons.mpr ⟨lw_p50, List.forall_mem_cons.mpr ⟨lw_p51, fun _ h => absurd h List.not_mem_nil⟩⟩⟩⟩
def lw_privs : List (MethodName × Nat) := lw_privs_1 ++ (lw_privs_2 ++ (lw_privs_3 ++ (lw_privs_4)))
def lw_tbl : List Cond := k2_sels lw_privs ++ tables_1
theorem lw_privs_ok : ∀ q ∈ lw_privs, lw_okq q := by
  show ∀ q ∈ lw_privs_1 ++ (lw_privs_2 ++ (lw_privs_3 ++ (lw_privs_4))), lw_okq q
  exact List.forall_mem_append.mpr ⟨lw_r1, List.forall_mem_append.mpr ⟨lw_r2, List.forall_mem_append.mpr ⟨lw_r3, lw_r4⟩⟩⟩
end
section
/-! ===== BEGIN words of one list among another's, by their places ===== -/
theorem goodIn_r {big : List Cond} (ws : List Cond) (ps : List Nat) (hp : ws = ps.filterMap (fun i => big[i]?)) (h : ws.all goodWord = true) : GoodIn big ws := by
  intro w hw
  have h1 := List.all_eq_true.mp h w hw
  rw [hp] at hw
  obtain ⟨i, -, hi⟩ := List.mem_filterMap.mp hw
  have hm : w ∈ big := by first | exact List.mem_of_getElem? hi | exact List.getElem?_mem hi
  exact ⟨hm, good_of_word h1⟩
theorem goodIn_app {big a b : List Cond} (ha : GoodIn big a) (hb : GoodIn big b) : GoodIn big (a ++ b) := fun w h => (List.mem_append.mp h).elim (ha w) (hb w)
theorem goodIn_ca {big a b : List Cond} {c : Cond} (ha : GoodIn big (c :: a)) (hb : GoodIn big b) : GoodIn big (c :: (a ++ b)) := fun w h => (List.mem_cons.mp h).elim (fun e => ha w (List.mem_cons.mpr (Or.inl e))) (fun h => (List.mem_append.mp h).elim (fun h => ha w (List.mem_cons.mpr (Or.inr h))) (hb w))
theorem goodIn_sub {big ws : List Cond} (hm : ∀ w ∈ ws, w ∈ big) (h : ws.all goodWord = true) : GoodIn big ws := fun w hw => ⟨hm w hw, good_of_word (List.all_eq_true.mp h w hw)⟩
/-! ===== END ===== -/
end
section
/-! ===== BEGIN printed: names, fields, word lists, decode rows ===== -/
def RX0 : String := "OwnMemory"
def TX0 : u_T := fun k => match k with
  | 0 => ("OwnMemory", "limit", "I", true)
  | 1 => ("OwnMemory", "words", "[I", false)
  | 2 => ("OwnMemory", "used", "I", false)
  | 3 => ("OwnMemory", "roots", "[I", true)
  | 4 => ("OwnMemory", "names", "[I", false)
  | 5 => ("OwnMemory", "nameCount", "I", false)
  | 6 => ("OwnMemory", "pending", "[I", true)
  | 7 => ("OwnMemory", "waiting", "I", false)
  | 8 => ("OwnMemory", "stressEvery", "I", false)
  | _ => ("OwnMemory", "made", "I", false)
def tyX0 : Nat → FieldType := fun k => match k with
  | 0 => .int
  | 1 => .array .int
  | 2 => .int
  | 3 => .array .int
  | 4 => .array .int
  | 5 => .int
  | 6 => .array .int
  | 7 => .int
  | 8 => .int
  | _ => .int
abbrev wsX00 : List Cond := u_ws RX0 TX0 10
theorem nmX0 : ∀ a, a < 10 → ∀ b, b < 10 → a ≠ b → (TX0 a).2.1 ≠ (TX0 b).2.1 := by decide +kernel
theorem tyX0_ok : ∀ k, k < 10 → parseFieldDescriptor (TX0 k).2.2.1 = some (tyX0 k) := by decide +kernel
abbrev cX0_init : ByteArray := prog_1_method_1_code
def yX0_init : MethodName := ⟨RX0, "<init>", "(I)V"⟩
abbrev cX0_take : ByteArray := prog_1_method_2_code
def yX0_take : MethodName := ⟨RX0, "take", "(IIII)V"⟩
abbrev cX0_copy : ByteArray := prog_1_method_3_code
def yX0_copy : MethodName := ⟨RX0, "copy", "(II)V"⟩
abbrev cX0_drop : ByteArray := prog_1_method_4_code
def yX0_drop : MethodName := ⟨RX0, "drop", "(I)V"⟩
abbrev cX0_kind : ByteArray := prog_1_method_5_code
def yX0_kind : MethodName := ⟨RX0, "kind", "(I)I"⟩
abbrev cX0_same : ByteArray := prog_1_method_6_code
def yX0_same : MethodName := ⟨RX0, "same", "(II)Z"⟩
abbrev cX0_tie : ByteArray := prog_1_method_7_code
def yX0_tie : MethodName := ⟨RX0, "tie", "(III)V"⟩
abbrev cX0_lead : ByteArray := prog_1_method_8_code
def yX0_lead : MethodName := ⟨RX0, "lead", "(III)V"⟩
abbrev cX0_number : ByteArray := prog_1_method_9_code
def yX0_number : MethodName := ⟨RX0, "number", "(IIJ)V"⟩
abbrev cX0_refer : ByteArray := prog_1_method_10_code
def yX0_refer : MethodName := ⟨RX0, "refer", "(III)V"⟩
abbrev cX0_bits : ByteArray := prog_1_method_11_code
def yX0_bits : MethodName := ⟨RX0, "bits", "(II)J"⟩
abbrev cX0_follow : ByteArray := prog_1_method_12_code
def yX0_follow : MethodName := ⟨RX0, "follow", "(III)Z"⟩
abbrev cX0_set : ByteArray := prog_1_method_13_code
def yX0_set : MethodName := ⟨RX0, "set", "(III)V"⟩
abbrev cX0_get : ByteArray := prog_1_method_14_code
def yX0_get : MethodName := ⟨RX0, "get", "(II)I"⟩
abbrev cX0_text : ByteArray := prog_1_method_15_code
def yX0_text : MethodName := ⟨RX0, "text", "(IJI)V"⟩
abbrev cX0_join : ByteArray := prog_1_method_16_code
def yX0_join : MethodName := ⟨RX0, "join", "(III)V"⟩
abbrev cX0_part : ByteArray := prog_1_method_17_code
def yX0_part : MethodName := ⟨RX0, "part", "(IIII)V"⟩
abbrev cX0_length : ByteArray := prog_1_method_18_code
def yX0_length : MethodName := ⟨RX0, "length", "(I)I"⟩
abbrev cX0_unit : ByteArray := prog_1_method_19_code
def yX0_unit : MethodName := ⟨RX0, "unit", "(II)I"⟩
abbrev cX0_compare : ByteArray := prog_1_method_20_code
def yX0_compare : MethodName := ⟨RX0, "compare", "(II)I"⟩
abbrev cX0_name : ByteArray := prog_1_method_21_code
def yX0_name : MethodName := ⟨RX0, "name", "(II)V"⟩
abbrev cX0_collect : ByteArray := prog_1_method_22_code
def yX0_collect : MethodName := ⟨RX0, "collect", "()I"⟩
abbrev cX0_stress : ByteArray := prog_1_method_23_code
def yX0_stress : MethodName := ⟨RX0, "stress", "(I)V"⟩
abbrev cX0_isUpTo : ByteArray := prog_1_method_24_code
def yX0_isUpTo : MethodName := ⟨RX0, "isUpTo", "(II)Z"⟩
abbrev cX0_needRoot : ByteArray := prog_1_method_25_code
def yX0_needRoot : MethodName := ⟨RX0, "needRoot", "(I)V"⟩
abbrev cX0_needText : ByteArray := prog_1_method_26_code
def yX0_needText : MethodName := ⟨RX0, "needText", "(I)V"⟩
abbrev cX0_needBlock : ByteArray := prog_1_method_27_code
def yX0_needBlock : MethodName := ⟨RX0, "needBlock", "(I)I"⟩
abbrev cX0_linkSlot : ByteArray := prog_1_method_28_code
def yX0_linkSlot : MethodName := ⟨RX0, "linkSlot", "(II)I"⟩
abbrev cX0_valueSlot : ByteArray := prog_1_method_29_code
def yX0_valueSlot : MethodName := ⟨RX0, "valueSlot", "(II)I"⟩
abbrev cX0_plainSlot : ByteArray := prog_1_method_30_code
def yX0_plainSlot : MethodName := ⟨RX0, "plainSlot", "(II)I"⟩
abbrev cX0_shapeOf : ByteArray := prog_1_method_31_code
def yX0_shapeOf : MethodName := ⟨RX0, "shapeOf", "(IIII)I"⟩
abbrev cX0_kindAt : ByteArray := prog_1_method_32_code
def yX0_kindAt : MethodName := ⟨RX0, "kindAt", "(I)I"⟩
abbrev cX0_linksAt : ByteArray := prog_1_method_33_code
def yX0_linksAt : MethodName := ⟨RX0, "linksAt", "(I)I"⟩
abbrev cX0_valuesAt : ByteArray := prog_1_method_34_code
def yX0_valuesAt : MethodName := ⟨RX0, "valuesAt", "(I)I"⟩
abbrev cX0_sizeAt : ByteArray := prog_1_method_35_code
def yX0_sizeAt : MethodName := ⟨RX0, "sizeAt", "(I)I"⟩
abbrev cX0_isReference : ByteArray := prog_1_method_36_code
def yX0_isReference : MethodName := ⟨RX0, "isReference", "(I)Z"⟩
abbrev cX0_lengthAt : ByteArray := prog_1_method_37_code
def yX0_lengthAt : MethodName := ⟨RX0, "lengthAt", "(I)I"⟩
abbrev cX0_putLength : ByteArray := prog_1_method_38_code
def yX0_putLength : MethodName := ⟨RX0, "putLength", "(II)V"⟩
abbrev cX0_lengthIn : ByteArray := prog_1_method_39_code
def yX0_lengthIn : MethodName := ⟨RX0, "lengthIn", "(I)I"⟩
abbrev cX0_flatOf : ByteArray := prog_1_method_40_code
def yX0_flatOf : MethodName := ⟨RX0, "flatOf", "(I)I"⟩
abbrev cX0_unitAt : ByteArray := prog_1_method_41_code
def yX0_unitAt : MethodName := ⟨RX0, "unitAt", "(II)I"⟩
abbrev cX0_putUnit : ByteArray := prog_1_method_42_code
def yX0_putUnit : MethodName := ⟨RX0, "putUnit", "(III)V"⟩
abbrev cX0_copyUnits : ByteArray := prog_1_method_43_code
def yX0_copyUnits : MethodName := ⟨RX0, "copyUnits", "(IIIII)V"⟩
abbrev cX0_makeFlat : ByteArray := prog_1_method_44_code
def yX0_makeFlat : MethodName := ⟨RX0, "makeFlat", "(II)I"⟩
abbrev cX0_makeFlatOfTwo : ByteArray := prog_1_method_45_code
def yX0_makeFlatOfTwo : MethodName := ⟨RX0, "makeFlatOfTwo", "(II)I"⟩
abbrev cX0_makeJoined : ByteArray := prog_1_method_46_code
def yX0_makeJoined : MethodName := ⟨RX0, "makeJoined", "(II)I"⟩
abbrev cX0_goOver : ByteArray := prog_1_method_47_code
def yX0_goOver : MethodName := ⟨RX0, "goOver", "(I)V"⟩
abbrev cX0_copyAllUnits : ByteArray := prog_1_method_48_code
def yX0_copyAllUnits : MethodName := ⟨RX0, "copyAllUnits", "(II)V"⟩
abbrev cX0_findName : ByteArray := prog_1_method_49_code
def yX0_findName : MethodName := ⟨RX0, "findName", "(I)I"⟩
abbrev cX0_hasSameUnits : ByteArray := prog_1_method_50_code
def yX0_hasSameUnits : MethodName := ⟨RX0, "hasSameUnits", "(II)Z"⟩
abbrev cX0_makeName : ByteArray := prog_1_method_51_code
def yX0_makeName : MethodName := ⟨RX0, "makeName", "(I)I"⟩
abbrev cX0_isStressed : ByteArray := prog_1_method_52_code
def yX0_isStressed : MethodName := ⟨RX0, "isStressed", "()Z"⟩
abbrev cX0_make : ByteArray := prog_1_method_53_code
def yX0_make : MethodName := ⟨RX0, "make", "(IIII)I"⟩
abbrev cX0_widen : ByteArray := prog_1_method_54_code
def yX0_widen : MethodName := ⟨RX0, "widen", "(I)V"⟩
abbrev cX0_slideTogether : ByteArray := prog_1_method_55_code
def yX0_slideTogether : MethodName := ⟨RX0, "slideTogether", "()V"⟩
abbrev cX0_touchRoots : ByteArray := prog_1_method_56_code
def yX0_touchRoots : MethodName := ⟨RX0, "touchRoots", "(Z)V"⟩
abbrev cX0_touchLeads : ByteArray := prog_1_method_57_code
def yX0_touchLeads : MethodName := ⟨RX0, "touchLeads", "(IZ)V"⟩
abbrev cX0_touch : ByteArray := prog_1_method_58_code
def yX0_touch : MethodName := ⟨RX0, "touch", "(IZ)I"⟩
abbrev cX0_planMoves : ByteArray := prog_1_method_59_code
def yX0_planMoves : MethodName := ⟨RX0, "planMoves", "()I"⟩
abbrev cX0_keepNames : ByteArray := prog_1_method_60_code
def yX0_keepNames : MethodName := ⟨RX0, "keepNames", "()V"⟩
abbrev cX0_moveAll : ByteArray := prog_1_method_61_code
def yX0_moveAll : MethodName := ⟨RX0, "moveAll", "()V"⟩
def RX1 : String := "OwnMemoryModel"
def TX1 : u_T := fun k => match k with
  | 0 => ("OwnMemoryModel", "thrown", "I", false)
  | 1 => ("OwnMemoryModel", "limit", "I", true)
  | 2 => ("OwnMemoryModel", "root", "[I", true)
  | 3 => ("OwnMemoryModel", "objects", "I", false)
  | 4 => ("OwnMemoryModel", "kind", "[I", true)
  | 5 => ("OwnMemoryModel", "links", "[I", true)
  | 6 => ("OwnMemoryModel", "values", "[I", true)
  | 7 => ("OwnMemoryModel", "plain", "[I", true)
  | 8 => ("OwnMemoryModel", "link", "[I", true)
  | 9 => ("OwnMemoryModel", "number", "[J", true)
  | 10 => ("OwnMemoryModel", "refers", "[I", true)
  | 11 => ("OwnMemoryModel", "word", "[I", true)
  | 12 => ("OwnMemoryModel", "length", "[I", true)
  | 13 => ("OwnMemoryModel", "madeOf", "[I", true)
  | 14 => ("OwnMemoryModel", "a", "[I", true)
  | 15 => ("OwnMemoryModel", "b", "[I", true)
  | 16 => ("OwnMemoryModel", "units", "[J", true)
  | 17 => ("OwnMemoryModel", "spread", "[I", true)
  | 18 => ("OwnMemoryModel", "there", "[Z", true)
  | 19 => ("OwnMemoryModel", "waiting", "[I", true)
  | _ => ("OwnMemoryModel", "wait", "I", false)
def tyX1 : Nat → FieldType := fun k => match k with
  | 0 => .int
  | 1 => .int
  | 2 => .array .int
  | 3 => .int
  | 4 => .array .int
  | 5 => .array .int
  | 6 => .array .int
  | 7 => .array .int
  | 8 => .array .int
  | 9 => .array .long
  | 10 => .array .int
  | 11 => .array .int
  | 12 => .array .int
  | 13 => .array .int
  | 14 => .array .int
  | 15 => .array .int
  | 16 => .array .long
  | 17 => .array .int
  | 18 => .array .boolean
  | 19 => .array .int
  | _ => .int
abbrev wsX10 : List Cond := u_ws RX1 TX1 21
theorem nmX1 : ∀ a, a < 21 → ∀ b, b < 21 → a ≠ b → (TX1 a).2.1 ≠ (TX1 b).2.1 := by decide +kernel
theorem tyX1_ok : ∀ k, k < 21 → parseFieldDescriptor (TX1 k).2.2.1 = some (tyX1 k) := by decide +kernel
abbrev cX1_init : ByteArray := prog_3_method_1_code
def yX1_init : MethodName := ⟨RX1, "<init>", "(I)V"⟩
abbrev cX1_thrown : ByteArray := prog_3_method_2_code
def yX1_thrown : MethodName := ⟨RX1, "thrown", "()I"⟩
abbrev cX1_in : ByteArray := prog_3_method_3_code
def yX1_in : MethodName := ⟨RX1, "in", "(III)Z"⟩
abbrev cX1_isRoot : ByteArray := prog_3_method_4_code
def yX1_isRoot : MethodName := ⟨RX1, "isRoot", "(I)Z"⟩
abbrev cX1_says : ByteArray := prog_3_method_5_code
def yX1_says : MethodName := ⟨RX1, "says", "(Z)Z"⟩
abbrev cX1_words : ByteArray := prog_3_method_6_code
def yX1_words : MethodName := ⟨RX1, "words", "(I)I"⟩
abbrev cX1_come : ByteArray := prog_3_method_7_code
def yX1_come : MethodName := ⟨RX1, "come", "(I)V"⟩
abbrev cX1_look : ByteArray := prog_3_method_8_code
def yX1_look : MethodName := ⟨RX1, "look", "()V"⟩
abbrev cX1_taken : ByteArray := prog_3_method_9_code
def yX1_taken : MethodName := ⟨RX1, "taken", "()I"⟩
abbrev cX1_make : ByteArray := prog_3_method_10_code
def yX1_make : MethodName := ⟨RX1, "make", "(III)I"⟩
abbrev cX1_collect : ByteArray := prog_3_method_11_code
def yX1_collect : MethodName := ⟨RX1, "collect", "()I"⟩
abbrev cX1_stress : ByteArray := prog_3_method_12_code
def yX1_stress : MethodName := ⟨RX1, "stress", "(I)V"⟩
abbrev cX1_take : ByteArray := prog_3_method_13_code
def yX1_take : MethodName := ⟨RX1, "take", "(IIII)V"⟩
abbrev cX1_copy : ByteArray := prog_3_method_14_code
def yX1_copy : MethodName := ⟨RX1, "copy", "(II)V"⟩
abbrev cX1_drop : ByteArray := prog_3_method_15_code
def yX1_drop : MethodName := ⟨RX1, "drop", "(I)V"⟩
abbrev cX1_kind : ByteArray := prog_3_method_16_code
def yX1_kind : MethodName := ⟨RX1, "kind", "(I)I"⟩
abbrev cX1_same : ByteArray := prog_3_method_17_code
def yX1_same : MethodName := ⟨RX1, "same", "(II)Z"⟩
abbrev cX1_isBlock : ByteArray := prog_3_method_18_code
def yX1_isBlock : MethodName := ⟨RX1, "isBlock", "(I)Z"⟩
abbrev cX1_hasLink : ByteArray := prog_3_method_19_code
def yX1_hasLink : MethodName := ⟨RX1, "hasLink", "(II)Z"⟩
abbrev cX1_hasValue : ByteArray := prog_3_method_20_code
def yX1_hasValue : MethodName := ⟨RX1, "hasValue", "(II)Z"⟩
abbrev cX1_hasWord : ByteArray := prog_3_method_21_code
def yX1_hasWord : MethodName := ⟨RX1, "hasWord", "(II)Z"⟩
abbrev cX1_tie : ByteArray := prog_3_method_22_code
def yX1_tie : MethodName := ⟨RX1, "tie", "(III)V"⟩
abbrev cX1_lead : ByteArray := prog_3_method_23_code
def yX1_lead : MethodName := ⟨RX1, "lead", "(III)V"⟩
abbrev cX1_number : ByteArray := prog_3_method_24_code
def yX1_number : MethodName := ⟨RX1, "number", "(IIJ)V"⟩
abbrev cX1_refer : ByteArray := prog_3_method_25_code
def yX1_refer : MethodName := ⟨RX1, "refer", "(III)V"⟩
abbrev cX1_bits : ByteArray := prog_3_method_26_code
def yX1_bits : MethodName := ⟨RX1, "bits", "(II)J"⟩
abbrev cX1_follow : ByteArray := prog_3_method_27_code
def yX1_follow : MethodName := ⟨RX1, "follow", "(III)Z"⟩
abbrev cX1_set : ByteArray := prog_3_method_28_code
def yX1_set : MethodName := ⟨RX1, "set", "(III)V"⟩
abbrev cX1_get : ByteArray := prog_3_method_29_code
def yX1_get : MethodName := ⟨RX1, "get", "(II)I"⟩
abbrev cX1_isText : ByteArray := prog_3_method_30_code
def yX1_isText : MethodName := ⟨RX1, "isText", "(I)Z"⟩
abbrev cX1_unitOf : ByteArray := prog_3_method_31_code
def yX1_unitOf : MethodName := ⟨RX1, "unitOf", "(II)I"⟩
abbrev cX1_goOver : ByteArray := prog_3_method_32_code
def yX1_goOver : MethodName := ⟨RX1, "goOver", "(I)Z"⟩
abbrev cX1_full : ByteArray := prog_3_method_33_code
def yX1_full : MethodName := ⟨RX1, "full", "(I)I"⟩
abbrev cX1_text : ByteArray := prog_3_method_34_code
def yX1_text : MethodName := ⟨RX1, "text", "(IJI)V"⟩
abbrev cX1_join : ByteArray := prog_3_method_35_code
def yX1_join : MethodName := ⟨RX1, "join", "(III)V"⟩
abbrev cX1_partOf : ByteArray := prog_3_method_36_code
def yX1_partOf : MethodName := ⟨RX1, "partOf", "(IIII)I"⟩
abbrev cX1_part : ByteArray := prog_3_method_37_code
def yX1_part : MethodName := ⟨RX1, "part", "(IIII)V"⟩
abbrev cX1_length : ByteArray := prog_3_method_38_code
def yX1_length : MethodName := ⟨RX1, "length", "(I)I"⟩
abbrev cX1_unit : ByteArray := prog_3_method_39_code
def yX1_unit : MethodName := ⟨RX1, "unit", "(II)I"⟩
abbrev cX1_order : ByteArray := prog_3_method_40_code
def yX1_order : MethodName := ⟨RX1, "order", "(II)I"⟩
abbrev cX1_compare : ByteArray := prog_3_method_41_code
def yX1_compare : MethodName := ⟨RX1, "compare", "(II)I"⟩
abbrev cX1_find : ByteArray := prog_3_method_42_code
def yX1_find : MethodName := ⟨RX1, "find", "(I)I"⟩
abbrev cX1_name : ByteArray := prog_3_method_43_code
def yX1_name : MethodName := ⟨RX1, "name", "(II)V"⟩
def RJ5 : String := "java/lang/AbstractStringBuilder"
def TJ5 : u_T := fun k => match k with
  | _ => ("", "", "", false)
def tyJ5 : Nat → FieldType := fun k => match k with
  | _ => .int
abbrev wsJ50 : List Cond := u_ws RJ5 TJ5 0
theorem nmJ5 : ∀ a, a < 0 → ∀ b, b < 0 → a ≠ b → (TJ5 a).2.1 ≠ (TJ5 b).2.1 := by decide +kernel
theorem tyJ5_ok : ∀ k, k < 0 → parseFieldDescriptor (TJ5 k).2.2.1 = some (tyJ5 k) := by decide +kernel
abbrev cJ5_init_d00df : ByteArray := prog_4_method_2_code
def yJ5_init_d00df : MethodName := ⟨RJ5, "<init>", "(I)V"⟩
abbrev cJ5_length_8abf5 : ByteArray := prog_4_method_6_code
def yJ5_length_8abf5 : MethodName := ⟨RJ5, "length", "()I"⟩
abbrev cJ5_ensureCapacityInternal_d00df : ByteArray := prog_4_method_9_code
def yJ5_ensureCapacityInternal_d00df : MethodName := ⟨RJ5, "ensureCapacityInternal", "(I)V"⟩
abbrev cJ5_newCapacity_0f7a4 : ByteArray := prog_4_method_10_code
def yJ5_newCapacity_0f7a4 : MethodName := ⟨RJ5, "newCapacity", "(I)I"⟩
abbrev cJ5_inflate_da8c8 : ByteArray := prog_4_method_11_code
def yJ5_inflate_da8c8 : MethodName := ⟨RJ5, "inflate", "()V"⟩
abbrev cJ5_append_cf1ce : ByteArray := prog_4_method_22_code
def yJ5_append_cf1ce : MethodName := ⟨RJ5, "append", "(Ljava/lang/String;)Ljava/lang/AbstractStringBuilder;"⟩
abbrev cJ5_appendNull_278bc : ByteArray := prog_4_method_26_code
def yJ5_appendNull_278bc : MethodName := ⟨RJ5, "appendNull", "()Ljava/lang/AbstractStringBuilder;"⟩
abbrev cJ5_append_c97b9 : ByteArray := prog_4_method_32_code
def yJ5_append_c97b9 : MethodName := ⟨RJ5, "append", "(I)Ljava/lang/AbstractStringBuilder;"⟩
abbrev cJ5_getValue_6d5f1 : ByteArray := prog_4_method_64_code
def yJ5_getValue_6d5f1 : MethodName := ⟨RJ5, "getValue", "()[B"⟩
abbrev cJ5_isLatin1_aae02 : ByteArray := prog_4_method_68_code
def yJ5_isLatin1_aae02 : MethodName := ⟨RJ5, "isLatin1", "()Z"⟩
abbrev cJ5_inflateIfNeededFor_a7421 : ByteArray := prog_4_method_71_code
def yJ5_inflateIfNeededFor_a7421 : MethodName := ⟨RJ5, "inflateIfNeededFor", "(Ljava/lang/String;)V"⟩
abbrev cJ5_putStringAt_47b60 : ByteArray := prog_4_method_73_code
def yJ5_putStringAt_47b60 : MethodName := ⟨RJ5, "putStringAt", "(ILjava/lang/String;)V"⟩
def RJx8e188 : String := "java/lang/Cloneable"
def TJx8e188 : u_T := fun k => match k with
  | _ => ("", "", "", false)
def tyJx8e188 : Nat → FieldType := fun k => match k with
  | _ => .int
abbrev wsJx8e1880 : List Cond := u_ws RJx8e188 TJx8e188 0
theorem nmJx8e188 : ∀ a, a < 0 → ∀ b, b < 0 → a ≠ b → (TJx8e188 a).2.1 ≠ (TJx8e188 b).2.1 := by decide +kernel
theorem tyJx8e188_ok : ∀ k, k < 0 → parseFieldDescriptor (TJx8e188 k).2.2.1 = some (tyJx8e188 k) := by decide +kernel
def RJ6 : String := "java/lang/Integer"
def TJ6 : u_T := fun k => match k with
  | _ => ("", "", "", false)
def tyJ6 : Nat → FieldType := fun k => match k with
  | _ => .int
abbrev wsJ60 : List Cond := u_ws RJ6 TJ6 0
theorem nmJ6 : ∀ a, a < 0 → ∀ b, b < 0 → a ≠ b → (TJ6 a).2.1 ≠ (TJ6 b).2.1 := by decide +kernel
theorem tyJ6_ok : ∀ k, k < 0 → parseFieldDescriptor (TJ6 k).2.2.1 = some (tyJ6 k) := by decide +kernel
abbrev cJ6_getChars_ba4f3 : ByteArray := prog_9_method_12_code
def yJ6_getChars_ba4f3 : MethodName := ⟨RJ6, "getChars", "(II[B)I"⟩
abbrev cJ6_stringSize_0f7a4 : ByteArray := prog_9_method_13_code
def yJ6_stringSize_0f7a4 : MethodName := ⟨RJ6, "stringSize", "(I)I"⟩
abbrev cJ6_signum_0f7a4 : ByteArray := prog_9_method_56_code
def yJ6_signum_0f7a4 : MethodName := ⟨RJ6, "signum", "(I)I"⟩
def RJ9 : String := "java/lang/Math"
def TJ9 : u_T := fun k => match k with
  | _ => ("", "", "", false)
def tyJ9 : Nat → FieldType := fun k => match k with
  | _ => .int
abbrev wsJ90 : List Cond := u_ws RJ9 TJ9 0
theorem nmJ9 : ∀ a, a < 0 → ∀ b, b < 0 → a ≠ b → (TJ9 a).2.1 ≠ (TJ9 b).2.1 := by decide +kernel
theorem tyJ9_ok : ∀ k, k < 0 → parseFieldDescriptor (TJ9 k).2.2.1 = some (tyJ9 k) := by decide +kernel
abbrev cJ9_max_7cf53 : ByteArray := prog_10_method_65_code
def yJ9_max_7cf53 : MethodName := ⟨RJ9, "max", "(II)I"⟩
abbrev cJ9_min_7cf53 : ByteArray := prog_10_method_69_code
def yJ9_min_7cf53 : MethodName := ⟨RJ9, "min", "(II)I"⟩
def RJ0 : String := "java/lang/String"
def TJ0 : u_T := fun k => match k with
  | 0 => ("java/lang/String", "value", "[B", true)
  | 1 => ("java/lang/String", "coder", "B", true)
  | 2 => ("java/lang/String", "hash", "I", false)
  | _ => ("java/lang/String", "hashIsZero", "Z", false)
def tyJ0 : Nat → FieldType := fun k => match k with
  | 0 => .array .byte
  | 1 => .byte
  | 2 => .int
  | _ => .boolean
abbrev wsJ00 : List Cond := u_ws RJ0 TJ0 4
theorem nmJ0 : ∀ a, a < 4 → ∀ b, b < 4 → a ≠ b → (TJ0 a).2.1 ≠ (TJ0 b).2.1 := by decide +kernel
theorem tyJ0_ok : ∀ k, k < 4 → parseFieldDescriptor (TJ0 k).2.2.1 = some (tyJ0 k) := by decide +kernel
abbrev cJ0_init_81219 : ByteArray := prog_12_method_53_code
def yJ0_init_81219 : MethodName := ⟨RJ0, "<init>", "(Ljava/lang/StringBuilder;)V"⟩
abbrev cJ0_length_8abf5 : ByteArray := prog_12_method_54_code
def yJ0_length_8abf5 : MethodName := ⟨RJ0, "length", "()I"⟩
abbrev cJ0_getBytes_840e7 : ByteArray := prog_12_method_147_code
def yJ0_getBytes_840e7 : MethodName := ⟨RJ0, "getBytes", "([BIB)V"⟩
abbrev cJ0_init_db425 : ByteArray := prog_12_method_150_code
def yJ0_init_db425 : MethodName := ⟨RJ0, "<init>", "(Ljava/lang/AbstractStringBuilder;Ljava/lang/Void;)V"⟩
abbrev cJ0_coder_7d493 : ByteArray := prog_12_method_152_code
def yJ0_coder_7d493 : MethodName := ⟨RJ0, "coder", "()B"⟩
abbrev cJ0_checkBoundsOffCount_cabcc : ByteArray := prog_12_method_157_code
def yJ0_checkBoundsOffCount_cabcc : MethodName := ⟨RJ0, "checkBoundsOffCount", "(III)I"⟩
abbrev cJ0_checkBoundsBeginEnd_23922 : ByteArray := prog_12_method_158_code
def yJ0_checkBoundsBeginEnd_23922 : MethodName := ⟨RJ0, "checkBoundsBeginEnd", "(III)V"⟩
def RJ4 : String := "java/lang/StringBuilder"
def TJ4 : u_T := fun k => match k with
  | 0 => ("java/lang/AbstractStringBuilder", "value", "[B", false)
  | 1 => ("java/lang/AbstractStringBuilder", "coder", "B", false)
  | 2 => ("java/lang/AbstractStringBuilder", "maybeLatin1", "Z", false)
  | _ => ("java/lang/AbstractStringBuilder", "count", "I", false)
def tyJ4 : Nat → FieldType := fun k => match k with
  | 0 => .array .byte
  | 1 => .byte
  | 2 => .boolean
  | _ => .int
abbrev wsJ40 : List Cond := u_ws RJ4 TJ4 4
theorem nmJ4 : ∀ a, a < 4 → ∀ b, b < 4 → a ≠ b → (TJ4 a).2.1 ≠ (TJ4 b).2.1 := by decide +kernel
theorem tyJ4_ok : ∀ k, k < 4 → parseFieldDescriptor (TJ4 k).2.2.1 = some (tyJ4 k) := by decide +kernel
abbrev cJ4_init_da8c8 : ByteArray := prog_13_method_1_code
def yJ4_init_da8c8 : MethodName := ⟨RJ4, "<init>", "()V"⟩
abbrev cJ4_append_15ec4 : ByteArray := prog_13_method_7_code
def yJ4_append_15ec4 : MethodName := ⟨RJ4, "append", "(Ljava/lang/String;)Ljava/lang/StringBuilder;"⟩
abbrev cJ4_append_bf812 : ByteArray := prog_13_method_15_code
def yJ4_append_bf812 : MethodName := ⟨RJ4, "append", "(I)Ljava/lang/StringBuilder;"⟩
abbrev cJ4_toString_0e30d : ByteArray := prog_13_method_42_code
def yJ4_toString_0e30d : MethodName := ⟨RJ4, "toString", "()Ljava/lang/String;"⟩
abbrev cJ4_length_8abf5 : ByteArray := prog_13_method_93_code
def yJ4_length_8abf5 : MethodName := ⟨RJ4, "length", "()I"⟩
def RJ1 : String := "java/lang/StringLatin1"
def TJ1 : u_T := fun k => match k with
  | _ => ("", "", "", false)
def tyJ1 : Nat → FieldType := fun k => match k with
  | _ => .int
abbrev wsJ10 : List Cond := u_ws RJ1 TJ1 0
theorem nmJ1 : ∀ a, a < 0 → ∀ b, b < 0 → a ≠ b → (TJ1 a).2.1 ≠ (TJ1 b).2.1 := by decide +kernel
theorem tyJ1_ok : ∀ k, k < 0 → parseFieldDescriptor (TJ1 k).2.2.1 = some (tyJ1 k) := by decide +kernel
abbrev cJ1_inflate_0e8fd : ByteArray := prog_14_method_50_code
def yJ1_inflate_0e8fd : MethodName := ⟨RJ1, "inflate", "([BI[BII)V"⟩
def RJ2 : String := "java/lang/StringUTF16"
def TJ2 : u_T := fun k => match k with
  | _ => ("", "", "", false)
def tyJ2 : Nat → FieldType := fun k => match k with
  | _ => .int
abbrev wsJ20 : List Cond := u_ws RJ2 TJ2 0
theorem nmJ2 : ∀ a, a < 0 → ∀ b, b < 0 → a ≠ b → (TJ2 a).2.1 ≠ (TJ2 b).2.1 := by decide +kernel
theorem tyJ2_ok : ∀ k, k < 0 → parseFieldDescriptor (TJ2 k).2.2.1 = some (tyJ2 k) := by decide +kernel
abbrev cJ2_newBytesFor_77867 : ByteArray := prog_15_method_2_code
def yJ2_newBytesFor_77867 : MethodName := ⟨RJ2, "newBytesFor", "(I)[B"⟩
abbrev cJ2_newBytesLength_0f7a4 : ByteArray := prog_15_method_3_code
def yJ2_newBytesLength_0f7a4 : MethodName := ⟨RJ2, "newBytesLength", "(I)I"⟩
abbrev cJ2_putChar_b72d1 : ByteArray := prog_15_method_4_code
def yJ2_putChar_b72d1 : MethodName := ⟨RJ2, "putChar", "([BII)V"⟩
abbrev cJ2_getChar_3b067 : ByteArray := prog_15_method_5_code
def yJ2_getChar_3b067 : MethodName := ⟨RJ2, "getChar", "([BI)C"⟩
abbrev cJ2_length_9d52b : ByteArray := prog_15_method_6_code
def yJ2_length_9d52b : MethodName := ⟨RJ2, "length", "([B)I"⟩
abbrev cJ2_coderFromArrayLen_85cad : ByteArray := prog_15_method_15_code
def yJ2_coderFromArrayLen_85cad : MethodName := ⟨RJ2, "coderFromArrayLen", "([BI)B"⟩
abbrev cJ2_compress_39247 : ByteArray := prog_15_method_17_code
def yJ2_compress_39247 : MethodName := ⟨RJ2, "compress", "([BII)[B"⟩
abbrev cJ2_compress_5af95 : ByteArray := prog_15_method_22_code
def yJ2_compress_5af95 : MethodName := ⟨RJ2, "compress", "([BI[BII)I"⟩
abbrev cJ2_getChars_46870 : ByteArray := prog_15_method_77_code
def yJ2_getChars_46870 : MethodName := ⟨RJ2, "getChars", "(III[B)I"⟩
abbrev cJ2_putCharsAt_cd4e5 : ByteArray := prog_15_method_81_code
def yJ2_putCharsAt_cd4e5 : MethodName := ⟨RJ2, "putCharsAt", "([BICCCC)I"⟩
abbrev cJ2_inflate_0e8fd : ByteArray := prog_15_method_86_code
def yJ2_inflate_0e8fd : MethodName := ⟨RJ2, "inflate", "([BI[BII)V"⟩
abbrev cJ2_getChars_ba4f3 : ByteArray := prog_15_method_89_code
def yJ2_getChars_ba4f3 : MethodName := ⟨RJ2, "getChars", "(II[B)I"⟩
abbrev cJ2_checkBoundsBeginEnd_d044e : ByteArray := prog_15_method_93_code
def yJ2_checkBoundsBeginEnd_d044e : MethodName := ⟨RJ2, "checkBoundsBeginEnd", "(II[B)V"⟩
abbrev cJ2_checkBoundsOffCount_d044e : ByteArray := prog_15_method_94_code
def yJ2_checkBoundsOffCount_d044e : MethodName := ⟨RJ2, "checkBoundsOffCount", "(II[B)V"⟩
def RJ10 : String := "java/lang/System"
def TJ10 : u_T := fun k => match k with
  | _ => ("", "", "", false)
def tyJ10 : Nat → FieldType := fun k => match k with
  | _ => .int
abbrev wsJ100 : List Cond := u_ws RJ10 TJ10 0
theorem nmJ10 : ∀ a, a < 0 → ∀ b, b < 0 → a ≠ b → (TJ10 a).2.1 ≠ (TJ10 b).2.1 := by decide +kernel
theorem tyJ10_ok : ∀ k, k < 0 → parseFieldDescriptor (TJ10 k).2.2.1 = some (tyJ10 k) := by decide +kernel
def RJ7 : String := "java/util/Arrays"
def TJ7 : u_T := fun k => match k with
  | _ => ("", "", "", false)
def tyJ7 : Nat → FieldType := fun k => match k with
  | _ => .int
abbrev wsJ70 : List Cond := u_ws RJ7 TJ7 0
theorem nmJ7 : ∀ a, a < 0 → ∀ b, b < 0 → a ≠ b → (TJ7 a).2.1 ≠ (TJ7 b).2.1 := by decide +kernel
theorem tyJ7_ok : ∀ k, k < 0 → parseFieldDescriptor (TJ7 k).2.2.1 = some (tyJ7 k) := by decide +kernel
abbrev cJ7_rangeCheck_23922 : ByteArray := prog_18_method_30_code
def yJ7_rangeCheck_23922 : MethodName := ⟨RJ7, "rangeCheck", "(III)V"⟩
abbrev cJ7_fill_53178 : ByteArray := prog_18_method_103_code
def yJ7_fill_53178 : MethodName := ⟨RJ7, "fill", "([II)V"⟩
abbrev cJ7_fill_fda19 : ByteArray := prog_18_method_104_code
def yJ7_fill_fda19 : MethodName := ⟨RJ7, "fill", "([IIII)V"⟩
abbrev cJ7_copyOf_9075b : ByteArray := prog_18_method_121_code
def yJ7_copyOf_9075b : MethodName := ⟨RJ7, "copyOf", "([BI)[B"⟩
abbrev cJ7_copyOf_59c91 : ByteArray := prog_18_method_123_code
def yJ7_copyOf_59c91 : MethodName := ⟨RJ7, "copyOf", "([II)[I"⟩
abbrev cJ7_checkLength_df160 : ByteArray := prog_18_method_131_code
def yJ7_checkLength_df160 : MethodName := ⟨RJ7, "checkLength", "(II)V"⟩
abbrev cJ7_copyOfRange_39247 : ByteArray := prog_18_method_132_code
def yJ7_copyOfRange_39247 : MethodName := ⟨RJ7, "copyOfRange", "([BII)[B"⟩
abbrev cJ7_copyOfRangeByte_39247 : ByteArray := prog_18_method_133_code
def yJ7_copyOfRangeByte_39247 : MethodName := ⟨RJ7, "copyOfRangeByte", "([BII)[B"⟩
def RJ8 : String := "jdk/internal/util/ArraysSupport"
def TJ8 : u_T := fun k => match k with
  | _ => ("", "", "", false)
def tyJ8 : Nat → FieldType := fun k => match k with
  | _ => .int
abbrev wsJ80 : List Cond := u_ws RJ8 TJ8 0
theorem nmJ8 : ∀ a, a < 0 → ∀ b, b < 0 → a ≠ b → (TJ8 a).2.1 ≠ (TJ8 b).2.1 := by decide +kernel
theorem tyJ8_ok : ∀ k, k < 0 → parseFieldDescriptor (TJ8 k).2.2.1 = some (tyJ8 k) := by decide +kernel
abbrev cJ8_newLength_cabcc : ByteArray := prog_19_method_27_code
def yJ8_newLength_cabcc : MethodName := ⟨RJ8, "newLength", "(III)I"⟩
abbrev cJ8_hugeLength_7cf53 : ByteArray := prog_19_method_28_code
def yJ8_hugeLength_7cf53 : MethodName := ⟨RJ8, "hugeLength", "(II)I"⟩
def RJ3 : String := "jdk/internal/util/Preconditions"
def TJ3 : u_T := fun k => match k with
  | _ => ("", "", "", false)
def tyJ3 : Nat → FieldType := fun k => match k with
  | _ => .int
abbrev wsJ30 : List Cond := u_ws RJ3 TJ3 0
theorem nmJ3 : ∀ a, a < 0 → ∀ b, b < 0 → a ≠ b → (TJ3 a).2.1 ≠ (TJ3 b).2.1 := by decide +kernel
theorem tyJ3_ok : ∀ k, k < 0 → parseFieldDescriptor (TJ3 k).2.2.1 = some (tyJ3 k) := by decide +kernel
abbrev cJ3_checkFromToIndex_8c36e : ByteArray := prog_20_method_12_code
def yJ3_checkFromToIndex_8c36e : MethodName := ⟨RJ3, "checkFromToIndex", "(IIILjava/util/function/BiFunction;)I"⟩
abbrev cJ3_checkFromIndexSize_8c36e : ByteArray := prog_20_method_13_code
def yJ3_checkFromIndexSize_8c36e : MethodName := ⟨RJ3, "checkFromIndexSize", "(IIILjava/util/function/BiFunction;)I"⟩
def RL : String := "OwnMemoryLaw"
abbrev cL_cell : ByteArray := method_2_code
def yL_cell : MethodName := ⟨RL, "cell", "([II)I"⟩
abbrev cL_take : ByteArray := method_3_code
def yL_take : MethodName := ⟨RL, "take", "(LOwnMemory;IIII)I"⟩
abbrev cL_copy : ByteArray := method_4_code
def yL_copy : MethodName := ⟨RL, "copy", "(LOwnMemory;II)I"⟩
abbrev cL_drop : ByteArray := method_5_code
def yL_drop : MethodName := ⟨RL, "drop", "(LOwnMemory;I)I"⟩
abbrev cL_kind : ByteArray := method_6_code
def yL_kind : MethodName := ⟨RL, "kind", "(LOwnMemory;I[J)I"⟩
abbrev cL_same : ByteArray := method_7_code
def yL_same : MethodName := ⟨RL, "same", "(LOwnMemory;II[J)I"⟩
abbrev cL_tie : ByteArray := method_8_code
def yL_tie : MethodName := ⟨RL, "tie", "(LOwnMemory;III)I"⟩
abbrev cL_lead : ByteArray := method_9_code
def yL_lead : MethodName := ⟨RL, "lead", "(LOwnMemory;III)I"⟩
abbrev cL_number : ByteArray := method_10_code
def yL_number : MethodName := ⟨RL, "number", "(LOwnMemory;IIJ)I"⟩
abbrev cL_refer : ByteArray := method_11_code
def yL_refer : MethodName := ⟨RL, "refer", "(LOwnMemory;III)I"⟩
abbrev cL_bits : ByteArray := method_12_code
def yL_bits : MethodName := ⟨RL, "bits", "(LOwnMemory;II[J)I"⟩
abbrev cL_follow : ByteArray := method_13_code
def yL_follow : MethodName := ⟨RL, "follow", "(LOwnMemory;III[J)I"⟩
abbrev cL_set : ByteArray := method_14_code
def yL_set : MethodName := ⟨RL, "set", "(LOwnMemory;III)I"⟩
abbrev cL_get : ByteArray := method_15_code
def yL_get : MethodName := ⟨RL, "get", "(LOwnMemory;II[J)I"⟩
abbrev cL_text : ByteArray := method_16_code
def yL_text : MethodName := ⟨RL, "text", "(LOwnMemory;IJI)I"⟩
abbrev cL_join : ByteArray := method_17_code
def yL_join : MethodName := ⟨RL, "join", "(LOwnMemory;III)I"⟩
abbrev cL_part : ByteArray := method_18_code
def yL_part : MethodName := ⟨RL, "part", "(LOwnMemory;IIII)I"⟩
abbrev cL_length : ByteArray := method_19_code
def yL_length : MethodName := ⟨RL, "length", "(LOwnMemory;I[J)I"⟩
abbrev cL_unit : ByteArray := method_20_code
def yL_unit : MethodName := ⟨RL, "unit", "(LOwnMemory;II[J)I"⟩
abbrev cL_compare : ByteArray := method_21_code
def yL_compare : MethodName := ⟨RL, "compare", "(LOwnMemory;II[J)I"⟩
abbrev cL_name : ByteArray := method_22_code
def yL_name : MethodName := ⟨RL, "name", "(LOwnMemory;II)I"⟩
abbrev cL_stress : ByteArray := method_23_code
def yL_stress : MethodName := ⟨RL, "stress", "(LOwnMemory;I)I"⟩
abbrev cL_law : ByteArray := code
def yL_law : MethodName := ⟨RL, "law", "([I)Z"⟩
abbrev vwCl : List vw_C := [(RJ0, TJ0, 4), (RJ4, TJ4, 4), (RX0, TX0, 10), (RX1, TX1, 21)]
end
section
/-! combinators of the pure pictures: a choice, a check, a name, a call -/
noncomputable def cIf {α : Type} (c : Prop) (a b : α) : α := @ite α c (Classical.propDecidable c) a b
theorem cIf_t {α : Type} {c : Prop} {a b : α} (h : c) : cIf c a b = a := by unfold cIf; exact if_pos h
theorem cIf_f {α : Type} {c : Prop} {a b : α} (h : ¬ c) : cIf c a b = b := by unfold cIf; exact if_neg h
theorem cIf_te {α : Type} {c : Prop} {a b r : α} (h : c) (hg : cIf c a b = r) : a = r := (cIf_t h).symm.trans hg
theorem cIf_fe {α : Type} {c : Prop} {a b r : α} (h : ¬ c) (hg : cIf c a b = r) : b = r := (cIf_f h).symm.trans hg
noncomputable def ck {β : Type} (c : Prop) (k : Option β) : Option β := cIf c k none
theorem ck_t {β : Type} {c : Prop} {k : Option β} (h : c) : ck c k = k := cIf_t h
theorem ck_e {β : Type} {c : Prop} {k : Option β} {r : β} (hg : ck c k = some r) : c ∧ k = some r := by
  unfold ck at hg
  by_cases h : c
  · exact ⟨h, cIf_te h hg⟩
  · rw [cIf_f h] at hg; cases hg
def nmd {α β : Type} (a : α) (k : α → β) : β := k a
theorem nmd_e {α β : Type} {a : α} {k : α → β} {r : β} (hg : nmd a k = r) : ∃ x, x = a ∧ k x = r := ⟨a, rfl, hg⟩
/-- a call with an answer and a state -/
def bnd {α σ β : Type} (x : Option (α × σ)) (k : α → σ → Option β) : Option β := match x with
  | none => none
  | some (a, t) => k a t
theorem bnd_e {α σ β : Type} {x : Option (α × σ)} {k : α → σ → Option β} {r : β} (hg : bnd x k = some r) : ∃ a t, x = some (a, t) ∧ k a t = some r := by
  cases x with
  | none => cases hg
  | some q => exact ⟨q.1, q.2, rfl, hg⟩
/-- a call with an answer alone -/
def bnp {α β : Type} (x : Option α) (k : α → Option β) : Option β := match x with
  | none => none
  | some a => k a
theorem bnp_e {α β : Type} {x : Option α} {k : α → Option β} {r : β} (hg : bnp x k = some r) : ∃ a, x = some a ∧ k a = some r := by
  cases x with
  | none => cases hg
  | some q => exact ⟨q, rfl, hg⟩
theorem sm_e {α : Type} {a b : α} (h : some a = some b) : a = b := Option.some.inj h
theorem pr_e {α β : Type} {a c : α} {b d : β} (h : some (a, b) = some (c, d)) : a = c ∧ b = d := ⟨congrArg Prod.fst (Option.some.inj h), congrArg Prod.snd (Option.some.inj h)⟩
/-- the tables of the worlds: classes, and the array classes of ints, longs, booleans -/
abbrev gT : Type := va_G × ClassId × ClassId × ClassId
def gK (G : gT) (U : State) : Prop := va_K G.1 vwCl [(G.2.1, .int), (G.2.2.1, .long), (G.2.2.2, .boolean)] U
theorem gK.moved {G : gT} {u U : State} (hvm : u.vm.Alike U.vm) (h : gK G u) : gK G U := va_K.moved hvm h
theorem in_ws {a : Cond} {l ws : List Cond} : ∀ w ∈ ws, w ∈ a :: (l ++ ws) := fun _ h => List.mem_cons_of_mem _ (List.mem_append_right _ h)
end
section
/-! the world of OwnMemory: its fields, the rows of words, roots, names, pending -/
abbrev oS : Type := Int32 × Nat × (Nat → Int32) × Int32 × (Nat → Int32) × Nat × (Nat → Int32) × Int32 × (Nat → Int32) × Int32 × Int32 × Int32
def o_lim (σ : oS) : Int32 := σ.1
def o_lw (σ : oS) : Nat := σ.2.1
def o_fw (σ : oS) : Nat → Int32 := σ.2.2.1
def o_us (σ : oS) : Int32 := σ.2.2.2.1
def o_fr (σ : oS) : Nat → Int32 := σ.2.2.2.2.1
def o_ln (σ : oS) : Nat := σ.2.2.2.2.2.1
def o_fn (σ : oS) : Nat → Int32 := σ.2.2.2.2.2.2.1
def o_nc (σ : oS) : Int32 := σ.2.2.2.2.2.2.2.1
def o_fp (σ : oS) : Nat → Int32 := σ.2.2.2.2.2.2.2.2.1
def o_wt (σ : oS) : Int32 := σ.2.2.2.2.2.2.2.2.2.1
def o_st (σ : oS) : Int32 := σ.2.2.2.2.2.2.2.2.2.2.1
def o_md (σ : oS) : Int32 := σ.2.2.2.2.2.2.2.2.2.2.2
def o_s_lim (σ : oS) (x : Int32) : oS := (x, σ.2.1, σ.2.2.1, σ.2.2.2.1, σ.2.2.2.2.1, σ.2.2.2.2.2.1, σ.2.2.2.2.2.2.1, σ.2.2.2.2.2.2.2.1, σ.2.2.2.2.2.2.2.2.1, σ.2.2.2.2.2.2.2.2.2.1, σ.2.2.2.2.2.2.2.2.2.2.1, σ.2.2.2.2.2.2.2.2.2.2.2)
def o_s_lw (σ : oS) (x : Nat) : oS := (σ.1, x, σ.2.2.1, σ.2.2.2.1, σ.2.2.2.2.1, σ.2.2.2.2.2.1, σ.2.2.2.2.2.2.1, σ.2.2.2.2.2.2.2.1, σ.2.2.2.2.2.2.2.2.1, σ.2.2.2.2.2.2.2.2.2.1, σ.2.2.2.2.2.2.2.2.2.2.1, σ.2.2.2.2.2.2.2.2.2.2.2)
def o_s_fw (σ : oS) (x : Nat → Int32) : oS := (σ.1, σ.2.1, x, σ.2.2.2.1, σ.2.2.2.2.1, σ.2.2.2.2.2.1, σ.2.2.2.2.2.2.1, σ.2.2.2.2.2.2.2.1, σ.2.2.2.2.2.2.2.2.1, σ.2.2.2.2.2.2.2.2.2.1, σ.2.2.2.2.2.2.2.2.2.2.1, σ.2.2.2.2.2.2.2.2.2.2.2)
def o_s_us (σ : oS) (x : Int32) : oS := (σ.1, σ.2.1, σ.2.2.1, x, σ.2.2.2.2.1, σ.2.2.2.2.2.1, σ.2.2.2.2.2.2.1, σ.2.2.2.2.2.2.2.1, σ.2.2.2.2.2.2.2.2.1, σ.2.2.2.2.2.2.2.2.2.1, σ.2.2.2.2.2.2.2.2.2.2.1, σ.2.2.2.2.2.2.2.2.2.2.2)
def o_s_fr (σ : oS) (x : Nat → Int32) : oS := (σ.1, σ.2.1, σ.2.2.1, σ.2.2.2.1, x, σ.2.2.2.2.2.1, σ.2.2.2.2.2.2.1, σ.2.2.2.2.2.2.2.1, σ.2.2.2.2.2.2.2.2.1, σ.2.2.2.2.2.2.2.2.2.1, σ.2.2.2.2.2.2.2.2.2.2.1, σ.2.2.2.2.2.2.2.2.2.2.2)
def o_s_ln (σ : oS) (x : Nat) : oS := (σ.1, σ.2.1, σ.2.2.1, σ.2.2.2.1, σ.2.2.2.2.1, x, σ.2.2.2.2.2.2.1, σ.2.2.2.2.2.2.2.1, σ.2.2.2.2.2.2.2.2.1, σ.2.2.2.2.2.2.2.2.2.1, σ.2.2.2.2.2.2.2.2.2.2.1, σ.2.2.2.2.2.2.2.2.2.2.2)
def o_s_fn (σ : oS) (x : Nat → Int32) : oS := (σ.1, σ.2.1, σ.2.2.1, σ.2.2.2.1, σ.2.2.2.2.1, σ.2.2.2.2.2.1, x, σ.2.2.2.2.2.2.2.1, σ.2.2.2.2.2.2.2.2.1, σ.2.2.2.2.2.2.2.2.2.1, σ.2.2.2.2.2.2.2.2.2.2.1, σ.2.2.2.2.2.2.2.2.2.2.2)
def o_s_nc (σ : oS) (x : Int32) : oS := (σ.1, σ.2.1, σ.2.2.1, σ.2.2.2.1, σ.2.2.2.2.1, σ.2.2.2.2.2.1, σ.2.2.2.2.2.2.1, x, σ.2.2.2.2.2.2.2.2.1, σ.2.2.2.2.2.2.2.2.2.1, σ.2.2.2.2.2.2.2.2.2.2.1, σ.2.2.2.2.2.2.2.2.2.2.2)
def o_s_fp (σ : oS) (x : Nat → Int32) : oS := (σ.1, σ.2.1, σ.2.2.1, σ.2.2.2.1, σ.2.2.2.2.1, σ.2.2.2.2.2.1, σ.2.2.2.2.2.2.1, σ.2.2.2.2.2.2.2.1, x, σ.2.2.2.2.2.2.2.2.2.1, σ.2.2.2.2.2.2.2.2.2.2.1, σ.2.2.2.2.2.2.2.2.2.2.2)
def o_s_wt (σ : oS) (x : Int32) : oS := (σ.1, σ.2.1, σ.2.2.1, σ.2.2.2.1, σ.2.2.2.2.1, σ.2.2.2.2.2.1, σ.2.2.2.2.2.2.1, σ.2.2.2.2.2.2.2.1, σ.2.2.2.2.2.2.2.2.1, x, σ.2.2.2.2.2.2.2.2.2.2.1, σ.2.2.2.2.2.2.2.2.2.2.2)
def o_s_st (σ : oS) (x : Int32) : oS := (σ.1, σ.2.1, σ.2.2.1, σ.2.2.2.1, σ.2.2.2.2.1, σ.2.2.2.2.2.1, σ.2.2.2.2.2.2.1, σ.2.2.2.2.2.2.2.1, σ.2.2.2.2.2.2.2.2.1, σ.2.2.2.2.2.2.2.2.2.1, x, σ.2.2.2.2.2.2.2.2.2.2.2)
def o_s_md (σ : oS) (x : Int32) : oS := (σ.1, σ.2.1, σ.2.2.1, σ.2.2.2.1, σ.2.2.2.2.1, σ.2.2.2.2.2.1, σ.2.2.2.2.2.2.1, σ.2.2.2.2.2.2.2.1, σ.2.2.2.2.2.2.2.2.1, σ.2.2.2.2.2.2.2.2.2.1, σ.2.2.2.2.2.2.2.2.2.2.1, x)
theorem o_gs_lim_lim (σ : oS) (x : Int32) : o_lim (o_s_lim σ x) = x := rfl
theorem o_gs_lw_lim (σ : oS) (x : Int32) : o_lw (o_s_lim σ x) = o_lw σ := rfl
theorem o_gs_fw_lim (σ : oS) (x : Int32) : o_fw (o_s_lim σ x) = o_fw σ := rfl
theorem o_gs_us_lim (σ : oS) (x : Int32) : o_us (o_s_lim σ x) = o_us σ := rfl
theorem o_gs_fr_lim (σ : oS) (x : Int32) : o_fr (o_s_lim σ x) = o_fr σ := rfl
theorem o_gs_ln_lim (σ : oS) (x : Int32) : o_ln (o_s_lim σ x) = o_ln σ := rfl
theorem o_gs_fn_lim (σ : oS) (x : Int32) : o_fn (o_s_lim σ x) = o_fn σ := rfl
theorem o_gs_nc_lim (σ : oS) (x : Int32) : o_nc (o_s_lim σ x) = o_nc σ := rfl
theorem o_gs_fp_lim (σ : oS) (x : Int32) : o_fp (o_s_lim σ x) = o_fp σ := rfl
theorem o_gs_wt_lim (σ : oS) (x : Int32) : o_wt (o_s_lim σ x) = o_wt σ := rfl
theorem o_gs_st_lim (σ : oS) (x : Int32) : o_st (o_s_lim σ x) = o_st σ := rfl
theorem o_gs_md_lim (σ : oS) (x : Int32) : o_md (o_s_lim σ x) = o_md σ := rfl
theorem o_gs_lim_lw (σ : oS) (x : Nat) : o_lim (o_s_lw σ x) = o_lim σ := rfl
theorem o_gs_lw_lw (σ : oS) (x : Nat) : o_lw (o_s_lw σ x) = x := rfl
theorem o_gs_fw_lw (σ : oS) (x : Nat) : o_fw (o_s_lw σ x) = o_fw σ := rfl
theorem o_gs_us_lw (σ : oS) (x : Nat) : o_us (o_s_lw σ x) = o_us σ := rfl
theorem o_gs_fr_lw (σ : oS) (x : Nat) : o_fr (o_s_lw σ x) = o_fr σ := rfl
theorem o_gs_ln_lw (σ : oS) (x : Nat) : o_ln (o_s_lw σ x) = o_ln σ := rfl
theorem o_gs_fn_lw (σ : oS) (x : Nat) : o_fn (o_s_lw σ x) = o_fn σ := rfl
theorem o_gs_nc_lw (σ : oS) (x : Nat) : o_nc (o_s_lw σ x) = o_nc σ := rfl
theorem o_gs_fp_lw (σ : oS) (x : Nat) : o_fp (o_s_lw σ x) = o_fp σ := rfl
theorem o_gs_wt_lw (σ : oS) (x : Nat) : o_wt (o_s_lw σ x) = o_wt σ := rfl
theorem o_gs_st_lw (σ : oS) (x : Nat) : o_st (o_s_lw σ x) = o_st σ := rfl
theorem o_gs_md_lw (σ : oS) (x : Nat) : o_md (o_s_lw σ x) = o_md σ := rfl
theorem o_gs_lim_fw (σ : oS) (x : Nat → Int32) : o_lim (o_s_fw σ x) = o_lim σ := rfl
theorem o_gs_lw_fw (σ : oS) (x : Nat → Int32) : o_lw (o_s_fw σ x) = o_lw σ := rfl
theorem o_gs_fw_fw (σ : oS) (x : Nat → Int32) : o_fw (o_s_fw σ x) = x := rfl
theorem o_gs_us_fw (σ : oS) (x : Nat → Int32) : o_us (o_s_fw σ x) = o_us σ := rfl
theorem o_gs_fr_fw (σ : oS) (x : Nat → Int32) : o_fr (o_s_fw σ x) = o_fr σ := rfl
theorem o_gs_ln_fw (σ : oS) (x : Nat → Int32) : o_ln (o_s_fw σ x) = o_ln σ := rfl
theorem o_gs_fn_fw (σ : oS) (x : Nat → Int32) : o_fn (o_s_fw σ x) = o_fn σ := rfl
theorem o_gs_nc_fw (σ : oS) (x : Nat → Int32) : o_nc (o_s_fw σ x) = o_nc σ := rfl
theorem o_gs_fp_fw (σ : oS) (x : Nat → Int32) : o_fp (o_s_fw σ x) = o_fp σ := rfl
theorem o_gs_wt_fw (σ : oS) (x : Nat → Int32) : o_wt (o_s_fw σ x) = o_wt σ := rfl
theorem o_gs_st_fw (σ : oS) (x : Nat → Int32) : o_st (o_s_fw σ x) = o_st σ := rfl
theorem o_gs_md_fw (σ : oS) (x : Nat → Int32) : o_md (o_s_fw σ x) = o_md σ := rfl
theorem o_gs_lim_us (σ : oS) (x : Int32) : o_lim (o_s_us σ x) = o_lim σ := rfl
theorem o_gs_lw_us (σ : oS) (x : Int32) : o_lw (o_s_us σ x) = o_lw σ := rfl
theorem o_gs_fw_us (σ : oS) (x : Int32) : o_fw (o_s_us σ x) = o_fw σ := rfl
theorem o_gs_us_us (σ : oS) (x : Int32) : o_us (o_s_us σ x) = x := rfl
theorem o_gs_fr_us (σ : oS) (x : Int32) : o_fr (o_s_us σ x) = o_fr σ := rfl
theorem o_gs_ln_us (σ : oS) (x : Int32) : o_ln (o_s_us σ x) = o_ln σ := rfl
theorem o_gs_fn_us (σ : oS) (x : Int32) : o_fn (o_s_us σ x) = o_fn σ := rfl
theorem o_gs_nc_us (σ : oS) (x : Int32) : o_nc (o_s_us σ x) = o_nc σ := rfl
theorem o_gs_fp_us (σ : oS) (x : Int32) : o_fp (o_s_us σ x) = o_fp σ := rfl
theorem o_gs_wt_us (σ : oS) (x : Int32) : o_wt (o_s_us σ x) = o_wt σ := rfl
theorem o_gs_st_us (σ : oS) (x : Int32) : o_st (o_s_us σ x) = o_st σ := rfl
theorem o_gs_md_us (σ : oS) (x : Int32) : o_md (o_s_us σ x) = o_md σ := rfl
theorem o_gs_lim_fr (σ : oS) (x : Nat → Int32) : o_lim (o_s_fr σ x) = o_lim σ := rfl
theorem o_gs_lw_fr (σ : oS) (x : Nat → Int32) : o_lw (o_s_fr σ x) = o_lw σ := rfl
theorem o_gs_fw_fr (σ : oS) (x : Nat → Int32) : o_fw (o_s_fr σ x) = o_fw σ := rfl
theorem o_gs_us_fr (σ : oS) (x : Nat → Int32) : o_us (o_s_fr σ x) = o_us σ := rfl
theorem o_gs_fr_fr (σ : oS) (x : Nat → Int32) : o_fr (o_s_fr σ x) = x := rfl
theorem o_gs_ln_fr (σ : oS) (x : Nat → Int32) : o_ln (o_s_fr σ x) = o_ln σ := rfl
theorem o_gs_fn_fr (σ : oS) (x : Nat → Int32) : o_fn (o_s_fr σ x) = o_fn σ := rfl
theorem o_gs_nc_fr (σ : oS) (x : Nat → Int32) : o_nc (o_s_fr σ x) = o_nc σ := rfl
theorem o_gs_fp_fr (σ : oS) (x : Nat → Int32) : o_fp (o_s_fr σ x) = o_fp σ := rfl
theorem o_gs_wt_fr (σ : oS) (x : Nat → Int32) : o_wt (o_s_fr σ x) = o_wt σ := rfl
theorem o_gs_st_fr (σ : oS) (x : Nat → Int32) : o_st (o_s_fr σ x) = o_st σ := rfl
theorem o_gs_md_fr (σ : oS) (x : Nat → Int32) : o_md (o_s_fr σ x) = o_md σ := rfl
theorem o_gs_lim_ln (σ : oS) (x : Nat) : o_lim (o_s_ln σ x) = o_lim σ := rfl
theorem o_gs_lw_ln (σ : oS) (x : Nat) : o_lw (o_s_ln σ x) = o_lw σ := rfl
theorem o_gs_fw_ln (σ : oS) (x : Nat) : o_fw (o_s_ln σ x) = o_fw σ := rfl
theorem o_gs_us_ln (σ : oS) (x : Nat) : o_us (o_s_ln σ x) = o_us σ := rfl
theorem o_gs_fr_ln (σ : oS) (x : Nat) : o_fr (o_s_ln σ x) = o_fr σ := rfl
theorem o_gs_ln_ln (σ : oS) (x : Nat) : o_ln (o_s_ln σ x) = x := rfl
theorem o_gs_fn_ln (σ : oS) (x : Nat) : o_fn (o_s_ln σ x) = o_fn σ := rfl
theorem o_gs_nc_ln (σ : oS) (x : Nat) : o_nc (o_s_ln σ x) = o_nc σ := rfl
theorem o_gs_fp_ln (σ : oS) (x : Nat) : o_fp (o_s_ln σ x) = o_fp σ := rfl
theorem o_gs_wt_ln (σ : oS) (x : Nat) : o_wt (o_s_ln σ x) = o_wt σ := rfl
theorem o_gs_st_ln (σ : oS) (x : Nat) : o_st (o_s_ln σ x) = o_st σ := rfl
theorem o_gs_md_ln (σ : oS) (x : Nat) : o_md (o_s_ln σ x) = o_md σ := rfl
theorem o_gs_lim_fn (σ : oS) (x : Nat → Int32) : o_lim (o_s_fn σ x) = o_lim σ := rfl
theorem o_gs_lw_fn (σ : oS) (x : Nat → Int32) : o_lw (o_s_fn σ x) = o_lw σ := rfl
theorem o_gs_fw_fn (σ : oS) (x : Nat → Int32) : o_fw (o_s_fn σ x) = o_fw σ := rfl
theorem o_gs_us_fn (σ : oS) (x : Nat → Int32) : o_us (o_s_fn σ x) = o_us σ := rfl
theorem o_gs_fr_fn (σ : oS) (x : Nat → Int32) : o_fr (o_s_fn σ x) = o_fr σ := rfl
theorem o_gs_ln_fn (σ : oS) (x : Nat → Int32) : o_ln (o_s_fn σ x) = o_ln σ := rfl
theorem o_gs_fn_fn (σ : oS) (x : Nat → Int32) : o_fn (o_s_fn σ x) = x := rfl
theorem o_gs_nc_fn (σ : oS) (x : Nat → Int32) : o_nc (o_s_fn σ x) = o_nc σ := rfl
theorem o_gs_fp_fn (σ : oS) (x : Nat → Int32) : o_fp (o_s_fn σ x) = o_fp σ := rfl
theorem o_gs_wt_fn (σ : oS) (x : Nat → Int32) : o_wt (o_s_fn σ x) = o_wt σ := rfl
theorem o_gs_st_fn (σ : oS) (x : Nat → Int32) : o_st (o_s_fn σ x) = o_st σ := rfl
theorem o_gs_md_fn (σ : oS) (x : Nat → Int32) : o_md (o_s_fn σ x) = o_md σ := rfl
theorem o_gs_lim_nc (σ : oS) (x : Int32) : o_lim (o_s_nc σ x) = o_lim σ := rfl
theorem o_gs_lw_nc (σ : oS) (x : Int32) : o_lw (o_s_nc σ x) = o_lw σ := rfl
theorem o_gs_fw_nc (σ : oS) (x : Int32) : o_fw (o_s_nc σ x) = o_fw σ := rfl
theorem o_gs_us_nc (σ : oS) (x : Int32) : o_us (o_s_nc σ x) = o_us σ := rfl
theorem o_gs_fr_nc (σ : oS) (x : Int32) : o_fr (o_s_nc σ x) = o_fr σ := rfl
theorem o_gs_ln_nc (σ : oS) (x : Int32) : o_ln (o_s_nc σ x) = o_ln σ := rfl
theorem o_gs_fn_nc (σ : oS) (x : Int32) : o_fn (o_s_nc σ x) = o_fn σ := rfl
theorem o_gs_nc_nc (σ : oS) (x : Int32) : o_nc (o_s_nc σ x) = x := rfl
theorem o_gs_fp_nc (σ : oS) (x : Int32) : o_fp (o_s_nc σ x) = o_fp σ := rfl
theorem o_gs_wt_nc (σ : oS) (x : Int32) : o_wt (o_s_nc σ x) = o_wt σ := rfl
theorem o_gs_st_nc (σ : oS) (x : Int32) : o_st (o_s_nc σ x) = o_st σ := rfl
theorem o_gs_md_nc (σ : oS) (x : Int32) : o_md (o_s_nc σ x) = o_md σ := rfl
theorem o_gs_lim_fp (σ : oS) (x : Nat → Int32) : o_lim (o_s_fp σ x) = o_lim σ := rfl
theorem o_gs_lw_fp (σ : oS) (x : Nat → Int32) : o_lw (o_s_fp σ x) = o_lw σ := rfl
theorem o_gs_fw_fp (σ : oS) (x : Nat → Int32) : o_fw (o_s_fp σ x) = o_fw σ := rfl
theorem o_gs_us_fp (σ : oS) (x : Nat → Int32) : o_us (o_s_fp σ x) = o_us σ := rfl
theorem o_gs_fr_fp (σ : oS) (x : Nat → Int32) : o_fr (o_s_fp σ x) = o_fr σ := rfl
theorem o_gs_ln_fp (σ : oS) (x : Nat → Int32) : o_ln (o_s_fp σ x) = o_ln σ := rfl
theorem o_gs_fn_fp (σ : oS) (x : Nat → Int32) : o_fn (o_s_fp σ x) = o_fn σ := rfl
theorem o_gs_nc_fp (σ : oS) (x : Nat → Int32) : o_nc (o_s_fp σ x) = o_nc σ := rfl
theorem o_gs_fp_fp (σ : oS) (x : Nat → Int32) : o_fp (o_s_fp σ x) = x := rfl
theorem o_gs_wt_fp (σ : oS) (x : Nat → Int32) : o_wt (o_s_fp σ x) = o_wt σ := rfl
theorem o_gs_st_fp (σ : oS) (x : Nat → Int32) : o_st (o_s_fp σ x) = o_st σ := rfl
theorem o_gs_md_fp (σ : oS) (x : Nat → Int32) : o_md (o_s_fp σ x) = o_md σ := rfl
theorem o_gs_lim_wt (σ : oS) (x : Int32) : o_lim (o_s_wt σ x) = o_lim σ := rfl
theorem o_gs_lw_wt (σ : oS) (x : Int32) : o_lw (o_s_wt σ x) = o_lw σ := rfl
theorem o_gs_fw_wt (σ : oS) (x : Int32) : o_fw (o_s_wt σ x) = o_fw σ := rfl
theorem o_gs_us_wt (σ : oS) (x : Int32) : o_us (o_s_wt σ x) = o_us σ := rfl
theorem o_gs_fr_wt (σ : oS) (x : Int32) : o_fr (o_s_wt σ x) = o_fr σ := rfl
theorem o_gs_ln_wt (σ : oS) (x : Int32) : o_ln (o_s_wt σ x) = o_ln σ := rfl
theorem o_gs_fn_wt (σ : oS) (x : Int32) : o_fn (o_s_wt σ x) = o_fn σ := rfl
theorem o_gs_nc_wt (σ : oS) (x : Int32) : o_nc (o_s_wt σ x) = o_nc σ := rfl
theorem o_gs_fp_wt (σ : oS) (x : Int32) : o_fp (o_s_wt σ x) = o_fp σ := rfl
theorem o_gs_wt_wt (σ : oS) (x : Int32) : o_wt (o_s_wt σ x) = x := rfl
theorem o_gs_st_wt (σ : oS) (x : Int32) : o_st (o_s_wt σ x) = o_st σ := rfl
theorem o_gs_md_wt (σ : oS) (x : Int32) : o_md (o_s_wt σ x) = o_md σ := rfl
theorem o_gs_lim_st (σ : oS) (x : Int32) : o_lim (o_s_st σ x) = o_lim σ := rfl
theorem o_gs_lw_st (σ : oS) (x : Int32) : o_lw (o_s_st σ x) = o_lw σ := rfl
theorem o_gs_fw_st (σ : oS) (x : Int32) : o_fw (o_s_st σ x) = o_fw σ := rfl
theorem o_gs_us_st (σ : oS) (x : Int32) : o_us (o_s_st σ x) = o_us σ := rfl
theorem o_gs_fr_st (σ : oS) (x : Int32) : o_fr (o_s_st σ x) = o_fr σ := rfl
theorem o_gs_ln_st (σ : oS) (x : Int32) : o_ln (o_s_st σ x) = o_ln σ := rfl
theorem o_gs_fn_st (σ : oS) (x : Int32) : o_fn (o_s_st σ x) = o_fn σ := rfl
theorem o_gs_nc_st (σ : oS) (x : Int32) : o_nc (o_s_st σ x) = o_nc σ := rfl
theorem o_gs_fp_st (σ : oS) (x : Int32) : o_fp (o_s_st σ x) = o_fp σ := rfl
theorem o_gs_wt_st (σ : oS) (x : Int32) : o_wt (o_s_st σ x) = o_wt σ := rfl
theorem o_gs_st_st (σ : oS) (x : Int32) : o_st (o_s_st σ x) = x := rfl
theorem o_gs_md_st (σ : oS) (x : Int32) : o_md (o_s_st σ x) = o_md σ := rfl
theorem o_gs_lim_md (σ : oS) (x : Int32) : o_lim (o_s_md σ x) = o_lim σ := rfl
theorem o_gs_lw_md (σ : oS) (x : Int32) : o_lw (o_s_md σ x) = o_lw σ := rfl
theorem o_gs_fw_md (σ : oS) (x : Int32) : o_fw (o_s_md σ x) = o_fw σ := rfl
theorem o_gs_us_md (σ : oS) (x : Int32) : o_us (o_s_md σ x) = o_us σ := rfl
theorem o_gs_fr_md (σ : oS) (x : Int32) : o_fr (o_s_md σ x) = o_fr σ := rfl
theorem o_gs_ln_md (σ : oS) (x : Int32) : o_ln (o_s_md σ x) = o_ln σ := rfl
theorem o_gs_fn_md (σ : oS) (x : Int32) : o_fn (o_s_md σ x) = o_fn σ := rfl
theorem o_gs_nc_md (σ : oS) (x : Int32) : o_nc (o_s_md σ x) = o_nc σ := rfl
theorem o_gs_fp_md (σ : oS) (x : Int32) : o_fp (o_s_md σ x) = o_fp σ := rfl
theorem o_gs_wt_md (σ : oS) (x : Int32) : o_wt (o_s_md σ x) = o_wt σ := rfl
theorem o_gs_st_md (σ : oS) (x : Int32) : o_st (o_s_md σ x) = o_st σ := rfl
theorem o_gs_md_md (σ : oS) (x : Int32) : o_md (o_s_md σ x) = x := rfl
abbrev oH : Type := Nat × Nat × Nat × Nat
def ow (G : gT) (h0 : Nat) (h : oH) (σ : oS) : va_W := [(h0, .inr (2, [.int (o_lim σ), .ref h.1, .int (o_us σ), .ref h.2.1, .ref h.2.2.1, .int (o_nc σ), .ref h.2.2.2, .int (o_wt σ), .int (o_st σ), .int (o_md σ)])), (h.1, .inl (G.2.1, o_lw σ, .inl (o_fw σ))), (h.2.1, .inl (G.2.1, 24, .inl (o_fr σ))), (h.2.2.1, .inl (G.2.1, o_ln σ, .inl (o_fn σ))), (h.2.2.2, .inl (G.2.1, 4000, .inl (o_fp σ)))]
/-- the world at a heap, where it lies, what was changed since the method began -/
def oI (s : State) (A : Nat → Prop) (G : gT) (h0 : Nat) (h : oH) (σ : oS) (H : Heap) (locs : List Loc) : Prop := va_P G.1 vwCl (ow G h0 h σ) H ∧ va_D A (ow G h0 h σ) ∧ va_S A s.heap H locs
def oAt (G : gT) (A : Nat → Prop) (h0 : Nat) (h : oH) (σ : oS) (t : State) : Prop := va_P G.1 vwCl (ow G h0 h σ) t.heap ∧ gK G t ∧ va_D A (ow G h0 h σ)
def oPre (G : gT) (h0 : Nat) (h : oH) (σ : oS) (sz : Nat) (av : List Value) : Array Value → State → Prop := va_Pc (.ref h0 :: av) (fun U => U.heap.size = sz ∧ va_P G.1 vwCl (ow G h0 h σ) U.heap ∧ gK G U ∧ va_D (fun _ => True) (ow G h0 h σ))
def oA (G : gT) (h0 : Nat) (h : oH) (σ : oS) (sz : Nat) : Nat → Prop := va_A (ow G h0 h σ) sz
section OW
variable {p : Program} {l : Launch} {e : Env} {R : Room} {s : State} {m : MethodId} {args : Array Value} {below : List Frame} {meth : Method} {c : Code} {H : Heap} {locs : List Loc} {cells slots : Nat} {Q : State → Prop}
variable {cc : ByteArray} {pc : Nat} {ls : Array Slot} {rest : List Value} {A : Nat → Prop} {G : gT} {h0 : Nat} {nL : Nat} {Ts : List Cond}
variable {h : oH} {σ : oS}
theorem og_limit (S : CallFix p m c cc nL s args Ts RX0) (hin : ∀ w ∈ wsX00, w ∈ Ts) (hK : gK G s) (hI : oI s A G h0 h σ H locs) {ix : Nat} (hm : Cond.fieldLink RX0 ix "OwnMemory" "limit" "I" ∈ Ts) (hdg : decode cc pc = .ok (.getfield ix, 3)) (kk : W p l e R s m args below meth c H locs cells slots Q (F0 m (pc + 3) ls (.int (o_lim σ) :: rest))) : W p l e R s m args below meth c H locs cells slots Q (F0 m pc ls (.ref h0 :: rest)) :=
  va_get (D := G.1) (ci := 2) (v := .int (o_lim σ)) (C := RX0) (T := TX0) (N := 10) S.1 S.2.1 S.2.2.2.2 hin S.2.2.2.1 hK hI.1 0 rfl rfl 0 (by decide) (S.2.2.2.2 _ hm) (fun _ h9 => h9) rfl hdg kk
theorem og_words (S : CallFix p m c cc nL s args Ts RX0) (hin : ∀ w ∈ wsX00, w ∈ Ts) (hK : gK G s) (hI : oI s A G h0 h σ H locs) {ix : Nat} (hm : Cond.fieldLink RX0 ix "OwnMemory" "words" "[I" ∈ Ts) (hdg : decode cc pc = .ok (.getfield ix, 3)) (kk : W p l e R s m args below meth c H locs cells slots Q (F0 m (pc + 3) ls (.ref h.1 :: rest))) : W p l e R s m args below meth c H locs cells slots Q (F0 m pc ls (.ref h0 :: rest)) :=
  va_get (D := G.1) (ci := 2) (v := .ref h.1) (C := RX0) (T := TX0) (N := 10) S.1 S.2.1 S.2.2.2.2 hin S.2.2.2.1 hK hI.1 0 rfl rfl 1 (by decide) (S.2.2.2.2 _ hm) (fun _ h9 => h9) rfl hdg kk
theorem og_used (S : CallFix p m c cc nL s args Ts RX0) (hin : ∀ w ∈ wsX00, w ∈ Ts) (hK : gK G s) (hI : oI s A G h0 h σ H locs) {ix : Nat} (hm : Cond.fieldLink RX0 ix "OwnMemory" "used" "I" ∈ Ts) (hdg : decode cc pc = .ok (.getfield ix, 3)) (kk : W p l e R s m args below meth c H locs cells slots Q (F0 m (pc + 3) ls (.int (o_us σ) :: rest))) : W p l e R s m args below meth c H locs cells slots Q (F0 m pc ls (.ref h0 :: rest)) :=
  va_get (D := G.1) (ci := 2) (v := .int (o_us σ)) (C := RX0) (T := TX0) (N := 10) S.1 S.2.1 S.2.2.2.2 hin S.2.2.2.1 hK hI.1 0 rfl rfl 2 (by decide) (S.2.2.2.2 _ hm) (fun _ h9 => h9) rfl hdg kk
theorem op_used (S : CallFix p m c cc nL s args Ts RX0) (hin : ∀ w ∈ wsX00, w ∈ Ts) (hK : gK G s) (hI : oI s A G h0 h σ H locs) {ix : Nat} {x : Int32} {σ1 : oS} (hm : Cond.fieldLink RX0 ix "OwnMemory" "used" "I" ∈ Ts) (h1 : σ1 = o_s_us σ x) (hdg : decode cc pc = .ok (.putfield ix, 3)) (kk : ∀ (H1 : Heap) (locs1 : List Loc), oI s A G h0 h σ1 H1 locs1 → W p l e R s m args below meth c H1 locs1 cells slots Q (F0 m (pc + 3) ls rest)) : W p l e R s m args below meth c H locs cells slots Q (F0 m pc ls (.int x :: .ref h0 :: rest)) := by
  subst h1
  exact va_put (D := G.1) (ci := 2) (v := .int x) (ty := .int) (C := RX0) (T := TX0) (N := 10) S.1 S.2.1 S.2.2.2.2 hin tyX0 tyX0_ok nmX0 S.2.2.2.1 hK hI.1 hI.2.1 hI.2.2 0 rfl rfl 2 (by decide) (S.2.2.2.2 _ hm) (fun _ h9 => h9) rfl (by decide +kernel) rfl rfl (Nat.le_of_ble_eq_true rfl) hdg (fun H locs hP hD hS => kk H locs ⟨hP, hD, hS⟩)
theorem og_roots (S : CallFix p m c cc nL s args Ts RX0) (hin : ∀ w ∈ wsX00, w ∈ Ts) (hK : gK G s) (hI : oI s A G h0 h σ H locs) {ix : Nat} (hm : Cond.fieldLink RX0 ix "OwnMemory" "roots" "[I" ∈ Ts) (hdg : decode cc pc = .ok (.getfield ix, 3)) (kk : W p l e R s m args below meth c H locs cells slots Q (F0 m (pc + 3) ls (.ref h.2.1 :: rest))) : W p l e R s m args below meth c H locs cells slots Q (F0 m pc ls (.ref h0 :: rest)) :=
  va_get (D := G.1) (ci := 2) (v := .ref h.2.1) (C := RX0) (T := TX0) (N := 10) S.1 S.2.1 S.2.2.2.2 hin S.2.2.2.1 hK hI.1 0 rfl rfl 3 (by decide) (S.2.2.2.2 _ hm) (fun _ h9 => h9) rfl hdg kk
theorem og_names (S : CallFix p m c cc nL s args Ts RX0) (hin : ∀ w ∈ wsX00, w ∈ Ts) (hK : gK G s) (hI : oI s A G h0 h σ H locs) {ix : Nat} (hm : Cond.fieldLink RX0 ix "OwnMemory" "names" "[I" ∈ Ts) (hdg : decode cc pc = .ok (.getfield ix, 3)) (kk : W p l e R s m args below meth c H locs cells slots Q (F0 m (pc + 3) ls (.ref h.2.2.1 :: rest))) : W p l e R s m args below meth c H locs cells slots Q (F0 m pc ls (.ref h0 :: rest)) :=
  va_get (D := G.1) (ci := 2) (v := .ref h.2.2.1) (C := RX0) (T := TX0) (N := 10) S.1 S.2.1 S.2.2.2.2 hin S.2.2.2.1 hK hI.1 0 rfl rfl 4 (by decide) (S.2.2.2.2 _ hm) (fun _ h9 => h9) rfl hdg kk
theorem og_nameCount (S : CallFix p m c cc nL s args Ts RX0) (hin : ∀ w ∈ wsX00, w ∈ Ts) (hK : gK G s) (hI : oI s A G h0 h σ H locs) {ix : Nat} (hm : Cond.fieldLink RX0 ix "OwnMemory" "nameCount" "I" ∈ Ts) (hdg : decode cc pc = .ok (.getfield ix, 3)) (kk : W p l e R s m args below meth c H locs cells slots Q (F0 m (pc + 3) ls (.int (o_nc σ) :: rest))) : W p l e R s m args below meth c H locs cells slots Q (F0 m pc ls (.ref h0 :: rest)) :=
  va_get (D := G.1) (ci := 2) (v := .int (o_nc σ)) (C := RX0) (T := TX0) (N := 10) S.1 S.2.1 S.2.2.2.2 hin S.2.2.2.1 hK hI.1 0 rfl rfl 5 (by decide) (S.2.2.2.2 _ hm) (fun _ h9 => h9) rfl hdg kk
theorem op_nameCount (S : CallFix p m c cc nL s args Ts RX0) (hin : ∀ w ∈ wsX00, w ∈ Ts) (hK : gK G s) (hI : oI s A G h0 h σ H locs) {ix : Nat} {x : Int32} {σ1 : oS} (hm : Cond.fieldLink RX0 ix "OwnMemory" "nameCount" "I" ∈ Ts) (h1 : σ1 = o_s_nc σ x) (hdg : decode cc pc = .ok (.putfield ix, 3)) (kk : ∀ (H1 : Heap) (locs1 : List Loc), oI s A G h0 h σ1 H1 locs1 → W p l e R s m args below meth c H1 locs1 cells slots Q (F0 m (pc + 3) ls rest)) : W p l e R s m args below meth c H locs cells slots Q (F0 m pc ls (.int x :: .ref h0 :: rest)) := by
  subst h1
  exact va_put (D := G.1) (ci := 2) (v := .int x) (ty := .int) (C := RX0) (T := TX0) (N := 10) S.1 S.2.1 S.2.2.2.2 hin tyX0 tyX0_ok nmX0 S.2.2.2.1 hK hI.1 hI.2.1 hI.2.2 0 rfl rfl 5 (by decide) (S.2.2.2.2 _ hm) (fun _ h9 => h9) rfl (by decide +kernel) rfl rfl (Nat.le_of_ble_eq_true rfl) hdg (fun H locs hP hD hS => kk H locs ⟨hP, hD, hS⟩)
theorem og_pending (S : CallFix p m c cc nL s args Ts RX0) (hin : ∀ w ∈ wsX00, w ∈ Ts) (hK : gK G s) (hI : oI s A G h0 h σ H locs) {ix : Nat} (hm : Cond.fieldLink RX0 ix "OwnMemory" "pending" "[I" ∈ Ts) (hdg : decode cc pc = .ok (.getfield ix, 3)) (kk : W p l e R s m args below meth c H locs cells slots Q (F0 m (pc + 3) ls (.ref h.2.2.2 :: rest))) : W p l e R s m args below meth c H locs cells slots Q (F0 m pc ls (.ref h0 :: rest)) :=
  va_get (D := G.1) (ci := 2) (v := .ref h.2.2.2) (C := RX0) (T := TX0) (N := 10) S.1 S.2.1 S.2.2.2.2 hin S.2.2.2.1 hK hI.1 0 rfl rfl 6 (by decide) (S.2.2.2.2 _ hm) (fun _ h9 => h9) rfl hdg kk
theorem og_waiting (S : CallFix p m c cc nL s args Ts RX0) (hin : ∀ w ∈ wsX00, w ∈ Ts) (hK : gK G s) (hI : oI s A G h0 h σ H locs) {ix : Nat} (hm : Cond.fieldLink RX0 ix "OwnMemory" "waiting" "I" ∈ Ts) (hdg : decode cc pc = .ok (.getfield ix, 3)) (kk : W p l e R s m args below meth c H locs cells slots Q (F0 m (pc + 3) ls (.int (o_wt σ) :: rest))) : W p l e R s m args below meth c H locs cells slots Q (F0 m pc ls (.ref h0 :: rest)) :=
  va_get (D := G.1) (ci := 2) (v := .int (o_wt σ)) (C := RX0) (T := TX0) (N := 10) S.1 S.2.1 S.2.2.2.2 hin S.2.2.2.1 hK hI.1 0 rfl rfl 7 (by decide) (S.2.2.2.2 _ hm) (fun _ h9 => h9) rfl hdg kk
theorem op_waiting (S : CallFix p m c cc nL s args Ts RX0) (hin : ∀ w ∈ wsX00, w ∈ Ts) (hK : gK G s) (hI : oI s A G h0 h σ H locs) {ix : Nat} {x : Int32} {σ1 : oS} (hm : Cond.fieldLink RX0 ix "OwnMemory" "waiting" "I" ∈ Ts) (h1 : σ1 = o_s_wt σ x) (hdg : decode cc pc = .ok (.putfield ix, 3)) (kk : ∀ (H1 : Heap) (locs1 : List Loc), oI s A G h0 h σ1 H1 locs1 → W p l e R s m args below meth c H1 locs1 cells slots Q (F0 m (pc + 3) ls rest)) : W p l e R s m args below meth c H locs cells slots Q (F0 m pc ls (.int x :: .ref h0 :: rest)) := by
  subst h1
  exact va_put (D := G.1) (ci := 2) (v := .int x) (ty := .int) (C := RX0) (T := TX0) (N := 10) S.1 S.2.1 S.2.2.2.2 hin tyX0 tyX0_ok nmX0 S.2.2.2.1 hK hI.1 hI.2.1 hI.2.2 0 rfl rfl 7 (by decide) (S.2.2.2.2 _ hm) (fun _ h9 => h9) rfl (by decide +kernel) rfl rfl (Nat.le_of_ble_eq_true rfl) hdg (fun H locs hP hD hS => kk H locs ⟨hP, hD, hS⟩)
theorem og_stressEvery (S : CallFix p m c cc nL s args Ts RX0) (hin : ∀ w ∈ wsX00, w ∈ Ts) (hK : gK G s) (hI : oI s A G h0 h σ H locs) {ix : Nat} (hm : Cond.fieldLink RX0 ix "OwnMemory" "stressEvery" "I" ∈ Ts) (hdg : decode cc pc = .ok (.getfield ix, 3)) (kk : W p l e R s m args below meth c H locs cells slots Q (F0 m (pc + 3) ls (.int (o_st σ) :: rest))) : W p l e R s m args below meth c H locs cells slots Q (F0 m pc ls (.ref h0 :: rest)) :=
  va_get (D := G.1) (ci := 2) (v := .int (o_st σ)) (C := RX0) (T := TX0) (N := 10) S.1 S.2.1 S.2.2.2.2 hin S.2.2.2.1 hK hI.1 0 rfl rfl 8 (by decide) (S.2.2.2.2 _ hm) (fun _ h9 => h9) rfl hdg kk
theorem op_stressEvery (S : CallFix p m c cc nL s args Ts RX0) (hin : ∀ w ∈ wsX00, w ∈ Ts) (hK : gK G s) (hI : oI s A G h0 h σ H locs) {ix : Nat} {x : Int32} {σ1 : oS} (hm : Cond.fieldLink RX0 ix "OwnMemory" "stressEvery" "I" ∈ Ts) (h1 : σ1 = o_s_st σ x) (hdg : decode cc pc = .ok (.putfield ix, 3)) (kk : ∀ (H1 : Heap) (locs1 : List Loc), oI s A G h0 h σ1 H1 locs1 → W p l e R s m args below meth c H1 locs1 cells slots Q (F0 m (pc + 3) ls rest)) : W p l e R s m args below meth c H locs cells slots Q (F0 m pc ls (.int x :: .ref h0 :: rest)) := by
  subst h1
  exact va_put (D := G.1) (ci := 2) (v := .int x) (ty := .int) (C := RX0) (T := TX0) (N := 10) S.1 S.2.1 S.2.2.2.2 hin tyX0 tyX0_ok nmX0 S.2.2.2.1 hK hI.1 hI.2.1 hI.2.2 0 rfl rfl 8 (by decide) (S.2.2.2.2 _ hm) (fun _ h9 => h9) rfl (by decide +kernel) rfl rfl (Nat.le_of_ble_eq_true rfl) hdg (fun H locs hP hD hS => kk H locs ⟨hP, hD, hS⟩)
theorem og_made (S : CallFix p m c cc nL s args Ts RX0) (hin : ∀ w ∈ wsX00, w ∈ Ts) (hK : gK G s) (hI : oI s A G h0 h σ H locs) {ix : Nat} (hm : Cond.fieldLink RX0 ix "OwnMemory" "made" "I" ∈ Ts) (hdg : decode cc pc = .ok (.getfield ix, 3)) (kk : W p l e R s m args below meth c H locs cells slots Q (F0 m (pc + 3) ls (.int (o_md σ) :: rest))) : W p l e R s m args below meth c H locs cells slots Q (F0 m pc ls (.ref h0 :: rest)) :=
  va_get (D := G.1) (ci := 2) (v := .int (o_md σ)) (C := RX0) (T := TX0) (N := 10) S.1 S.2.1 S.2.2.2.2 hin S.2.2.2.1 hK hI.1 0 rfl rfl 9 (by decide) (S.2.2.2.2 _ hm) (fun _ h9 => h9) rfl hdg kk
theorem op_made (S : CallFix p m c cc nL s args Ts RX0) (hin : ∀ w ∈ wsX00, w ∈ Ts) (hK : gK G s) (hI : oI s A G h0 h σ H locs) {ix : Nat} {x : Int32} {σ1 : oS} (hm : Cond.fieldLink RX0 ix "OwnMemory" "made" "I" ∈ Ts) (h1 : σ1 = o_s_md σ x) (hdg : decode cc pc = .ok (.putfield ix, 3)) (kk : ∀ (H1 : Heap) (locs1 : List Loc), oI s A G h0 h σ1 H1 locs1 → W p l e R s m args below meth c H1 locs1 cells slots Q (F0 m (pc + 3) ls rest)) : W p l e R s m args below meth c H locs cells slots Q (F0 m pc ls (.int x :: .ref h0 :: rest)) := by
  subst h1
  exact va_put (D := G.1) (ci := 2) (v := .int x) (ty := .int) (C := RX0) (T := TX0) (N := 10) S.1 S.2.1 S.2.2.2.2 hin tyX0 tyX0_ok nmX0 S.2.2.2.1 hK hI.1 hI.2.1 hI.2.2 0 rfl rfl 9 (by decide) (S.2.2.2.2 _ hm) (fun _ h9 => h9) rfl (by decide +kernel) rfl rfl (Nat.le_of_ble_eq_true rfl) hdg (fun H locs hP hD hS => kk H locs ⟨hP, hD, hS⟩)
theorem or_words (S : CallFix p m c cc nL s args Ts RX0) (hK : gK G s) (hI : oI s A G h0 h σ H locs) {i x : Int32} (hi : vp_in i (o_lw σ)) (h1 : x = o_fw σ i.toNatClampNeg) (hdg : decode cc pc = .ok (.iaload, 1)) (kk : W p l e R s m args below meth c H locs cells slots Q (F0 m (pc + 1) ls (.int x :: rest))) : W p l e R s m args below meth c H locs cells slots Q (F0 m pc ls (.int i :: .ref h.1 :: rest)) := by
  subst h1
  exact va_iald (f := o_fw σ) S.1 S.2.1 hK hI.1 1 0 rfl rfl hi hdg kk
theorem ou_words (S : CallFix p m c cc nL s args Ts RX0) (hK : gK G s) (hI : oI s A G h0 h σ H locs) {i x : Int32} {σ1 : oS} (hi : vp_in i (o_lw σ)) (h1 : σ1 = o_s_fw σ (upd (o_fw σ) i.toNatClampNeg x)) (hdg : decode cc pc = .ok (.iastore, 1)) (kk : ∀ (H1 : Heap) (locs1 : List Loc), oI s A G h0 h σ1 H1 locs1 → W p l e R s m args below meth c H1 locs1 cells slots Q (F0 m (pc + 1) ls rest)) : W p l e R s m args below meth c H locs cells slots Q (F0 m pc ls (.int x :: .int i :: .ref h.1 :: rest)) := by
  subst h1
  exact va_iast (f := o_fw σ) S.1 S.2.1 hK hI.1 hI.2.1 hI.2.2 1 0 rfl rfl hi hdg (fun H locs hP hD hS => kk H locs ⟨hP, hD, hS⟩)
theorem ol_words (S : CallFix p m c cc nL s args Ts RX0) (hK : gK G s) (hI : oI s A G h0 h σ H locs) (hdg : decode cc pc = .ok (.arraylength, 1)) (kk : W p l e R s m args below meth c H locs cells slots Q (F0 m (pc + 1) ls (.int (nI (o_lw σ)) :: rest))) : W p l e R s m args below meth c H locs cells slots Q (F0 m pc ls (.ref h.1 :: rest)) :=
  va_alen S.1 S.2.1 hK hI.1 1 0 rfl rfl rfl hdg kk
theorem or_roots (S : CallFix p m c cc nL s args Ts RX0) (hK : gK G s) (hI : oI s A G h0 h σ H locs) {i x : Int32} (hi : vp_in i (24)) (h1 : x = o_fr σ i.toNatClampNeg) (hdg : decode cc pc = .ok (.iaload, 1)) (kk : W p l e R s m args below meth c H locs cells slots Q (F0 m (pc + 1) ls (.int x :: rest))) : W p l e R s m args below meth c H locs cells slots Q (F0 m pc ls (.int i :: .ref h.2.1 :: rest)) := by
  subst h1
  exact va_iald (f := o_fr σ) S.1 S.2.1 hK hI.1 2 0 rfl rfl hi hdg kk
theorem ou_roots (S : CallFix p m c cc nL s args Ts RX0) (hK : gK G s) (hI : oI s A G h0 h σ H locs) {i x : Int32} {σ1 : oS} (hi : vp_in i (24)) (h1 : σ1 = o_s_fr σ (upd (o_fr σ) i.toNatClampNeg x)) (hdg : decode cc pc = .ok (.iastore, 1)) (kk : ∀ (H1 : Heap) (locs1 : List Loc), oI s A G h0 h σ1 H1 locs1 → W p l e R s m args below meth c H1 locs1 cells slots Q (F0 m (pc + 1) ls rest)) : W p l e R s m args below meth c H locs cells slots Q (F0 m pc ls (.int x :: .int i :: .ref h.2.1 :: rest)) := by
  subst h1
  exact va_iast (f := o_fr σ) S.1 S.2.1 hK hI.1 hI.2.1 hI.2.2 2 0 rfl rfl hi hdg (fun H locs hP hD hS => kk H locs ⟨hP, hD, hS⟩)
theorem ol_roots (S : CallFix p m c cc nL s args Ts RX0) (hK : gK G s) (hI : oI s A G h0 h σ H locs) (hdg : decode cc pc = .ok (.arraylength, 1)) (kk : W p l e R s m args below meth c H locs cells slots Q (F0 m (pc + 1) ls (.int (nI (24)) :: rest))) : W p l e R s m args below meth c H locs cells slots Q (F0 m pc ls (.ref h.2.1 :: rest)) :=
  va_alen S.1 S.2.1 hK hI.1 2 0 rfl rfl rfl hdg kk
theorem or_names (S : CallFix p m c cc nL s args Ts RX0) (hK : gK G s) (hI : oI s A G h0 h σ H locs) {i x : Int32} (hi : vp_in i (o_ln σ)) (h1 : x = o_fn σ i.toNatClampNeg) (hdg : decode cc pc = .ok (.iaload, 1)) (kk : W p l e R s m args below meth c H locs cells slots Q (F0 m (pc + 1) ls (.int x :: rest))) : W p l e R s m args below meth c H locs cells slots Q (F0 m pc ls (.int i :: .ref h.2.2.1 :: rest)) := by
  subst h1
  exact va_iald (f := o_fn σ) S.1 S.2.1 hK hI.1 3 0 rfl rfl hi hdg kk
theorem ou_names (S : CallFix p m c cc nL s args Ts RX0) (hK : gK G s) (hI : oI s A G h0 h σ H locs) {i x : Int32} {σ1 : oS} (hi : vp_in i (o_ln σ)) (h1 : σ1 = o_s_fn σ (upd (o_fn σ) i.toNatClampNeg x)) (hdg : decode cc pc = .ok (.iastore, 1)) (kk : ∀ (H1 : Heap) (locs1 : List Loc), oI s A G h0 h σ1 H1 locs1 → W p l e R s m args below meth c H1 locs1 cells slots Q (F0 m (pc + 1) ls rest)) : W p l e R s m args below meth c H locs cells slots Q (F0 m pc ls (.int x :: .int i :: .ref h.2.2.1 :: rest)) := by
  subst h1
  exact va_iast (f := o_fn σ) S.1 S.2.1 hK hI.1 hI.2.1 hI.2.2 3 0 rfl rfl hi hdg (fun H locs hP hD hS => kk H locs ⟨hP, hD, hS⟩)
theorem ol_names (S : CallFix p m c cc nL s args Ts RX0) (hK : gK G s) (hI : oI s A G h0 h σ H locs) (hdg : decode cc pc = .ok (.arraylength, 1)) (kk : W p l e R s m args below meth c H locs cells slots Q (F0 m (pc + 1) ls (.int (nI (o_ln σ)) :: rest))) : W p l e R s m args below meth c H locs cells slots Q (F0 m pc ls (.ref h.2.2.1 :: rest)) :=
  va_alen S.1 S.2.1 hK hI.1 3 0 rfl rfl rfl hdg kk
theorem or_pending (S : CallFix p m c cc nL s args Ts RX0) (hK : gK G s) (hI : oI s A G h0 h σ H locs) {i x : Int32} (hi : vp_in i (4000)) (h1 : x = o_fp σ i.toNatClampNeg) (hdg : decode cc pc = .ok (.iaload, 1)) (kk : W p l e R s m args below meth c H locs cells slots Q (F0 m (pc + 1) ls (.int x :: rest))) : W p l e R s m args below meth c H locs cells slots Q (F0 m pc ls (.int i :: .ref h.2.2.2 :: rest)) := by
  subst h1
  exact va_iald (f := o_fp σ) S.1 S.2.1 hK hI.1 4 0 rfl rfl hi hdg kk
theorem ou_pending (S : CallFix p m c cc nL s args Ts RX0) (hK : gK G s) (hI : oI s A G h0 h σ H locs) {i x : Int32} {σ1 : oS} (hi : vp_in i (4000)) (h1 : σ1 = o_s_fp σ (upd (o_fp σ) i.toNatClampNeg x)) (hdg : decode cc pc = .ok (.iastore, 1)) (kk : ∀ (H1 : Heap) (locs1 : List Loc), oI s A G h0 h σ1 H1 locs1 → W p l e R s m args below meth c H1 locs1 cells slots Q (F0 m (pc + 1) ls rest)) : W p l e R s m args below meth c H locs cells slots Q (F0 m pc ls (.int x :: .int i :: .ref h.2.2.2 :: rest)) := by
  subst h1
  exact va_iast (f := o_fp σ) S.1 S.2.1 hK hI.1 hI.2.1 hI.2.2 4 0 rfl rfl hi hdg (fun H locs hP hD hS => kk H locs ⟨hP, hD, hS⟩)
theorem ol_pending (S : CallFix p m c cc nL s args Ts RX0) (hK : gK G s) (hI : oI s A G h0 h σ H locs) (hdg : decode cc pc = .ok (.arraylength, 1)) (kk : W p l e R s m args below meth c H locs cells slots Q (F0 m (pc + 1) ls (.int (nI (4000)) :: rest))) : W p l e R s m args below meth c H locs cells slots Q (F0 m pc ls (.ref h.2.2.2 :: rest)) :=
  va_alen S.1 S.2.1 hK hI.1 4 0 rfl rfl rfl hdg kk
end OW
end
section
/-! the world of OwnMemoryModel: its fields and rows; h k is where the row of field k lies -/
abbrev mS : Type := Int32 × Int32 × (Nat → Int32) × Int32 × (Nat → Int32) × (Nat → Int32) × (Nat → Int32) × (Nat → Int32) × (Nat → Int32) × (Nat → Int64) × (Nat → Int32) × (Nat → Int32) × (Nat → Int32) × (Nat → Int32) × (Nat → Int32) × (Nat → Int32) × (Nat → Int64) × (Nat → Int32) × (Nat → Int32) × (Nat → Int32) × Int32
def m_thrown (σ : mS) : Int32 := σ.1
def m_limit (σ : mS) : Int32 := σ.2.1
def m_root (σ : mS) : Nat → Int32 := σ.2.2.1
def m_objects (σ : mS) : Int32 := σ.2.2.2.1
def m_kind (σ : mS) : Nat → Int32 := σ.2.2.2.2.1
def m_links (σ : mS) : Nat → Int32 := σ.2.2.2.2.2.1
def m_values (σ : mS) : Nat → Int32 := σ.2.2.2.2.2.2.1
def m_plain (σ : mS) : Nat → Int32 := σ.2.2.2.2.2.2.2.1
def m_link (σ : mS) : Nat → Int32 := σ.2.2.2.2.2.2.2.2.1
def m_number (σ : mS) : Nat → Int64 := σ.2.2.2.2.2.2.2.2.2.1
def m_refers (σ : mS) : Nat → Int32 := σ.2.2.2.2.2.2.2.2.2.2.1
def m_word (σ : mS) : Nat → Int32 := σ.2.2.2.2.2.2.2.2.2.2.2.1
def m_length (σ : mS) : Nat → Int32 := σ.2.2.2.2.2.2.2.2.2.2.2.2.1
def m_madeOf (σ : mS) : Nat → Int32 := σ.2.2.2.2.2.2.2.2.2.2.2.2.2.1
def m_a (σ : mS) : Nat → Int32 := σ.2.2.2.2.2.2.2.2.2.2.2.2.2.2.1
def m_b (σ : mS) : Nat → Int32 := σ.2.2.2.2.2.2.2.2.2.2.2.2.2.2.2.1
def m_units (σ : mS) : Nat → Int64 := σ.2.2.2.2.2.2.2.2.2.2.2.2.2.2.2.2.1
def m_spread (σ : mS) : Nat → Int32 := σ.2.2.2.2.2.2.2.2.2.2.2.2.2.2.2.2.2.1
def m_there (σ : mS) : Nat → Int32 := σ.2.2.2.2.2.2.2.2.2.2.2.2.2.2.2.2.2.2.1
def m_waiting (σ : mS) : Nat → Int32 := σ.2.2.2.2.2.2.2.2.2.2.2.2.2.2.2.2.2.2.2.1
def m_wait (σ : mS) : Int32 := σ.2.2.2.2.2.2.2.2.2.2.2.2.2.2.2.2.2.2.2.2
def m_s_thrown (σ : mS) (x : Int32) : mS := (x, σ.2.1, σ.2.2.1, σ.2.2.2.1, σ.2.2.2.2.1, σ.2.2.2.2.2.1, σ.2.2.2.2.2.2.1, σ.2.2.2.2.2.2.2.1, σ.2.2.2.2.2.2.2.2.1, σ.2.2.2.2.2.2.2.2.2.1, σ.2.2.2.2.2.2.2.2.2.2.1, σ.2.2.2.2.2.2.2.2.2.2.2.1, σ.2.2.2.2.2.2.2.2.2.2.2.2.1, σ.2.2.2.2.2.2.2.2.2.2.2.2.2.1, σ.2.2.2.2.2.2.2.2.2.2.2.2.2.2.1, σ.2.2.2.2.2.2.2.2.2.2.2.2.2.2.2.1, σ.2.2.2.2.2.2.2.2.2.2.2.2.2.2.2.2.1, σ.2.2.2.2.2.2.2.2.2.2.2.2.2.2.2.2.2.1, σ.2.2.2.2.2.2.2.2.2.2.2.2.2.2.2.2.2.2.1, σ.2.2.2.2.2.2.2.2.2.2.2.2.2.2.2.2.2.2.2.1, σ.2.2.2.2.2.2.2.2.2.2.2.2.2.2.2.2.2.2.2.2)
def m_s_limit (σ : mS) (x : Int32) : mS := (σ.1, x, σ.2.2.1, σ.2.2.2.1, σ.2.2.2.2.1, σ.2.2.2.2.2.1, σ.2.2.2.2.2.2.1, σ.2.2.2.2.2.2.2.1, σ.2.2.2.2.2.2.2.2.1, σ.2.2.2.2.2.2.2.2.2.1, σ.2.2.2.2.2.2.2.2.2.2.1, σ.2.2.2.2.2.2.2.2.2.2.2.1, σ.2.2.2.2.2.2.2.2.2.2.2.2.1, σ.2.2.2.2.2.2.2.2.2.2.2.2.2.1, σ.2.2.2.2.2.2.2.2.2.2.2.2.2.2.1, σ.2.2.2.2.2.2.2.2.2.2.2.2.2.2.2.1, σ.2.2.2.2.2.2.2.2.2.2.2.2.2.2.2.2.1, σ.2.2.2.2.2.2.2.2.2.2.2.2.2.2.2.2.2.1, σ.2.2.2.2.2.2.2.2.2.2.2.2.2.2.2.2.2.2.1, σ.2.2.2.2.2.2.2.2.2.2.2.2.2.2.2.2.2.2.2.1, σ.2.2.2.2.2.2.2.2.2.2.2.2.2.2.2.2.2.2.2.2)
def m_s_root (σ : mS) (x : Nat → Int32) : mS := (σ.1, σ.2.1, x, σ.2.2.2.1, σ.2.2.2.2.1, σ.2.2.2.2.2.1, σ.2.2.2.2.2.2.1, σ.2.2.2.2.2.2.2.1, σ.2.2.2.2.2.2.2.2.1, σ.2.2.2.2.2.2.2.2.2.1, σ.2.2.2.2.2.2.2.2.2.2.1, σ.2.2.2.2.2.2.2.2.2.2.2.1, σ.2.2.2.2.2.2.2.2.2.2.2.2.1, σ.2.2.2.2.2.2.2.2.2.2.2.2.2.1, σ.2.2.2.2.2.2.2.2.2.2.2.2.2.2.1, σ.2.2.2.2.2.2.2.2.2.2.2.2.2.2.2.1, σ.2.2.2.2.2.2.2.2.2.2.2.2.2.2.2.2.1, σ.2.2.2.2.2.2.2.2.2.2.2.2.2.2.2.2.2.1, σ.2.2.2.2.2.2.2.2.2.2.2.2.2.2.2.2.2.2.1, σ.2.2.2.2.2.2.2.2.2.2.2.2.2.2.2.2.2.2.2.1, σ.2.2.2.2.2.2.2.2.2.2.2.2.2.2.2.2.2.2.2.2)
def m_s_objects (σ : mS) (x : Int32) : mS := (σ.1, σ.2.1, σ.2.2.1, x, σ.2.2.2.2.1, σ.2.2.2.2.2.1, σ.2.2.2.2.2.2.1, σ.2.2.2.2.2.2.2.1, σ.2.2.2.2.2.2.2.2.1, σ.2.2.2.2.2.2.2.2.2.1, σ.2.2.2.2.2.2.2.2.2.2.1, σ.2.2.2.2.2.2.2.2.2.2.2.1, σ.2.2.2.2.2.2.2.2.2.2.2.2.1, σ.2.2.2.2.2.2.2.2.2.2.2.2.2.1, σ.2.2.2.2.2.2.2.2.2.2.2.2.2.2.1, σ.2.2.2.2.2.2.2.2.2.2.2.2.2.2.2.1, σ.2.2.2.2.2.2.2.2.2.2.2.2.2.2.2.2.1, σ.2.2.2.2.2.2.2.2.2.2.2.2.2.2.2.2.2.1, σ.2.2.2.2.2.2.2.2.2.2.2.2.2.2.2.2.2.2.1, σ.2.2.2.2.2.2.2.2.2.2.2.2.2.2.2.2.2.2.2.1, σ.2.2.2.2.2.2.2.2.2.2.2.2.2.2.2.2.2.2.2.2)
def m_s_kind (σ : mS) (x : Nat → Int32) : mS := (σ.1, σ.2.1, σ.2.2.1, σ.2.2.2.1, x, σ.2.2.2.2.2.1, σ.2.2.2.2.2.2.1, σ.2.2.2.2.2.2.2.1, σ.2.2.2.2.2.2.2.2.1, σ.2.2.2.2.2.2.2.2.2.1, σ.2.2.2.2.2.2.2.2.2.2.1, σ.2.2.2.2.2.2.2.2.2.2.2.1, σ.2.2.2.2.2.2.2.2.2.2.2.2.1, σ.2.2.2.2.2.2.2.2.2.2.2.2.2.1, σ.2.2.2.2.2.2.2.2.2.2.2.2.2.2.1, σ.2.2.2.2.2.2.2.2.2.2.2.2.2.2.2.1, σ.2.2.2.2.2.2.2.2.2.2.2.2.2.2.2.2.1, σ.2.2.2.2.2.2.2.2.2.2.2.2.2.2.2.2.2.1, σ.2.2.2.2.2.2.2.2.2.2.2.2.2.2.2.2.2.2.1, σ.2.2.2.2.2.2.2.2.2.2.2.2.2.2.2.2.2.2.2.1, σ.2.2.2.2.2.2.2.2.2.2.2.2.2.2.2.2.2.2.2.2)
def m_s_links (σ : mS) (x : Nat → Int32) : mS := (σ.1, σ.2.1, σ.2.2.1, σ.2.2.2.1, σ.2.2.2.2.1, x, σ.2.2.2.2.2.2.1, σ.2.2.2.2.2.2.2.1, σ.2.2.2.2.2.2.2.2.1, σ.2.2.2.2.2.2.2.2.2.1, σ.2.2.2.2.2.2.2.2.2.2.1, σ.2.2.2.2.2.2.2.2.2.2.2.1, σ.2.2.2.2.2.2.2.2.2.2.2.2.1, σ.2.2.2.2.2.2.2.2.2.2.2.2.2.1, σ.2.2.2.2.2.2.2.2.2.2.2.2.2.2.1, σ.2.2.2.2.2.2.2.2.2.2.2.2.2.2.2.1, σ.2.2.2.2.2.2.2.2.2.2.2.2.2.2.2.2.1, σ.2.2.2.2.2.2.2.2.2.2.2.2.2.2.2.2.2.1, σ.2.2.2.2.2.2.2.2.2.2.2.2.2.2.2.2.2.2.1, σ.2.2.2.2.2.2.2.2.2.2.2.2.2.2.2.2.2.2.2.1, σ.2.2.2.2.2.2.2.2.2.2.2.2.2.2.2.2.2.2.2.2)
def m_s_values (σ : mS) (x : Nat → Int32) : mS := (σ.1, σ.2.1, σ.2.2.1, σ.2.2.2.1, σ.2.2.2.2.1, σ.2.2.2.2.2.1, x, σ.2.2.2.2.2.2.2.1, σ.2.2.2.2.2.2.2.2.1, σ.2.2.2.2.2.2.2.2.2.1, σ.2.2.2.2.2.2.2.2.2.2.1, σ.2.2.2.2.2.2.2.2.2.2.2.1, σ.2.2.2.2.2.2.2.2.2.2.2.2.1, σ.2.2.2.2.2.2.2.2.2.2.2.2.2.1, σ.2.2.2.2.2.2.2.2.2.2.2.2.2.2.1, σ.2.2.2.2.2.2.2.2.2.2.2.2.2.2.2.1, σ.2.2.2.2.2.2.2.2.2.2.2.2.2.2.2.2.1, σ.2.2.2.2.2.2.2.2.2.2.2.2.2.2.2.2.2.1, σ.2.2.2.2.2.2.2.2.2.2.2.2.2.2.2.2.2.2.1, σ.2.2.2.2.2.2.2.2.2.2.2.2.2.2.2.2.2.2.2.1, σ.2.2.2.2.2.2.2.2.2.2.2.2.2.2.2.2.2.2.2.2)
def m_s_plain (σ : mS) (x : Nat → Int32) : mS := (σ.1, σ.2.1, σ.2.2.1, σ.2.2.2.1, σ.2.2.2.2.1, σ.2.2.2.2.2.1, σ.2.2.2.2.2.2.1, x, σ.2.2.2.2.2.2.2.2.1, σ.2.2.2.2.2.2.2.2.2.1, σ.2.2.2.2.2.2.2.2.2.2.1, σ.2.2.2.2.2.2.2.2.2.2.2.1, σ.2.2.2.2.2.2.2.2.2.2.2.2.1, σ.2.2.2.2.2.2.2.2.2.2.2.2.2.1, σ.2.2.2.2.2.2.2.2.2.2.2.2.2.2.1, σ.2.2.2.2.2.2.2.2.2.2.2.2.2.2.2.1, σ.2.2.2.2.2.2.2.2.2.2.2.2.2.2.2.2.1, σ.2.2.2.2.2.2.2.2.2.2.2.2.2.2.2.2.2.1, σ.2.2.2.2.2.2.2.2.2.2.2.2.2.2.2.2.2.2.1, σ.2.2.2.2.2.2.2.2.2.2.2.2.2.2.2.2.2.2.2.1, σ.2.2.2.2.2.2.2.2.2.2.2.2.2.2.2.2.2.2.2.2)
def m_s_link (σ : mS) (x : Nat → Int32) : mS := (σ.1, σ.2.1, σ.2.2.1, σ.2.2.2.1, σ.2.2.2.2.1, σ.2.2.2.2.2.1, σ.2.2.2.2.2.2.1, σ.2.2.2.2.2.2.2.1, x, σ.2.2.2.2.2.2.2.2.2.1, σ.2.2.2.2.2.2.2.2.2.2.1, σ.2.2.2.2.2.2.2.2.2.2.2.1, σ.2.2.2.2.2.2.2.2.2.2.2.2.1, σ.2.2.2.2.2.2.2.2.2.2.2.2.2.1, σ.2.2.2.2.2.2.2.2.2.2.2.2.2.2.1, σ.2.2.2.2.2.2.2.2.2.2.2.2.2.2.2.1, σ.2.2.2.2.2.2.2.2.2.2.2.2.2.2.2.2.1, σ.2.2.2.2.2.2.2.2.2.2.2.2.2.2.2.2.2.1, σ.2.2.2.2.2.2.2.2.2.2.2.2.2.2.2.2.2.2.1, σ.2.2.2.2.2.2.2.2.2.2.2.2.2.2.2.2.2.2.2.1, σ.2.2.2.2.2.2.2.2.2.2.2.2.2.2.2.2.2.2.2.2)
def m_s_number (σ : mS) (x : Nat → Int64) : mS := (σ.1, σ.2.1, σ.2.2.1, σ.2.2.2.1, σ.2.2.2.2.1, σ.2.2.2.2.2.1, σ.2.2.2.2.2.2.1, σ.2.2.2.2.2.2.2.1, σ.2.2.2.2.2.2.2.2.1, x, σ.2.2.2.2.2.2.2.2.2.2.1, σ.2.2.2.2.2.2.2.2.2.2.2.1, σ.2.2.2.2.2.2.2.2.2.2.2.2.1, σ.2.2.2.2.2.2.2.2.2.2.2.2.2.1, σ.2.2.2.2.2.2.2.2.2.2.2.2.2.2.1, σ.2.2.2.2.2.2.2.2.2.2.2.2.2.2.2.1, σ.2.2.2.2.2.2.2.2.2.2.2.2.2.2.2.2.1, σ.2.2.2.2.2.2.2.2.2.2.2.2.2.2.2.2.2.1, σ.2.2.2.2.2.2.2.2.2.2.2.2.2.2.2.2.2.2.1, σ.2.2.2.2.2.2.2.2.2.2.2.2.2.2.2.2.2.2.2.1, σ.2.2.2.2.2.2.2.2.2.2.2.2.2.2.2.2.2.2.2.2)
def m_s_refers (σ : mS) (x : Nat → Int32) : mS := (σ.1, σ.2.1, σ.2.2.1, σ.2.2.2.1, σ.2.2.2.2.1, σ.2.2.2.2.2.1, σ.2.2.2.2.2.2.1, σ.2.2.2.2.2.2.2.1, σ.2.2.2.2.2.2.2.2.1, σ.2.2.2.2.2.2.2.2.2.1, x, σ.2.2.2.2.2.2.2.2.2.2.2.1, σ.2.2.2.2.2.2.2.2.2.2.2.2.1, σ.2.2.2.2.2.2.2.2.2.2.2.2.2.1, σ.2.2.2.2.2.2.2.2.2.2.2.2.2.2.1, σ.2.2.2.2.2.2.2.2.2.2.2.2.2.2.2.1, σ.2.2.2.2.2.2.2.2.2.2.2.2.2.2.2.2.1, σ.2.2.2.2.2.2.2.2.2.2.2.2.2.2.2.2.2.1, σ.2.2.2.2.2.2.2.2.2.2.2.2.2.2.2.2.2.2.1, σ.2.2.2.2.2.2.2.2.2.2.2.2.2.2.2.2.2.2.2.1, σ.2.2.2.2.2.2.2.2.2.2.2.2.2.2.2.2.2.2.2.2)
def m_s_word (σ : mS) (x : Nat → Int32) : mS := (σ.1, σ.2.1, σ.2.2.1, σ.2.2.2.1, σ.2.2.2.2.1, σ.2.2.2.2.2.1, σ.2.2.2.2.2.2.1, σ.2.2.2.2.2.2.2.1, σ.2.2.2.2.2.2.2.2.1, σ.2.2.2.2.2.2.2.2.2.1, σ.2.2.2.2.2.2.2.2.2.2.1, x, σ.2.2.2.2.2.2.2.2.2.2.2.2.1, σ.2.2.2.2.2.2.2.2.2.2.2.2.2.1, σ.2.2.2.2.2.2.2.2.2.2.2.2.2.2.1, σ.2.2.2.2.2.2.2.2.2.2.2.2.2.2.2.1, σ.2.2.2.2.2.2.2.2.2.2.2.2.2.2.2.2.1, σ.2.2.2.2.2.2.2.2.2.2.2.2.2.2.2.2.2.1, σ.2.2.2.2.2.2.2.2.2.2.2.2.2.2.2.2.2.2.1, σ.2.2.2.2.2.2.2.2.2.2.2.2.2.2.2.2.2.2.2.1, σ.2.2.2.2.2.2.2.2.2.2.2.2.2.2.2.2.2.2.2.2)
def m_s_length (σ : mS) (x : Nat → Int32) : mS := (σ.1, σ.2.1, σ.2.2.1, σ.2.2.2.1, σ.2.2.2.2.1, σ.2.2.2.2.2.1, σ.2.2.2.2.2.2.1, σ.2.2.2.2.2.2.2.1, σ.2.2.2.2.2.2.2.2.1, σ.2.2.2.2.2.2.2.2.2.1, σ.2.2.2.2.2.2.2.2.2.2.1, σ.2.2.2.2.2.2.2.2.2.2.2.1, x, σ.2.2.2.2.2.2.2.2.2.2.2.2.2.1, σ.2.2.2.2.2.2.2.2.2.2.2.2.2.2.1, σ.2.2.2.2.2.2.2.2.2.2.2.2.2.2.2.1, σ.2.2.2.2.2.2.2.2.2.2.2.2.2.2.2.2.1, σ.2.2.2.2.2.2.2.2.2.2.2.2.2.2.2.2.2.1, σ.2.2.2.2.2.2.2.2.2.2.2.2.2.2.2.2.2.2.1, σ.2.2.2.2.2.2.2.2.2.2.2.2.2.2.2.2.2.2.2.1, σ.2.2.2.2.2.2.2.2.2.2.2.2.2.2.2.2.2.2.2.2)
def m_s_madeOf (σ : mS) (x : Nat → Int32) : mS := (σ.1, σ.2.1, σ.2.2.1, σ.2.2.2.1, σ.2.2.2.2.1, σ.2.2.2.2.2.1, σ.2.2.2.2.2.2.1, σ.2.2.2.2.2.2.2.1, σ.2.2.2.2.2.2.2.2.1, σ.2.2.2.2.2.2.2.2.2.1, σ.2.2.2.2.2.2.2.2.2.2.1, σ.2.2.2.2.2.2.2.2.2.2.2.1, σ.2.2.2.2.2.2.2.2.2.2.2.2.1, x, σ.2.2.2.2.2.2.2.2.2.2.2.2.2.2.1, σ.2.2.2.2.2.2.2.2.2.2.2.2.2.2.2.1, σ.2.2.2.2.2.2.2.2.2.2.2.2.2.2.2.2.1, σ.2.2.2.2.2.2.2.2.2.2.2.2.2.2.2.2.2.1, σ.2.2.2.2.2.2.2.2.2.2.2.2.2.2.2.2.2.2.1, σ.2.2.2.2.2.2.2.2.2.2.2.2.2.2.2.2.2.2.2.1, σ.2.2.2.2.2.2.2.2.2.2.2.2.2.2.2.2.2.2.2.2)
def m_s_a (σ : mS) (x : Nat → Int32) : mS := (σ.1, σ.2.1, σ.2.2.1, σ.2.2.2.1, σ.2.2.2.2.1, σ.2.2.2.2.2.1, σ.2.2.2.2.2.2.1, σ.2.2.2.2.2.2.2.1, σ.2.2.2.2.2.2.2.2.1, σ.2.2.2.2.2.2.2.2.2.1, σ.2.2.2.2.2.2.2.2.2.2.1, σ.2.2.2.2.2.2.2.2.2.2.2.1, σ.2.2.2.2.2.2.2.2.2.2.2.2.1, σ.2.2.2.2.2.2.2.2.2.2.2.2.2.1, x, σ.2.2.2.2.2.2.2.2.2.2.2.2.2.2.2.1, σ.2.2.2.2.2.2.2.2.2.2.2.2.2.2.2.2.1, σ.2.2.2.2.2.2.2.2.2.2.2.2.2.2.2.2.2.1, σ.2.2.2.2.2.2.2.2.2.2.2.2.2.2.2.2.2.2.1, σ.2.2.2.2.2.2.2.2.2.2.2.2.2.2.2.2.2.2.2.1, σ.2.2.2.2.2.2.2.2.2.2.2.2.2.2.2.2.2.2.2.2)
def m_s_b (σ : mS) (x : Nat → Int32) : mS := (σ.1, σ.2.1, σ.2.2.1, σ.2.2.2.1, σ.2.2.2.2.1, σ.2.2.2.2.2.1, σ.2.2.2.2.2.2.1, σ.2.2.2.2.2.2.2.1, σ.2.2.2.2.2.2.2.2.1, σ.2.2.2.2.2.2.2.2.2.1, σ.2.2.2.2.2.2.2.2.2.2.1, σ.2.2.2.2.2.2.2.2.2.2.2.1, σ.2.2.2.2.2.2.2.2.2.2.2.2.1, σ.2.2.2.2.2.2.2.2.2.2.2.2.2.1, σ.2.2.2.2.2.2.2.2.2.2.2.2.2.2.1, x, σ.2.2.2.2.2.2.2.2.2.2.2.2.2.2.2.2.1, σ.2.2.2.2.2.2.2.2.2.2.2.2.2.2.2.2.2.1, σ.2.2.2.2.2.2.2.2.2.2.2.2.2.2.2.2.2.2.1, σ.2.2.2.2.2.2.2.2.2.2.2.2.2.2.2.2.2.2.2.1, σ.2.2.2.2.2.2.2.2.2.2.2.2.2.2.2.2.2.2.2.2)
def m_s_units (σ : mS) (x : Nat → Int64) : mS := (σ.1, σ.2.1, σ.2.2.1, σ.2.2.2.1, σ.2.2.2.2.1, σ.2.2.2.2.2.1, σ.2.2.2.2.2.2.1, σ.2.2.2.2.2.2.2.1, σ.2.2.2.2.2.2.2.2.1, σ.2.2.2.2.2.2.2.2.2.1, σ.2.2.2.2.2.2.2.2.2.2.1, σ.2.2.2.2.2.2.2.2.2.2.2.1, σ.2.2.2.2.2.2.2.2.2.2.2.2.1, σ.2.2.2.2.2.2.2.2.2.2.2.2.2.1, σ.2.2.2.2.2.2.2.2.2.2.2.2.2.2.1, σ.2.2.2.2.2.2.2.2.2.2.2.2.2.2.2.1, x, σ.2.2.2.2.2.2.2.2.2.2.2.2.2.2.2.2.2.1, σ.2.2.2.2.2.2.2.2.2.2.2.2.2.2.2.2.2.2.1, σ.2.2.2.2.2.2.2.2.2.2.2.2.2.2.2.2.2.2.2.1, σ.2.2.2.2.2.2.2.2.2.2.2.2.2.2.2.2.2.2.2.2)
def m_s_spread (σ : mS) (x : Nat → Int32) : mS := (σ.1, σ.2.1, σ.2.2.1, σ.2.2.2.1, σ.2.2.2.2.1, σ.2.2.2.2.2.1, σ.2.2.2.2.2.2.1, σ.2.2.2.2.2.2.2.1, σ.2.2.2.2.2.2.2.2.1, σ.2.2.2.2.2.2.2.2.2.1, σ.2.2.2.2.2.2.2.2.2.2.1, σ.2.2.2.2.2.2.2.2.2.2.2.1, σ.2.2.2.2.2.2.2.2.2.2.2.2.1, σ.2.2.2.2.2.2.2.2.2.2.2.2.2.1, σ.2.2.2.2.2.2.2.2.2.2.2.2.2.2.1, σ.2.2.2.2.2.2.2.2.2.2.2.2.2.2.2.1, σ.2.2.2.2.2.2.2.2.2.2.2.2.2.2.2.2.1, x, σ.2.2.2.2.2.2.2.2.2.2.2.2.2.2.2.2.2.2.1, σ.2.2.2.2.2.2.2.2.2.2.2.2.2.2.2.2.2.2.2.1, σ.2.2.2.2.2.2.2.2.2.2.2.2.2.2.2.2.2.2.2.2)
def m_s_there (σ : mS) (x : Nat → Int32) : mS := (σ.1, σ.2.1, σ.2.2.1, σ.2.2.2.1, σ.2.2.2.2.1, σ.2.2.2.2.2.1, σ.2.2.2.2.2.2.1, σ.2.2.2.2.2.2.2.1, σ.2.2.2.2.2.2.2.2.1, σ.2.2.2.2.2.2.2.2.2.1, σ.2.2.2.2.2.2.2.2.2.2.1, σ.2.2.2.2.2.2.2.2.2.2.2.1, σ.2.2.2.2.2.2.2.2.2.2.2.2.1, σ.2.2.2.2.2.2.2.2.2.2.2.2.2.1, σ.2.2.2.2.2.2.2.2.2.2.2.2.2.2.1, σ.2.2.2.2.2.2.2.2.2.2.2.2.2.2.2.1, σ.2.2.2.2.2.2.2.2.2.2.2.2.2.2.2.2.1, σ.2.2.2.2.2.2.2.2.2.2.2.2.2.2.2.2.2.1, x, σ.2.2.2.2.2.2.2.2.2.2.2.2.2.2.2.2.2.2.2.1, σ.2.2.2.2.2.2.2.2.2.2.2.2.2.2.2.2.2.2.2.2)
def m_s_waiting (σ : mS) (x : Nat → Int32) : mS := (σ.1, σ.2.1, σ.2.2.1, σ.2.2.2.1, σ.2.2.2.2.1, σ.2.2.2.2.2.1, σ.2.2.2.2.2.2.1, σ.2.2.2.2.2.2.2.1, σ.2.2.2.2.2.2.2.2.1, σ.2.2.2.2.2.2.2.2.2.1, σ.2.2.2.2.2.2.2.2.2.2.1, σ.2.2.2.2.2.2.2.2.2.2.2.1, σ.2.2.2.2.2.2.2.2.2.2.2.2.1, σ.2.2.2.2.2.2.2.2.2.2.2.2.2.1, σ.2.2.2.2.2.2.2.2.2.2.2.2.2.2.1, σ.2.2.2.2.2.2.2.2.2.2.2.2.2.2.2.1, σ.2.2.2.2.2.2.2.2.2.2.2.2.2.2.2.2.1, σ.2.2.2.2.2.2.2.2.2.2.2.2.2.2.2.2.2.1, σ.2.2.2.2.2.2.2.2.2.2.2.2.2.2.2.2.2.2.1, x, σ.2.2.2.2.2.2.2.2.2.2.2.2.2.2.2.2.2.2.2.2)
def m_s_wait (σ : mS) (x : Int32) : mS := (σ.1, σ.2.1, σ.2.2.1, σ.2.2.2.1, σ.2.2.2.2.1, σ.2.2.2.2.2.1, σ.2.2.2.2.2.2.1, σ.2.2.2.2.2.2.2.1, σ.2.2.2.2.2.2.2.2.1, σ.2.2.2.2.2.2.2.2.2.1, σ.2.2.2.2.2.2.2.2.2.2.1, σ.2.2.2.2.2.2.2.2.2.2.2.1, σ.2.2.2.2.2.2.2.2.2.2.2.2.1, σ.2.2.2.2.2.2.2.2.2.2.2.2.2.1, σ.2.2.2.2.2.2.2.2.2.2.2.2.2.2.1, σ.2.2.2.2.2.2.2.2.2.2.2.2.2.2.2.1, σ.2.2.2.2.2.2.2.2.2.2.2.2.2.2.2.2.1, σ.2.2.2.2.2.2.2.2.2.2.2.2.2.2.2.2.2.1, σ.2.2.2.2.2.2.2.2.2.2.2.2.2.2.2.2.2.2.1, σ.2.2.2.2.2.2.2.2.2.2.2.2.2.2.2.2.2.2.2.1, x)
def mw (G : gT) (h0 : Nat) (h : Nat → Nat) (σ : mS) : va_W := [(h0, .inr (3, [.int (m_thrown σ), .int (m_limit σ), .ref (h 2), .int (m_objects σ), .ref (h 4), .ref (h 5), .ref (h 6), .ref (h 7), .ref (h 8), .ref (h 9), .ref (h 10), .ref (h 11), .ref (h 12), .ref (h 13), .ref (h 14), .ref (h 15), .ref (h 16), .ref (h 17), .ref (h 18), .ref (h 19), .int (m_wait σ)])), (h 2, .inl (G.2.1, 24, .inl (m_root σ))), (h 4, .inl (G.2.1, 4096, .inl (m_kind σ))), (h 5, .inl (G.2.1, 4096, .inl (m_links σ))), (h 6, .inl (G.2.1, 4096, .inl (m_values σ))), (h 7, .inl (G.2.1, 4096, .inl (m_plain σ))), (h 8, .inl (G.2.1, 32768, .inl (m_link σ))), (h 9, .inl (G.2.2.1, 32768, .inr (.inl (m_number σ)))), (h 10, .inl (G.2.1, 32768, .inl (m_refers σ))), (h 11, .inl (G.2.1, 65536, .inl (m_word σ))), (h 12, .inl (G.2.1, 4096, .inl (m_length σ))), (h 13, .inl (G.2.1, 4096, .inl (m_madeOf σ))), (h 14, .inl (G.2.1, 4096, .inl (m_a σ))), (h 15, .inl (G.2.1, 4096, .inl (m_b σ))), (h 16, .inl (G.2.2.1, 4096, .inr (.inl (m_units σ)))), (h 17, .inl (G.2.1, 4096, .inl (m_spread σ))), (h 18, .inl (G.2.2.2, 4096, .inl (m_there σ))), (h 19, .inl (G.2.1, 4096, .inl (m_waiting σ)))]
def mI (s : State) (A : Nat → Prop) (G : gT) (h0 : Nat) (h : Nat → Nat) (σ : mS) (H : Heap) (locs : List Loc) : Prop := va_P G.1 vwCl (mw G h0 h σ) H ∧ va_D A (mw G h0 h σ) ∧ va_S A s.heap H locs
def mAt (G : gT) (A : Nat → Prop) (h0 : Nat) (h : Nat → Nat) (σ : mS) (t : State) : Prop := va_P G.1 vwCl (mw G h0 h σ) t.heap ∧ gK G t ∧ va_D A (mw G h0 h σ)
def mPre (G : gT) (h0 : Nat) (h : Nat → Nat) (σ : mS) (sz : Nat) (av : List Value) : Array Value → State → Prop := va_Pc (.ref h0 :: av) (fun U => U.heap.size = sz ∧ va_P G.1 vwCl (mw G h0 h σ) U.heap ∧ gK G U ∧ va_D (fun _ => True) (mw G h0 h σ))
def mA (G : gT) (h0 : Nat) (h : Nat → Nat) (σ : mS) (sz : Nat) : Nat → Prop := va_A (mw G h0 h σ) sz
section MW
variable {p : Program} {l : Launch} {e : Env} {R : Room} {s : State} {m : MethodId} {args : Array Value} {below : List Frame} {meth : Method} {c : Code} {H : Heap} {locs : List Loc} {cells slots : Nat} {Q : State → Prop}
variable {cc : ByteArray} {pc : Nat} {ls : Array Slot} {rest : List Value} {A : Nat → Prop} {G : gT} {h0 : Nat} {nL : Nat} {Ts : List Cond}
variable {h : Nat → Nat} {σ : mS}
theorem mg_thrown (S : CallFix p m c cc nL s args Ts RX1) (hin : ∀ w ∈ wsX10, w ∈ Ts) (hK : gK G s) (hI : mI s A G h0 h σ H locs) {ix : Nat} (hm : Cond.fieldLink RX1 ix "OwnMemoryModel" "thrown" "I" ∈ Ts) (hdg : decode cc pc = .ok (.getfield ix, 3)) (kk : W p l e R s m args below meth c H locs cells slots Q (F0 m (pc + 3) ls (.int (m_thrown σ) :: rest))) : W p l e R s m args below meth c H locs cells slots Q (F0 m pc ls (.ref h0 :: rest)) :=
  va_get (D := G.1) (ci := 3) (v := .int (m_thrown σ)) (C := RX1) (T := TX1) (N := 21) S.1 S.2.1 S.2.2.2.2 hin S.2.2.2.1 hK hI.1 0 rfl rfl 0 (by decide) (S.2.2.2.2 _ hm) (fun _ h9 => h9) rfl hdg kk
theorem mp_thrown (S : CallFix p m c cc nL s args Ts RX1) (hin : ∀ w ∈ wsX10, w ∈ Ts) (hK : gK G s) (hI : mI s A G h0 h σ H locs) {ix : Nat} {x : Int32} {σ1 : mS} (hm : Cond.fieldLink RX1 ix "OwnMemoryModel" "thrown" "I" ∈ Ts) (h1 : σ1 = m_s_thrown σ x) (hdg : decode cc pc = .ok (.putfield ix, 3)) (kk : ∀ (H1 : Heap) (locs1 : List Loc), mI s A G h0 h σ1 H1 locs1 → W p l e R s m args below meth c H1 locs1 cells slots Q (F0 m (pc + 3) ls rest)) : W p l e R s m args below meth c H locs cells slots Q (F0 m pc ls (.int x :: .ref h0 :: rest)) := by
  subst h1
  exact va_put (D := G.1) (ci := 3) (v := .int x) (ty := .int) (C := RX1) (T := TX1) (N := 21) S.1 S.2.1 S.2.2.2.2 hin tyX1 tyX1_ok nmX1 S.2.2.2.1 hK hI.1 hI.2.1 hI.2.2 0 rfl rfl 0 (by decide) (S.2.2.2.2 _ hm) (fun _ h9 => h9) rfl (by decide +kernel) rfl rfl (Nat.le_of_ble_eq_true rfl) hdg (fun H locs hP hD hS => kk H locs ⟨hP, hD, hS⟩)
theorem mg_limit (S : CallFix p m c cc nL s args Ts RX1) (hin : ∀ w ∈ wsX10, w ∈ Ts) (hK : gK G s) (hI : mI s A G h0 h σ H locs) {ix : Nat} (hm : Cond.fieldLink RX1 ix "OwnMemoryModel" "limit" "I" ∈ Ts) (hdg : decode cc pc = .ok (.getfield ix, 3)) (kk : W p l e R s m args below meth c H locs cells slots Q (F0 m (pc + 3) ls (.int (m_limit σ) :: rest))) : W p l e R s m args below meth c H locs cells slots Q (F0 m pc ls (.ref h0 :: rest)) :=
  va_get (D := G.1) (ci := 3) (v := .int (m_limit σ)) (C := RX1) (T := TX1) (N := 21) S.1 S.2.1 S.2.2.2.2 hin S.2.2.2.1 hK hI.1 0 rfl rfl 1 (by decide) (S.2.2.2.2 _ hm) (fun _ h9 => h9) rfl hdg kk
theorem mg_root (S : CallFix p m c cc nL s args Ts RX1) (hin : ∀ w ∈ wsX10, w ∈ Ts) (hK : gK G s) (hI : mI s A G h0 h σ H locs) {ix : Nat} (hm : Cond.fieldLink RX1 ix "OwnMemoryModel" "root" "[I" ∈ Ts) (hdg : decode cc pc = .ok (.getfield ix, 3)) (kk : W p l e R s m args below meth c H locs cells slots Q (F0 m (pc + 3) ls (.ref (h 2) :: rest))) : W p l e R s m args below meth c H locs cells slots Q (F0 m pc ls (.ref h0 :: rest)) :=
  va_get (D := G.1) (ci := 3) (v := .ref (h 2)) (C := RX1) (T := TX1) (N := 21) S.1 S.2.1 S.2.2.2.2 hin S.2.2.2.1 hK hI.1 0 rfl rfl 2 (by decide) (S.2.2.2.2 _ hm) (fun _ h9 => h9) rfl hdg kk
theorem mr_root (S : CallFix p m c cc nL s args Ts RX1) (hK : gK G s) (hI : mI s A G h0 h σ H locs) {i : Int32} {x : Int32} (hi : vp_in i 24) (h1 : x = m_root σ i.toNatClampNeg) (hdg : decode cc pc = .ok (.iaload, 1)) (kk : W p l e R s m args below meth c H locs cells slots Q (F0 m (pc + 1) ls (.int x :: rest))) : W p l e R s m args below meth c H locs cells slots Q (F0 m pc ls (.int i :: .ref (h 2) :: rest)) := by
  subst h1
  exact va_iald (f := m_root σ) S.1 S.2.1 hK hI.1 1 0 rfl rfl hi hdg kk
theorem mu_root (S : CallFix p m c cc nL s args Ts RX1) (hK : gK G s) (hI : mI s A G h0 h σ H locs) {i : Int32} {x : Int32} {σ1 : mS} (hi : vp_in i 24) (h1 : σ1 = m_s_root σ (upd (m_root σ) i.toNatClampNeg x)) (hdg : decode cc pc = .ok (.iastore, 1)) (kk : ∀ (H1 : Heap) (locs1 : List Loc), mI s A G h0 h σ1 H1 locs1 → W p l e R s m args below meth c H1 locs1 cells slots Q (F0 m (pc + 1) ls rest)) : W p l e R s m args below meth c H locs cells slots Q (F0 m pc ls (.int x :: .int i :: .ref (h 2) :: rest)) := by
  subst h1
  exact va_iast (f := m_root σ) S.1 S.2.1 hK hI.1 hI.2.1 hI.2.2 1 0 rfl rfl hi hdg (fun H locs hP hD hS => kk H locs ⟨hP, hD, hS⟩)
theorem mg_objects (S : CallFix p m c cc nL s args Ts RX1) (hin : ∀ w ∈ wsX10, w ∈ Ts) (hK : gK G s) (hI : mI s A G h0 h σ H locs) {ix : Nat} (hm : Cond.fieldLink RX1 ix "OwnMemoryModel" "objects" "I" ∈ Ts) (hdg : decode cc pc = .ok (.getfield ix, 3)) (kk : W p l e R s m args below meth c H locs cells slots Q (F0 m (pc + 3) ls (.int (m_objects σ) :: rest))) : W p l e R s m args below meth c H locs cells slots Q (F0 m pc ls (.ref h0 :: rest)) :=
  va_get (D := G.1) (ci := 3) (v := .int (m_objects σ)) (C := RX1) (T := TX1) (N := 21) S.1 S.2.1 S.2.2.2.2 hin S.2.2.2.1 hK hI.1 0 rfl rfl 3 (by decide) (S.2.2.2.2 _ hm) (fun _ h9 => h9) rfl hdg kk
theorem mp_objects (S : CallFix p m c cc nL s args Ts RX1) (hin : ∀ w ∈ wsX10, w ∈ Ts) (hK : gK G s) (hI : mI s A G h0 h σ H locs) {ix : Nat} {x : Int32} {σ1 : mS} (hm : Cond.fieldLink RX1 ix "OwnMemoryModel" "objects" "I" ∈ Ts) (h1 : σ1 = m_s_objects σ x) (hdg : decode cc pc = .ok (.putfield ix, 3)) (kk : ∀ (H1 : Heap) (locs1 : List Loc), mI s A G h0 h σ1 H1 locs1 → W p l e R s m args below meth c H1 locs1 cells slots Q (F0 m (pc + 3) ls rest)) : W p l e R s m args below meth c H locs cells slots Q (F0 m pc ls (.int x :: .ref h0 :: rest)) := by
  subst h1
  exact va_put (D := G.1) (ci := 3) (v := .int x) (ty := .int) (C := RX1) (T := TX1) (N := 21) S.1 S.2.1 S.2.2.2.2 hin tyX1 tyX1_ok nmX1 S.2.2.2.1 hK hI.1 hI.2.1 hI.2.2 0 rfl rfl 3 (by decide) (S.2.2.2.2 _ hm) (fun _ h9 => h9) rfl (by decide +kernel) rfl rfl (Nat.le_of_ble_eq_true rfl) hdg (fun H locs hP hD hS => kk H locs ⟨hP, hD, hS⟩)
theorem mg_kind (S : CallFix p m c cc nL s args Ts RX1) (hin : ∀ w ∈ wsX10, w ∈ Ts) (hK : gK G s) (hI : mI s A G h0 h σ H locs) {ix : Nat} (hm : Cond.fieldLink RX1 ix "OwnMemoryModel" "kind" "[I" ∈ Ts) (hdg : decode cc pc = .ok (.getfield ix, 3)) (kk : W p l e R s m args below meth c H locs cells slots Q (F0 m (pc + 3) ls (.ref (h 4) :: rest))) : W p l e R s m args below meth c H locs cells slots Q (F0 m pc ls (.ref h0 :: rest)) :=
  va_get (D := G.1) (ci := 3) (v := .ref (h 4)) (C := RX1) (T := TX1) (N := 21) S.1 S.2.1 S.2.2.2.2 hin S.2.2.2.1 hK hI.1 0 rfl rfl 4 (by decide) (S.2.2.2.2 _ hm) (fun _ h9 => h9) rfl hdg kk
theorem mr_kind (S : CallFix p m c cc nL s args Ts RX1) (hK : gK G s) (hI : mI s A G h0 h σ H locs) {i : Int32} {x : Int32} (hi : vp_in i 4096) (h1 : x = m_kind σ i.toNatClampNeg) (hdg : decode cc pc = .ok (.iaload, 1)) (kk : W p l e R s m args below meth c H locs cells slots Q (F0 m (pc + 1) ls (.int x :: rest))) : W p l e R s m args below meth c H locs cells slots Q (F0 m pc ls (.int i :: .ref (h 4) :: rest)) := by
  subst h1
  exact va_iald (f := m_kind σ) S.1 S.2.1 hK hI.1 2 0 rfl rfl hi hdg kk
theorem mu_kind (S : CallFix p m c cc nL s args Ts RX1) (hK : gK G s) (hI : mI s A G h0 h σ H locs) {i : Int32} {x : Int32} {σ1 : mS} (hi : vp_in i 4096) (h1 : σ1 = m_s_kind σ (upd (m_kind σ) i.toNatClampNeg x)) (hdg : decode cc pc = .ok (.iastore, 1)) (kk : ∀ (H1 : Heap) (locs1 : List Loc), mI s A G h0 h σ1 H1 locs1 → W p l e R s m args below meth c H1 locs1 cells slots Q (F0 m (pc + 1) ls rest)) : W p l e R s m args below meth c H locs cells slots Q (F0 m pc ls (.int x :: .int i :: .ref (h 4) :: rest)) := by
  subst h1
  exact va_iast (f := m_kind σ) S.1 S.2.1 hK hI.1 hI.2.1 hI.2.2 2 0 rfl rfl hi hdg (fun H locs hP hD hS => kk H locs ⟨hP, hD, hS⟩)
theorem mg_links (S : CallFix p m c cc nL s args Ts RX1) (hin : ∀ w ∈ wsX10, w ∈ Ts) (hK : gK G s) (hI : mI s A G h0 h σ H locs) {ix : Nat} (hm : Cond.fieldLink RX1 ix "OwnMemoryModel" "links" "[I" ∈ Ts) (hdg : decode cc pc = .ok (.getfield ix, 3)) (kk : W p l e R s m args below meth c H locs cells slots Q (F0 m (pc + 3) ls (.ref (h 5) :: rest))) : W p l e R s m args below meth c H locs cells slots Q (F0 m pc ls (.ref h0 :: rest)) :=
  va_get (D := G.1) (ci := 3) (v := .ref (h 5)) (C := RX1) (T := TX1) (N := 21) S.1 S.2.1 S.2.2.2.2 hin S.2.2.2.1 hK hI.1 0 rfl rfl 5 (by decide) (S.2.2.2.2 _ hm) (fun _ h9 => h9) rfl hdg kk
theorem mr_links (S : CallFix p m c cc nL s args Ts RX1) (hK : gK G s) (hI : mI s A G h0 h σ H locs) {i : Int32} {x : Int32} (hi : vp_in i 4096) (h1 : x = m_links σ i.toNatClampNeg) (hdg : decode cc pc = .ok (.iaload, 1)) (kk : W p l e R s m args below meth c H locs cells slots Q (F0 m (pc + 1) ls (.int x :: rest))) : W p l e R s m args below meth c H locs cells slots Q (F0 m pc ls (.int i :: .ref (h 5) :: rest)) := by
  subst h1
  exact va_iald (f := m_links σ) S.1 S.2.1 hK hI.1 3 0 rfl rfl hi hdg kk
theorem mu_links (S : CallFix p m c cc nL s args Ts RX1) (hK : gK G s) (hI : mI s A G h0 h σ H locs) {i : Int32} {x : Int32} {σ1 : mS} (hi : vp_in i 4096) (h1 : σ1 = m_s_links σ (upd (m_links σ) i.toNatClampNeg x)) (hdg : decode cc pc = .ok (.iastore, 1)) (kk : ∀ (H1 : Heap) (locs1 : List Loc), mI s A G h0 h σ1 H1 locs1 → W p l e R s m args below meth c H1 locs1 cells slots Q (F0 m (pc + 1) ls rest)) : W p l e R s m args below meth c H locs cells slots Q (F0 m pc ls (.int x :: .int i :: .ref (h 5) :: rest)) := by
  subst h1
  exact va_iast (f := m_links σ) S.1 S.2.1 hK hI.1 hI.2.1 hI.2.2 3 0 rfl rfl hi hdg (fun H locs hP hD hS => kk H locs ⟨hP, hD, hS⟩)
theorem mg_values (S : CallFix p m c cc nL s args Ts RX1) (hin : ∀ w ∈ wsX10, w ∈ Ts) (hK : gK G s) (hI : mI s A G h0 h σ H locs) {ix : Nat} (hm : Cond.fieldLink RX1 ix "OwnMemoryModel" "values" "[I" ∈ Ts) (hdg : decode cc pc = .ok (.getfield ix, 3)) (kk : W p l e R s m args below meth c H locs cells slots Q (F0 m (pc + 3) ls (.ref (h 6) :: rest))) : W p l e R s m args below meth c H locs cells slots Q (F0 m pc ls (.ref h0 :: rest)) :=
  va_get (D := G.1) (ci := 3) (v := .ref (h 6)) (C := RX1) (T := TX1) (N := 21) S.1 S.2.1 S.2.2.2.2 hin S.2.2.2.1 hK hI.1 0 rfl rfl 6 (by decide) (S.2.2.2.2 _ hm) (fun _ h9 => h9) rfl hdg kk
theorem mr_values (S : CallFix p m c cc nL s args Ts RX1) (hK : gK G s) (hI : mI s A G h0 h σ H locs) {i : Int32} {x : Int32} (hi : vp_in i 4096) (h1 : x = m_values σ i.toNatClampNeg) (hdg : decode cc pc = .ok (.iaload, 1)) (kk : W p l e R s m args below meth c H locs cells slots Q (F0 m (pc + 1) ls (.int x :: rest))) : W p l e R s m args below meth c H locs cells slots Q (F0 m pc ls (.int i :: .ref (h 6) :: rest)) := by
  subst h1
  exact va_iald (f := m_values σ) S.1 S.2.1 hK hI.1 4 0 rfl rfl hi hdg kk
theorem mu_values (S : CallFix p m c cc nL s args Ts RX1) (hK : gK G s) (hI : mI s A G h0 h σ H locs) {i : Int32} {x : Int32} {σ1 : mS} (hi : vp_in i 4096) (h1 : σ1 = m_s_values σ (upd (m_values σ) i.toNatClampNeg x)) (hdg : decode cc pc = .ok (.iastore, 1)) (kk : ∀ (H1 : Heap) (locs1 : List Loc), mI s A G h0 h σ1 H1 locs1 → W p l e R s m args below meth c H1 locs1 cells slots Q (F0 m (pc + 1) ls rest)) : W p l e R s m args below meth c H locs cells slots Q (F0 m pc ls (.int x :: .int i :: .ref (h 6) :: rest)) := by
  subst h1
  exact va_iast (f := m_values σ) S.1 S.2.1 hK hI.1 hI.2.1 hI.2.2 4 0 rfl rfl hi hdg (fun H locs hP hD hS => kk H locs ⟨hP, hD, hS⟩)
theorem mg_plain (S : CallFix p m c cc nL s args Ts RX1) (hin : ∀ w ∈ wsX10, w ∈ Ts) (hK : gK G s) (hI : mI s A G h0 h σ H locs) {ix : Nat} (hm : Cond.fieldLink RX1 ix "OwnMemoryModel" "plain" "[I" ∈ Ts) (hdg : decode cc pc = .ok (.getfield ix, 3)) (kk : W p l e R s m args below meth c H locs cells slots Q (F0 m (pc + 3) ls (.ref (h 7) :: rest))) : W p l e R s m args below meth c H locs cells slots Q (F0 m pc ls (.ref h0 :: rest)) :=
  va_get (D := G.1) (ci := 3) (v := .ref (h 7)) (C := RX1) (T := TX1) (N := 21) S.1 S.2.1 S.2.2.2.2 hin S.2.2.2.1 hK hI.1 0 rfl rfl 7 (by decide) (S.2.2.2.2 _ hm) (fun _ h9 => h9) rfl hdg kk
theorem mr_plain (S : CallFix p m c cc nL s args Ts RX1) (hK : gK G s) (hI : mI s A G h0 h σ H locs) {i : Int32} {x : Int32} (hi : vp_in i 4096) (h1 : x = m_plain σ i.toNatClampNeg) (hdg : decode cc pc = .ok (.iaload, 1)) (kk : W p l e R s m args below meth c H locs cells slots Q (F0 m (pc + 1) ls (.int x :: rest))) : W p l e R s m args below meth c H locs cells slots Q (F0 m pc ls (.int i :: .ref (h 7) :: rest)) := by
  subst h1
  exact va_iald (f := m_plain σ) S.1 S.2.1 hK hI.1 5 0 rfl rfl hi hdg kk
theorem mu_plain (S : CallFix p m c cc nL s args Ts RX1) (hK : gK G s) (hI : mI s A G h0 h σ H locs) {i : Int32} {x : Int32} {σ1 : mS} (hi : vp_in i 4096) (h1 : σ1 = m_s_plain σ (upd (m_plain σ) i.toNatClampNeg x)) (hdg : decode cc pc = .ok (.iastore, 1)) (kk : ∀ (H1 : Heap) (locs1 : List Loc), mI s A G h0 h σ1 H1 locs1 → W p l e R s m args below meth c H1 locs1 cells slots Q (F0 m (pc + 1) ls rest)) : W p l e R s m args below meth c H locs cells slots Q (F0 m pc ls (.int x :: .int i :: .ref (h 7) :: rest)) := by
  subst h1
  exact va_iast (f := m_plain σ) S.1 S.2.1 hK hI.1 hI.2.1 hI.2.2 5 0 rfl rfl hi hdg (fun H locs hP hD hS => kk H locs ⟨hP, hD, hS⟩)
theorem mg_link (S : CallFix p m c cc nL s args Ts RX1) (hin : ∀ w ∈ wsX10, w ∈ Ts) (hK : gK G s) (hI : mI s A G h0 h σ H locs) {ix : Nat} (hm : Cond.fieldLink RX1 ix "OwnMemoryModel" "link" "[I" ∈ Ts) (hdg : decode cc pc = .ok (.getfield ix, 3)) (kk : W p l e R s m args below meth c H locs cells slots Q (F0 m (pc + 3) ls (.ref (h 8) :: rest))) : W p l e R s m args below meth c H locs cells slots Q (F0 m pc ls (.ref h0 :: rest)) :=
  va_get (D := G.1) (ci := 3) (v := .ref (h 8)) (C := RX1) (T := TX1) (N := 21) S.1 S.2.1 S.2.2.2.2 hin S.2.2.2.1 hK hI.1 0 rfl rfl 8 (by decide) (S.2.2.2.2 _ hm) (fun _ h9 => h9) rfl hdg kk
theorem mr_link (S : CallFix p m c cc nL s args Ts RX1) (hK : gK G s) (hI : mI s A G h0 h σ H locs) {i : Int32} {x : Int32} (hi : vp_in i 32768) (h1 : x = m_link σ i.toNatClampNeg) (hdg : decode cc pc = .ok (.iaload, 1)) (kk : W p l e R s m args below meth c H locs cells slots Q (F0 m (pc + 1) ls (.int x :: rest))) : W p l e R s m args below meth c H locs cells slots Q (F0 m pc ls (.int i :: .ref (h 8) :: rest)) := by
  subst h1
  exact va_iald (f := m_link σ) S.1 S.2.1 hK hI.1 6 0 rfl rfl hi hdg kk
theorem mu_link (S : CallFix p m c cc nL s args Ts RX1) (hK : gK G s) (hI : mI s A G h0 h σ H locs) {i : Int32} {x : Int32} {σ1 : mS} (hi : vp_in i 32768) (h1 : σ1 = m_s_link σ (upd (m_link σ) i.toNatClampNeg x)) (hdg : decode cc pc = .ok (.iastore, 1)) (kk : ∀ (H1 : Heap) (locs1 : List Loc), mI s A G h0 h σ1 H1 locs1 → W p l e R s m args below meth c H1 locs1 cells slots Q (F0 m (pc + 1) ls rest)) : W p l e R s m args below meth c H locs cells slots Q (F0 m pc ls (.int x :: .int i :: .ref (h 8) :: rest)) := by
  subst h1
  exact va_iast (f := m_link σ) S.1 S.2.1 hK hI.1 hI.2.1 hI.2.2 6 0 rfl rfl hi hdg (fun H locs hP hD hS => kk H locs ⟨hP, hD, hS⟩)
theorem mg_number (S : CallFix p m c cc nL s args Ts RX1) (hin : ∀ w ∈ wsX10, w ∈ Ts) (hK : gK G s) (hI : mI s A G h0 h σ H locs) {ix : Nat} (hm : Cond.fieldLink RX1 ix "OwnMemoryModel" "number" "[J" ∈ Ts) (hdg : decode cc pc = .ok (.getfield ix, 3)) (kk : W p l e R s m args below meth c H locs cells slots Q (F0 m (pc + 3) ls (.ref (h 9) :: rest))) : W p l e R s m args below meth c H locs cells slots Q (F0 m pc ls (.ref h0 :: rest)) :=
  va_get (D := G.1) (ci := 3) (v := .ref (h 9)) (C := RX1) (T := TX1) (N := 21) S.1 S.2.1 S.2.2.2.2 hin S.2.2.2.1 hK hI.1 0 rfl rfl 9 (by decide) (S.2.2.2.2 _ hm) (fun _ h9 => h9) rfl hdg kk
theorem mr_number (S : CallFix p m c cc nL s args Ts RX1) (hK : gK G s) (hI : mI s A G h0 h σ H locs) {i : Int32} {x : Int64} (hi : vp_in i 32768) (h1 : x = m_number σ i.toNatClampNeg) (hdg : decode cc pc = .ok (.laload, 1)) (kk : W p l e R s m args below meth c H locs cells slots Q (F0 m (pc + 1) ls (.long x :: rest))) : W p l e R s m args below meth c H locs cells slots Q (F0 m pc ls (.int i :: .ref (h 9) :: rest)) := by
  subst h1
  exact va_lald (f := m_number σ) S.1 S.2.1 hK hI.1 7 1 rfl rfl hi hdg kk
theorem mu_number (S : CallFix p m c cc nL s args Ts RX1) (hK : gK G s) (hI : mI s A G h0 h σ H locs) {i : Int32} {x : Int64} {σ1 : mS} (hi : vp_in i 32768) (h1 : σ1 = m_s_number σ (vp_updL (m_number σ) i.toNatClampNeg x)) (hdg : decode cc pc = .ok (.lastore, 1)) (kk : ∀ (H1 : Heap) (locs1 : List Loc), mI s A G h0 h σ1 H1 locs1 → W p l e R s m args below meth c H1 locs1 cells slots Q (F0 m (pc + 1) ls rest)) : W p l e R s m args below meth c H locs cells slots Q (F0 m pc ls (.long x :: .int i :: .ref (h 9) :: rest)) := by
  subst h1
  exact va_last (f := m_number σ) S.1 S.2.1 hK hI.1 hI.2.1 hI.2.2 7 1 rfl rfl hi hdg (fun H locs hP hD hS => kk H locs ⟨hP, hD, hS⟩)
theorem mg_refers (S : CallFix p m c cc nL s args Ts RX1) (hin : ∀ w ∈ wsX10, w ∈ Ts) (hK : gK G s) (hI : mI s A G h0 h σ H locs) {ix : Nat} (hm : Cond.fieldLink RX1 ix "OwnMemoryModel" "refers" "[I" ∈ Ts) (hdg : decode cc pc = .ok (.getfield ix, 3)) (kk : W p l e R s m args below meth c H locs cells slots Q (F0 m (pc + 3) ls (.ref (h 10) :: rest))) : W p l e R s m args below meth c H locs cells slots Q (F0 m pc ls (.ref h0 :: rest)) :=
  va_get (D := G.1) (ci := 3) (v := .ref (h 10)) (C := RX1) (T := TX1) (N := 21) S.1 S.2.1 S.2.2.2.2 hin S.2.2.2.1 hK hI.1 0 rfl rfl 10 (by decide) (S.2.2.2.2 _ hm) (fun _ h9 => h9) rfl hdg kk
theorem mr_refers (S : CallFix p m c cc nL s args Ts RX1) (hK : gK G s) (hI : mI s A G h0 h σ H locs) {i : Int32} {x : Int32} (hi : vp_in i 32768) (h1 : x = m_refers σ i.toNatClampNeg) (hdg : decode cc pc = .ok (.iaload, 1)) (kk : W p l e R s m args below meth c H locs cells slots Q (F0 m (pc + 1) ls (.int x :: rest))) : W p l e R s m args below meth c H locs cells slots Q (F0 m pc ls (.int i :: .ref (h 10) :: rest)) := by
  subst h1
  exact va_iald (f := m_refers σ) S.1 S.2.1 hK hI.1 8 0 rfl rfl hi hdg kk
theorem mu_refers (S : CallFix p m c cc nL s args Ts RX1) (hK : gK G s) (hI : mI s A G h0 h σ H locs) {i : Int32} {x : Int32} {σ1 : mS} (hi : vp_in i 32768) (h1 : σ1 = m_s_refers σ (upd (m_refers σ) i.toNatClampNeg x)) (hdg : decode cc pc = .ok (.iastore, 1)) (kk : ∀ (H1 : Heap) (locs1 : List Loc), mI s A G h0 h σ1 H1 locs1 → W p l e R s m args below meth c H1 locs1 cells slots Q (F0 m (pc + 1) ls rest)) : W p l e R s m args below meth c H locs cells slots Q (F0 m pc ls (.int x :: .int i :: .ref (h 10) :: rest)) := by
  subst h1
  exact va_iast (f := m_refers σ) S.1 S.2.1 hK hI.1 hI.2.1 hI.2.2 8 0 rfl rfl hi hdg (fun H locs hP hD hS => kk H locs ⟨hP, hD, hS⟩)
theorem mg_word (S : CallFix p m c cc nL s args Ts RX1) (hin : ∀ w ∈ wsX10, w ∈ Ts) (hK : gK G s) (hI : mI s A G h0 h σ H locs) {ix : Nat} (hm : Cond.fieldLink RX1 ix "OwnMemoryModel" "word" "[I" ∈ Ts) (hdg : decode cc pc = .ok (.getfield ix, 3)) (kk : W p l e R s m args below meth c H locs cells slots Q (F0 m (pc + 3) ls (.ref (h 11) :: rest))) : W p l e R s m args below meth c H locs cells slots Q (F0 m pc ls (.ref h0 :: rest)) :=
  va_get (D := G.1) (ci := 3) (v := .ref (h 11)) (C := RX1) (T := TX1) (N := 21) S.1 S.2.1 S.2.2.2.2 hin S.2.2.2.1 hK hI.1 0 rfl rfl 11 (by decide) (S.2.2.2.2 _ hm) (fun _ h9 => h9) rfl hdg kk
theorem mr_word (S : CallFix p m c cc nL s args Ts RX1) (hK : gK G s) (hI : mI s A G h0 h σ H locs) {i : Int32} {x : Int32} (hi : vp_in i 65536) (h1 : x = m_word σ i.toNatClampNeg) (hdg : decode cc pc = .ok (.iaload, 1)) (kk : W p l e R s m args below meth c H locs cells slots Q (F0 m (pc + 1) ls (.int x :: rest))) : W p l e R s m args below meth c H locs cells slots Q (F0 m pc ls (.int i :: .ref (h 11) :: rest)) := by
  subst h1
  exact va_iald (f := m_word σ) S.1 S.2.1 hK hI.1 9 0 rfl rfl hi hdg kk
theorem mu_word (S : CallFix p m c cc nL s args Ts RX1) (hK : gK G s) (hI : mI s A G h0 h σ H locs) {i : Int32} {x : Int32} {σ1 : mS} (hi : vp_in i 65536) (h1 : σ1 = m_s_word σ (upd (m_word σ) i.toNatClampNeg x)) (hdg : decode cc pc = .ok (.iastore, 1)) (kk : ∀ (H1 : Heap) (locs1 : List Loc), mI s A G h0 h σ1 H1 locs1 → W p l e R s m args below meth c H1 locs1 cells slots Q (F0 m (pc + 1) ls rest)) : W p l e R s m args below meth c H locs cells slots Q (F0 m pc ls (.int x :: .int i :: .ref (h 11) :: rest)) := by
  subst h1
  exact va_iast (f := m_word σ) S.1 S.2.1 hK hI.1 hI.2.1 hI.2.2 9 0 rfl rfl hi hdg (fun H locs hP hD hS => kk H locs ⟨hP, hD, hS⟩)
theorem mg_length (S : CallFix p m c cc nL s args Ts RX1) (hin : ∀ w ∈ wsX10, w ∈ Ts) (hK : gK G s) (hI : mI s A G h0 h σ H locs) {ix : Nat} (hm : Cond.fieldLink RX1 ix "OwnMemoryModel" "length" "[I" ∈ Ts) (hdg : decode cc pc = .ok (.getfield ix, 3)) (kk : W p l e R s m args below meth c H locs cells slots Q (F0 m (pc + 3) ls (.ref (h 12) :: rest))) : W p l e R s m args below meth c H locs cells slots Q (F0 m pc ls (.ref h0 :: rest)) :=
  va_get (D := G.1) (ci := 3) (v := .ref (h 12)) (C := RX1) (T := TX1) (N := 21) S.1 S.2.1 S.2.2.2.2 hin S.2.2.2.1 hK hI.1 0 rfl rfl 12 (by decide) (S.2.2.2.2 _ hm) (fun _ h9 => h9) rfl hdg kk
theorem mr_length (S : CallFix p m c cc nL s args Ts RX1) (hK : gK G s) (hI : mI s A G h0 h σ H locs) {i : Int32} {x : Int32} (hi : vp_in i 4096) (h1 : x = m_length σ i.toNatClampNeg) (hdg : decode cc pc = .ok (.iaload, 1)) (kk : W p l e R s m args below meth c H locs cells slots Q (F0 m (pc + 1) ls (.int x :: rest))) : W p l e R s m args below meth c H locs cells slots Q (F0 m pc ls (.int i :: .ref (h 12) :: rest)) := by
  subst h1
  exact va_iald (f := m_length σ) S.1 S.2.1 hK hI.1 10 0 rfl rfl hi hdg kk
theorem mu_length (S : CallFix p m c cc nL s args Ts RX1) (hK : gK G s) (hI : mI s A G h0 h σ H locs) {i : Int32} {x : Int32} {σ1 : mS} (hi : vp_in i 4096) (h1 : σ1 = m_s_length σ (upd (m_length σ) i.toNatClampNeg x)) (hdg : decode cc pc = .ok (.iastore, 1)) (kk : ∀ (H1 : Heap) (locs1 : List Loc), mI s A G h0 h σ1 H1 locs1 → W p l e R s m args below meth c H1 locs1 cells slots Q (F0 m (pc + 1) ls rest)) : W p l e R s m args below meth c H locs cells slots Q (F0 m pc ls (.int x :: .int i :: .ref (h 12) :: rest)) := by
  subst h1
  exact va_iast (f := m_length σ) S.1 S.2.1 hK hI.1 hI.2.1 hI.2.2 10 0 rfl rfl hi hdg (fun H locs hP hD hS => kk H locs ⟨hP, hD, hS⟩)
theorem mg_madeOf (S : CallFix p m c cc nL s args Ts RX1) (hin : ∀ w ∈ wsX10, w ∈ Ts) (hK : gK G s) (hI : mI s A G h0 h σ H locs) {ix : Nat} (hm : Cond.fieldLink RX1 ix "OwnMemoryModel" "madeOf" "[I" ∈ Ts) (hdg : decode cc pc = .ok (.getfield ix, 3)) (kk : W p l e R s m args below meth c H locs cells slots Q (F0 m (pc + 3) ls (.ref (h 13) :: rest))) : W p l e R s m args below meth c H locs cells slots Q (F0 m pc ls (.ref h0 :: rest)) :=
  va_get (D := G.1) (ci := 3) (v := .ref (h 13)) (C := RX1) (T := TX1) (N := 21) S.1 S.2.1 S.2.2.2.2 hin S.2.2.2.1 hK hI.1 0 rfl rfl 13 (by decide) (S.2.2.2.2 _ hm) (fun _ h9 => h9) rfl hdg kk
theorem mr_madeOf (S : CallFix p m c cc nL s args Ts RX1) (hK : gK G s) (hI : mI s A G h0 h σ H locs) {i : Int32} {x : Int32} (hi : vp_in i 4096) (h1 : x = m_madeOf σ i.toNatClampNeg) (hdg : decode cc pc = .ok (.iaload, 1)) (kk : W p l e R s m args below meth c H locs cells slots Q (F0 m (pc + 1) ls (.int x :: rest))) : W p l e R s m args below meth c H locs cells slots Q (F0 m pc ls (.int i :: .ref (h 13) :: rest)) := by
  subst h1
  exact va_iald (f := m_madeOf σ) S.1 S.2.1 hK hI.1 11 0 rfl rfl hi hdg kk
theorem mu_madeOf (S : CallFix p m c cc nL s args Ts RX1) (hK : gK G s) (hI : mI s A G h0 h σ H locs) {i : Int32} {x : Int32} {σ1 : mS} (hi : vp_in i 4096) (h1 : σ1 = m_s_madeOf σ (upd (m_madeOf σ) i.toNatClampNeg x)) (hdg : decode cc pc = .ok (.iastore, 1)) (kk : ∀ (H1 : Heap) (locs1 : List Loc), mI s A G h0 h σ1 H1 locs1 → W p l e R s m args below meth c H1 locs1 cells slots Q (F0 m (pc + 1) ls rest)) : W p l e R s m args below meth c H locs cells slots Q (F0 m pc ls (.int x :: .int i :: .ref (h 13) :: rest)) := by
  subst h1
  exact va_iast (f := m_madeOf σ) S.1 S.2.1 hK hI.1 hI.2.1 hI.2.2 11 0 rfl rfl hi hdg (fun H locs hP hD hS => kk H locs ⟨hP, hD, hS⟩)
theorem mg_a (S : CallFix p m c cc nL s args Ts RX1) (hin : ∀ w ∈ wsX10, w ∈ Ts) (hK : gK G s) (hI : mI s A G h0 h σ H locs) {ix : Nat} (hm : Cond.fieldLink RX1 ix "OwnMemoryModel" "a" "[I" ∈ Ts) (hdg : decode cc pc = .ok (.getfield ix, 3)) (kk : W p l e R s m args below meth c H locs cells slots Q (F0 m (pc + 3) ls (.ref (h 14) :: rest))) : W p l e R s m args below meth c H locs cells slots Q (F0 m pc ls (.ref h0 :: rest)) :=
  va_get (D := G.1) (ci := 3) (v := .ref (h 14)) (C := RX1) (T := TX1) (N := 21) S.1 S.2.1 S.2.2.2.2 hin S.2.2.2.1 hK hI.1 0 rfl rfl 14 (by decide) (S.2.2.2.2 _ hm) (fun _ h9 => h9) rfl hdg kk
theorem mr_a (S : CallFix p m c cc nL s args Ts RX1) (hK : gK G s) (hI : mI s A G h0 h σ H locs) {i : Int32} {x : Int32} (hi : vp_in i 4096) (h1 : x = m_a σ i.toNatClampNeg) (hdg : decode cc pc = .ok (.iaload, 1)) (kk : W p l e R s m args below meth c H locs cells slots Q (F0 m (pc + 1) ls (.int x :: rest))) : W p l e R s m args below meth c H locs cells slots Q (F0 m pc ls (.int i :: .ref (h 14) :: rest)) := by
  subst h1
  exact va_iald (f := m_a σ) S.1 S.2.1 hK hI.1 12 0 rfl rfl hi hdg kk
theorem mu_a (S : CallFix p m c cc nL s args Ts RX1) (hK : gK G s) (hI : mI s A G h0 h σ H locs) {i : Int32} {x : Int32} {σ1 : mS} (hi : vp_in i 4096) (h1 : σ1 = m_s_a σ (upd (m_a σ) i.toNatClampNeg x)) (hdg : decode cc pc = .ok (.iastore, 1)) (kk : ∀ (H1 : Heap) (locs1 : List Loc), mI s A G h0 h σ1 H1 locs1 → W p l e R s m args below meth c H1 locs1 cells slots Q (F0 m (pc + 1) ls rest)) : W p l e R s m args below meth c H locs cells slots Q (F0 m pc ls (.int x :: .int i :: .ref (h 14) :: rest)) := by
  subst h1
  exact va_iast (f := m_a σ) S.1 S.2.1 hK hI.1 hI.2.1 hI.2.2 12 0 rfl rfl hi hdg (fun H locs hP hD hS => kk H locs ⟨hP, hD, hS⟩)
theorem mg_b (S : CallFix p m c cc nL s args Ts RX1) (hin : ∀ w ∈ wsX10, w ∈ Ts) (hK : gK G s) (hI : mI s A G h0 h σ H locs) {ix : Nat} (hm : Cond.fieldLink RX1 ix "OwnMemoryModel" "b" "[I" ∈ Ts) (hdg : decode cc pc = .ok (.getfield ix, 3)) (kk : W p l e R s m args below meth c H locs cells slots Q (F0 m (pc + 3) ls (.ref (h 15) :: rest))) : W p l e R s m args below meth c H locs cells slots Q (F0 m pc ls (.ref h0 :: rest)) :=
  va_get (D := G.1) (ci := 3) (v := .ref (h 15)) (C := RX1) (T := TX1) (N := 21) S.1 S.2.1 S.2.2.2.2 hin S.2.2.2.1 hK hI.1 0 rfl rfl 15 (by decide) (S.2.2.2.2 _ hm) (fun _ h9 => h9) rfl hdg kk
theorem mr_b (S : CallFix p m c cc nL s args Ts RX1) (hK : gK G s) (hI : mI s A G h0 h σ H locs) {i : Int32} {x : Int32} (hi : vp_in i 4096) (h1 : x = m_b σ i.toNatClampNeg) (hdg : decode cc pc = .ok (.iaload, 1)) (kk : W p l e R s m args below meth c H locs cells slots Q (F0 m (pc + 1) ls (.int x :: rest))) : W p l e R s m args below meth c H locs cells slots Q (F0 m pc ls (.int i :: .ref (h 15) :: rest)) := by
  subst h1
  exact va_iald (f := m_b σ) S.1 S.2.1 hK hI.1 13 0 rfl rfl hi hdg kk
theorem mu_b (S : CallFix p m c cc nL s args Ts RX1) (hK : gK G s) (hI : mI s A G h0 h σ H locs) {i : Int32} {x : Int32} {σ1 : mS} (hi : vp_in i 4096) (h1 : σ1 = m_s_b σ (upd (m_b σ) i.toNatClampNeg x)) (hdg : decode cc pc = .ok (.iastore, 1)) (kk : ∀ (H1 : Heap) (locs1 : List Loc), mI s A G h0 h σ1 H1 locs1 → W p l e R s m args below meth c H1 locs1 cells slots Q (F0 m (pc + 1) ls rest)) : W p l e R s m args below meth c H locs cells slots Q (F0 m pc ls (.int x :: .int i :: .ref (h 15) :: rest)) := by
  subst h1
  exact va_iast (f := m_b σ) S.1 S.2.1 hK hI.1 hI.2.1 hI.2.2 13 0 rfl rfl hi hdg (fun H locs hP hD hS => kk H locs ⟨hP, hD, hS⟩)
theorem mg_units (S : CallFix p m c cc nL s args Ts RX1) (hin : ∀ w ∈ wsX10, w ∈ Ts) (hK : gK G s) (hI : mI s A G h0 h σ H locs) {ix : Nat} (hm : Cond.fieldLink RX1 ix "OwnMemoryModel" "units" "[J" ∈ Ts) (hdg : decode cc pc = .ok (.getfield ix, 3)) (kk : W p l e R s m args below meth c H locs cells slots Q (F0 m (pc + 3) ls (.ref (h 16) :: rest))) : W p l e R s m args below meth c H locs cells slots Q (F0 m pc ls (.ref h0 :: rest)) :=
  va_get (D := G.1) (ci := 3) (v := .ref (h 16)) (C := RX1) (T := TX1) (N := 21) S.1 S.2.1 S.2.2.2.2 hin S.2.2.2.1 hK hI.1 0 rfl rfl 16 (by decide) (S.2.2.2.2 _ hm) (fun _ h9 => h9) rfl hdg kk
theorem mr_units (S : CallFix p m c cc nL s args Ts RX1) (hK : gK G s) (hI : mI s A G h0 h σ H locs) {i : Int32} {x : Int64} (hi : vp_in i 4096) (h1 : x = m_units σ i.toNatClampNeg) (hdg : decode cc pc = .ok (.laload, 1)) (kk : W p l e R s m args below meth c H locs cells slots Q (F0 m (pc + 1) ls (.long x :: rest))) : W p l e R s m args below meth c H locs cells slots Q (F0 m pc ls (.int i :: .ref (h 16) :: rest)) := by
  subst h1
  exact va_lald (f := m_units σ) S.1 S.2.1 hK hI.1 14 1 rfl rfl hi hdg kk
theorem mu_units (S : CallFix p m c cc nL s args Ts RX1) (hK : gK G s) (hI : mI s A G h0 h σ H locs) {i : Int32} {x : Int64} {σ1 : mS} (hi : vp_in i 4096) (h1 : σ1 = m_s_units σ (vp_updL (m_units σ) i.toNatClampNeg x)) (hdg : decode cc pc = .ok (.lastore, 1)) (kk : ∀ (H1 : Heap) (locs1 : List Loc), mI s A G h0 h σ1 H1 locs1 → W p l e R s m args below meth c H1 locs1 cells slots Q (F0 m (pc + 1) ls rest)) : W p l e R s m args below meth c H locs cells slots Q (F0 m pc ls (.long x :: .int i :: .ref (h 16) :: rest)) := by
  subst h1
  exact va_last (f := m_units σ) S.1 S.2.1 hK hI.1 hI.2.1 hI.2.2 14 1 rfl rfl hi hdg (fun H locs hP hD hS => kk H locs ⟨hP, hD, hS⟩)
theorem mg_spread (S : CallFix p m c cc nL s args Ts RX1) (hin : ∀ w ∈ wsX10, w ∈ Ts) (hK : gK G s) (hI : mI s A G h0 h σ H locs) {ix : Nat} (hm : Cond.fieldLink RX1 ix "OwnMemoryModel" "spread" "[I" ∈ Ts) (hdg : decode cc pc = .ok (.getfield ix, 3)) (kk : W p l e R s m args below meth c H locs cells slots Q (F0 m (pc + 3) ls (.ref (h 17) :: rest))) : W p l e R s m args below meth c H locs cells slots Q (F0 m pc ls (.ref h0 :: rest)) :=
  va_get (D := G.1) (ci := 3) (v := .ref (h 17)) (C := RX1) (T := TX1) (N := 21) S.1 S.2.1 S.2.2.2.2 hin S.2.2.2.1 hK hI.1 0 rfl rfl 17 (by decide) (S.2.2.2.2 _ hm) (fun _ h9 => h9) rfl hdg kk
theorem mr_spread (S : CallFix p m c cc nL s args Ts RX1) (hK : gK G s) (hI : mI s A G h0 h σ H locs) {i : Int32} {x : Int32} (hi : vp_in i 4096) (h1 : x = m_spread σ i.toNatClampNeg) (hdg : decode cc pc = .ok (.iaload, 1)) (kk : W p l e R s m args below meth c H locs cells slots Q (F0 m (pc + 1) ls (.int x :: rest))) : W p l e R s m args below meth c H locs cells slots Q (F0 m pc ls (.int i :: .ref (h 17) :: rest)) := by
  subst h1
  exact va_iald (f := m_spread σ) S.1 S.2.1 hK hI.1 15 0 rfl rfl hi hdg kk
theorem mu_spread (S : CallFix p m c cc nL s args Ts RX1) (hK : gK G s) (hI : mI s A G h0 h σ H locs) {i : Int32} {x : Int32} {σ1 : mS} (hi : vp_in i 4096) (h1 : σ1 = m_s_spread σ (upd (m_spread σ) i.toNatClampNeg x)) (hdg : decode cc pc = .ok (.iastore, 1)) (kk : ∀ (H1 : Heap) (locs1 : List Loc), mI s A G h0 h σ1 H1 locs1 → W p l e R s m args below meth c H1 locs1 cells slots Q (F0 m (pc + 1) ls rest)) : W p l e R s m args below meth c H locs cells slots Q (F0 m pc ls (.int x :: .int i :: .ref (h 17) :: rest)) := by
  subst h1
  exact va_iast (f := m_spread σ) S.1 S.2.1 hK hI.1 hI.2.1 hI.2.2 15 0 rfl rfl hi hdg (fun H locs hP hD hS => kk H locs ⟨hP, hD, hS⟩)
theorem mg_there (S : CallFix p m c cc nL s args Ts RX1) (hin : ∀ w ∈ wsX10, w ∈ Ts) (hK : gK G s) (hI : mI s A G h0 h σ H locs) {ix : Nat} (hm : Cond.fieldLink RX1 ix "OwnMemoryModel" "there" "[Z" ∈ Ts) (hdg : decode cc pc = .ok (.getfield ix, 3)) (kk : W p l e R s m args below meth c H locs cells slots Q (F0 m (pc + 3) ls (.ref (h 18) :: rest))) : W p l e R s m args below meth c H locs cells slots Q (F0 m pc ls (.ref h0 :: rest)) :=
  va_get (D := G.1) (ci := 3) (v := .ref (h 18)) (C := RX1) (T := TX1) (N := 21) S.1 S.2.1 S.2.2.2.2 hin S.2.2.2.1 hK hI.1 0 rfl rfl 18 (by decide) (S.2.2.2.2 _ hm) (fun _ h9 => h9) rfl hdg kk
theorem mr_there (S : CallFix p m c cc nL s args Ts RX1) (hK : gK G s) (hI : mI s A G h0 h σ H locs) {i : Int32} {x : Int32} (hi : vp_in i 4096) (h1 : x = m_there σ i.toNatClampNeg) (hdg : decode cc pc = .ok (.baload, 1)) (kk : W p l e R s m args below meth c H locs cells slots Q (F0 m (pc + 1) ls (.int x :: rest))) : W p l e R s m args below meth c H locs cells slots Q (F0 m pc ls (.int i :: .ref (h 18) :: rest)) := by
  subst h1
  exact va_zald (f := m_there σ) S.1 S.2.1 hK hI.1 16 2 rfl rfl hi hdg kk
theorem mu_there (S : CallFix p m c cc nL s args Ts RX1) (hK : gK G s) (hI : mI s A G h0 h σ H locs) {i : Int32} {x : Int32} {σ1 : mS} (hi : vp_in i 4096) (h1 : σ1 = m_s_there σ (upd (m_there σ) i.toNatClampNeg (vp_nar .boolean x))) (hdg : decode cc pc = .ok (.bastore, 1)) (kk : ∀ (H1 : Heap) (locs1 : List Loc), mI s A G h0 h σ1 H1 locs1 → W p l e R s m args below meth c H1 locs1 cells slots Q (F0 m (pc + 1) ls rest)) : W p l e R s m args below meth c H locs cells slots Q (F0 m pc ls (.int x :: .int i :: .ref (h 18) :: rest)) := by
  subst h1
  exact va_zast (f := m_there σ) S.1 S.2.1 hK hI.1 hI.2.1 hI.2.2 16 2 rfl rfl hi hdg (fun H locs hP hD hS => kk H locs ⟨hP, hD, hS⟩)
theorem mg_waiting (S : CallFix p m c cc nL s args Ts RX1) (hin : ∀ w ∈ wsX10, w ∈ Ts) (hK : gK G s) (hI : mI s A G h0 h σ H locs) {ix : Nat} (hm : Cond.fieldLink RX1 ix "OwnMemoryModel" "waiting" "[I" ∈ Ts) (hdg : decode cc pc = .ok (.getfield ix, 3)) (kk : W p l e R s m args below meth c H locs cells slots Q (F0 m (pc + 3) ls (.ref (h 19) :: rest))) : W p l e R s m args below meth c H locs cells slots Q (F0 m pc ls (.ref h0 :: rest)) :=
  va_get (D := G.1) (ci := 3) (v := .ref (h 19)) (C := RX1) (T := TX1) (N := 21) S.1 S.2.1 S.2.2.2.2 hin S.2.2.2.1 hK hI.1 0 rfl rfl 19 (by decide) (S.2.2.2.2 _ hm) (fun _ h9 => h9) rfl hdg kk
theorem mr_waiting (S : CallFix p m c cc nL s args Ts RX1) (hK : gK G s) (hI : mI s A G h0 h σ H locs) {i : Int32} {x : Int32} (hi : vp_in i 4096) (h1 : x = m_waiting σ i.toNatClampNeg) (hdg : decode cc pc = .ok (.iaload, 1)) (kk : W p l e R s m args below meth c H locs cells slots Q (F0 m (pc + 1) ls (.int x :: rest))) : W p l e R s m args below meth c H locs cells slots Q (F0 m pc ls (.int i :: .ref (h 19) :: rest)) := by
  subst h1
  exact va_iald (f := m_waiting σ) S.1 S.2.1 hK hI.1 17 0 rfl rfl hi hdg kk
theorem mu_waiting (S : CallFix p m c cc nL s args Ts RX1) (hK : gK G s) (hI : mI s A G h0 h σ H locs) {i : Int32} {x : Int32} {σ1 : mS} (hi : vp_in i 4096) (h1 : σ1 = m_s_waiting σ (upd (m_waiting σ) i.toNatClampNeg x)) (hdg : decode cc pc = .ok (.iastore, 1)) (kk : ∀ (H1 : Heap) (locs1 : List Loc), mI s A G h0 h σ1 H1 locs1 → W p l e R s m args below meth c H1 locs1 cells slots Q (F0 m (pc + 1) ls rest)) : W p l e R s m args below meth c H locs cells slots Q (F0 m pc ls (.int x :: .int i :: .ref (h 19) :: rest)) := by
  subst h1
  exact va_iast (f := m_waiting σ) S.1 S.2.1 hK hI.1 hI.2.1 hI.2.2 17 0 rfl rfl hi hdg (fun H locs hP hD hS => kk H locs ⟨hP, hD, hS⟩)
theorem mg_wait (S : CallFix p m c cc nL s args Ts RX1) (hin : ∀ w ∈ wsX10, w ∈ Ts) (hK : gK G s) (hI : mI s A G h0 h σ H locs) {ix : Nat} (hm : Cond.fieldLink RX1 ix "OwnMemoryModel" "wait" "I" ∈ Ts) (hdg : decode cc pc = .ok (.getfield ix, 3)) (kk : W p l e R s m args below meth c H locs cells slots Q (F0 m (pc + 3) ls (.int (m_wait σ) :: rest))) : W p l e R s m args below meth c H locs cells slots Q (F0 m pc ls (.ref h0 :: rest)) :=
  va_get (D := G.1) (ci := 3) (v := .int (m_wait σ)) (C := RX1) (T := TX1) (N := 21) S.1 S.2.1 S.2.2.2.2 hin S.2.2.2.1 hK hI.1 0 rfl rfl 20 (by decide) (S.2.2.2.2 _ hm) (fun _ h9 => h9) rfl hdg kk
theorem mp_wait (S : CallFix p m c cc nL s args Ts RX1) (hin : ∀ w ∈ wsX10, w ∈ Ts) (hK : gK G s) (hI : mI s A G h0 h σ H locs) {ix : Nat} {x : Int32} {σ1 : mS} (hm : Cond.fieldLink RX1 ix "OwnMemoryModel" "wait" "I" ∈ Ts) (h1 : σ1 = m_s_wait σ x) (hdg : decode cc pc = .ok (.putfield ix, 3)) (kk : ∀ (H1 : Heap) (locs1 : List Loc), mI s A G h0 h σ1 H1 locs1 → W p l e R s m args below meth c H1 locs1 cells slots Q (F0 m (pc + 3) ls rest)) : W p l e R s m args below meth c H locs cells slots Q (F0 m pc ls (.int x :: .ref h0 :: rest)) := by
  subst h1
  exact va_put (D := G.1) (ci := 3) (v := .int x) (ty := .int) (C := RX1) (T := TX1) (N := 21) S.1 S.2.1 S.2.2.2.2 hin tyX1 tyX1_ok nmX1 S.2.2.2.1 hK hI.1 hI.2.1 hI.2.2 0 rfl rfl 20 (by decide) (S.2.2.2.2 _ hm) (fun _ h9 => h9) rfl (by decide +kernel) rfl rfl (Nat.le_of_ble_eq_true rfl) hdg (fun H locs hP hD hS => kk H locs ⟨hP, hD, hS⟩)
end MW
end
section
/-! calls, ends and entries over the two worlds -/
def sPre (sz : Nat) (av : List Value) : Array Value → State → Prop := va_Pc av (fun U => U.heap.size = sz)
theorem sPre_blind {sz : Nat} {av : List Value} : FrameBlind (sPre sz av) := by
  intro a U g mk q
  obtain ⟨q0, q1⟩ := q
  exact ⟨q0, q1⟩
def sQi (r : Int32) (sz : Nat) : Array Value → State → Outcome → State → Prop := va_Qi (fun (a : Int32) (_ : Unit) => a = r) (fun _ _ => True) (fun q => sz ≤ q)
def sI (s : State) (H : Heap) (locs : List Loc) : Prop := va_S (fun q => s.heap.size ≤ q) s.heap H locs
section SE
variable {p : Program} {l : Launch} {e : Env} {R : Room} {s : State} {m : MethodId} {args : Array Value} {below : List Frame} {meth : Method} {c : Code} {H : Heap} {locs : List Loc} {cells slots : Nat} {Q : State → Prop}
variable {cc : ByteArray} {pc : Nat} {ls : Array Slot} {rest st0 : List Value} {A : Nat → Prop} {G : gT} {h0 : Nat} {nL : Nat} {Ts : List Cond}
variable {y : MethodName} {ws ws' : List Cond} {rm : Room} {bytes : ByteArray} {maxL n index mc ms : Nat} {ret : Option FieldType} {As : List Value}
variable {own : String}
theorem wn_i {x y : Int32} (h : y = x) (k : W p l e R s m args below meth c H locs cells slots Q (F0 m pc ls (.int y :: rest))) : W p l e R s m args below meth c H locs cells slots Q (F0 m pc ls (.int x :: rest)) := h ▸ k
theorem wn_l {x y : Int64} (h : y = x) (k : W p l e R s m args below meth c H locs cells slots Q (F0 m pc ls (.long y :: rest))) : W p l e R s m args below meth c H locs cells slots Q (F0 m pc ls (.long x :: rest)) := h ▸ k
theorem se_i (S : CallFix p m c cc nL s args Ts own) (hr : meth.sig.returnType = some .int) (hlocks : meth.locks = false) (hS : sI s H locs) {r r0 : Int32} (hg : some r0 = some r) (hdg : decode cc pc = .ok (.ireturn, 1)) :
    W p l e R s m args below meth c H locs cells slots (MQ below (sQi r s.heap.size) args s cells slots (fun q => s.heap.size ≤ q)) (F0 m pc ls [.int r0]) := by
  have e1 := sm_e hg
  subst e1
  exact W.iret S.1 S.2.1 hr (fun t ht hW => ⟨⟨r0, (), rfl, rfl, trivial⟩, va_S.F hS ht⟩) hS.2.2 hdg hlocks
theorem se_z (S : CallFix p m c cc nL s args Ts own) (hr : meth.sig.returnType = some .boolean) (hlocks : meth.locks = false) (hS : sI s H locs) {r r0 : Int32} (hz : narrow .boolean (.int r0) = .int r0) (hg : some r0 = some r) (hdg : decode cc pc = .ok (.ireturn, 1)) :
    W p l e R s m args below meth c H locs cells slots (MQ below (sQi r s.heap.size) args s cells slots (fun q => s.heap.size ≤ q)) (F0 m pc ls [.int r0]) := by
  have e1 := sm_e hg
  subst e1
  exact W.zret S.1 S.2.1 hr hz (fun t ht hW => ⟨⟨r0, (), rfl, rfl, trivial⟩, va_S.F hS ht⟩) hS.2.2 hdg hlocks
/-- a call of a pure static method out of one -/
theorem ss_i (S : CallFix p m c cc nL s args Ts own) (hS : sI s H locs) {r : Int32}
    (hM : Met l y ws rm (sPre H.size As) (sQi r H.size) mc ms (fun q => H.size ≤ q))
    (cw : CallB R s args own index y bytes maxL ret ws rm mc ms n ∧ (Cond.static y).before args s = true) (hn : As.length = n) (hs : ls.size = nL) (hst : st0 = As.reverse ++ rest) (hW : (rest.map fun v => v.category).sum ≤ 8)
    (hdg : decode cc pc = .ok (.invokestatic index, 3)) (hf : cells + mc ≤ R.cells ∧ slots + ms ≤ R.slots)
    (kk : ∀ (H1 : Heap) (locs1 : List Loc), sI s H1 locs1 → W p l e R s m args below meth c H1 locs1 (cells + mc) (slots + ms) Q (F0 m (pc + 3) ls (.int r :: rest))) :
    W p l e R s m args below meth c H locs cells slots Q (F0 m pc ls st0) := by
  subst hst
  refine va_calli (va_runS (As := As) (rest := rest) S hM cw ⟨sPre_blind, fun U hU _ => ⟨rfl, congrArg (fun X : Heap => Array.size X) hU⟩⟩ rfl hn hs rfl (lv_room hW) hdg hf) hS (fun q hq h => absurd h (Nat.not_le.mpr hq)) (fun q h => Nat.le_trans hS.1 h) (fun r1 u t H1 locs1 ht hvm hw hB hz1 hk1 hS => ?_)
  have hw : r1 = r := hw
  subst hw
  exact kk H1 locs1 hS
theorem sMet {av : List Value} {sz : Nat} {Qc : Nat → Array Value → State → Outcome → State → Prop} (hy : plainName y.cls = true) (hR : y.cls = own) (hw : ws = Cond.code y cc maxL ret :: ws') (hlen : (lg_sl av).length ≤ maxL)
    (body : ∀ (p : Program) (e : Env) (s : State) (m : MethodId) (args : Array Value) (below : List Frame) (meth : Method) (c : Code), CallFix p m c cc maxL s args ws own → meth.sig.returnType = ret → meth.locks = false → ∀ (H : Heap) (locs : List Loc), sI s H locs → ∀ ls : Array Slot, lv_has ls maxL (lv_args 0 av) →
      W p l e rm s m args below meth c H locs 0 0 (MQ below (Qc s.heap.size) args s mc ms (fun q => s.heap.size ≤ q)) (F0 m 0 ls [])) : Met l y ws rm (sPre sz av) (Qc sz) mc ms (fun q => sz ≤ q) := by
  refine Met.ofW (cc := cc) (maxL := maxL) (ret := ret) hy hw ?_
  intro p e s m args below meth c s₁ B hml hv
  obtain ⟨rfl, hsz⟩ := hv
  subst hsz
  have hts := atoms_spec (ws := ws) B.pre
  have hown : s.vm.findClass own = some m.cls := by rw [← hR]; exact findClass_of_methodNamed B.named
  rw [lg_entry_eq]
  exact body p e s m _ below meth c ⟨B.exec, B.bytes, hml, hown, hts⟩ B.returns B.notSynchronized _ _ va_S.rf _ (lv_entry _ hlen)
end SE

theorem oPre_blind {G : gT} {h0 : Nat} {h : oH} {σ : oS} {sz : Nat} {av : List Value} : FrameBlind (oPre G h0 h σ sz av) := by
  intro a U g mk q
  obtain ⟨q0, q1, qP, qK, qD⟩ := q
  exact ⟨q0, q1, qP, gK.moved (u := U) (U := U.calling g mk a) (Vm.Alike.refl U.vm) qK, qD⟩
def oQi (G : gT) (h0 : Nat) (h : oH) (r : Int32) (σ' : oS) (A : Nat → Prop) : Array Value → State → Outcome → State → Prop := va_Qi (fun (a : Int32) (u : oS) => a = r ∧ u = σ') (oAt G A h0 h) A
def oQl (G : gT) (h0 : Nat) (h : oH) (r : Int64) (σ' : oS) (A : Nat → Prop) : Array Value → State → Outcome → State → Prop := va_Ql (fun (a : Int64) (u : oS) => a = r ∧ u = σ') (oAt G A h0 h) A
def oQv (G : gT) (h0 : Nat) (h : oH) (σ' : oS) (A : Nat → Prop) : Array Value → State → Outcome → State → Prop := va_Qv (fun (u : oS) => u = σ') (oAt G A h0 h) A
section OC
variable {p : Program} {l : Launch} {e : Env} {R : Room} {s : State} {m : MethodId} {args : Array Value} {below : List Frame} {meth : Method} {c : Code} {H : Heap} {locs : List Loc} {cells slots : Nat} {Q : State → Prop}
variable {cc : ByteArray} {pc : Nat} {ls : Array Slot} {rest st0 : List Value} {A : Nat → Prop} {G : gT} {h0 : Nat} {nL : Nat} {Ts : List Cond}
variable {y : MethodName} {ws ws' : List Cond} {rm : Room} {bytes : ByteArray} {maxL n index mc ms : Nat} {ret : Option FieldType} {As : List Value}

variable {h : oH} {σ σ' : oS}
theorem ofr (hA : ∀ q, s.heap.size ≤ q → A q) (hI : oI s A G h0 h σ H locs) : ∀ q, oA G h0 h σ H.size q → A q := va_free (wc := ow G h0 h σ) hI.2.1 hI.2.2 hA [0, 1, 2, 3, 4] rfl
theorem opv (hK : gK G s) (hI : oI s A G h0 h σ H locs) : PreV s H RX0 h0 (oPre G h0 h σ H.size As) As :=
  ⟨oPre_blind, va_recv hK hI.1 (ci := 2) (q0 := 0) rfl rfl, fun U hU hW => ⟨rfl, by rw [hU], by rw [hU]; exact hI.1, gK.moved hW.alike hK, hI.2.1.weaken (fun _ _ _ _ => trivial)⟩⟩
/-- a call of a method of the same object: an int, a long, nothing -/
theorem oc_i (S : CallFix p m c cc nL s args Ts RX0) (hK : gK G s) (hA : ∀ q, s.heap.size ≤ q → A q) (hI : oI s A G h0 h σ H locs) {r : Int32}
    (hM : Met l y ws rm (oPre G h0 h σ H.size As) (oQi G h0 h r σ' (oA G h0 h σ H.size)) mc ms (oA G h0 h σ H.size))
    (cw : CallW R s args RX0 RX0 index y bytes maxL ret ws rm mc ms n) (hn : As.length = n) (hs : ls.size = nL) (hst : st0 = As.reverse ++ .ref h0 :: rest) (hW : (rest.map fun v => v.category).sum ≤ 8)
    (hdg : decode cc pc = .ok (.invokevirtual index, 3)) (hf : cells + mc ≤ R.cells ∧ slots + ms ≤ R.slots)
    (kk : ∀ (H1 : Heap) (locs1 : List Loc), oI s A G h0 h σ' H1 locs1 → W p l e R s m args below meth c H1 locs1 (cells + mc) (slots + ms) Q (F0 m (pc + 3) ls (.int r :: rest))) :
    W p l e R s m args below meth c H locs cells slots Q (F0 m pc ls st0) := by
  have hFc := ofr hA hI
  subst hst
  refine va_calli (va_runV (As := As) (rest := rest) S hM cw (opv hK hI) rfl hn hs rfl (lv_room hW) hdg hf) hI.2.2 (fun q _ h => hFc q h) hFc (fun r1 u t H1 locs1 ht hvm hw hB hz1 hk1 hS => ?_)
  obtain ⟨e1, e2⟩ := hw
  subst e1; subst e2
  obtain ⟨hP1, hK1, hD1⟩ := hB
  rw [ht] at hP1
  exact kk H1 locs1 ⟨hP1, hD1.weaken (fun k q _ h => hFc q.1 h), hS⟩
theorem oc_l (S : CallFix p m c cc nL s args Ts RX0) (hK : gK G s) (hA : ∀ q, s.heap.size ≤ q → A q) (hI : oI s A G h0 h σ H locs) {r : Int64}
    (hM : Met l y ws rm (oPre G h0 h σ H.size As) (oQl G h0 h r σ' (oA G h0 h σ H.size)) mc ms (oA G h0 h σ H.size))
    (cw : CallW R s args RX0 RX0 index y bytes maxL ret ws rm mc ms n) (hn : As.length = n) (hs : ls.size = nL) (hst : st0 = As.reverse ++ .ref h0 :: rest) (hW : (rest.map fun v => v.category).sum ≤ 8)
    (hdg : decode cc pc = .ok (.invokevirtual index, 3)) (hf : cells + mc ≤ R.cells ∧ slots + ms ≤ R.slots)
    (kk : ∀ (H1 : Heap) (locs1 : List Loc), oI s A G h0 h σ' H1 locs1 → W p l e R s m args below meth c H1 locs1 (cells + mc) (slots + ms) Q (F0 m (pc + 3) ls (.long r :: rest))) :
    W p l e R s m args below meth c H locs cells slots Q (F0 m pc ls st0) := by
  have hFc := ofr hA hI
  subst hst
  refine va_calll (va_runV (As := As) (rest := rest) S hM cw (opv hK hI) rfl hn hs rfl (lv_room hW) hdg hf) hI.2.2 (fun q _ h => hFc q h) hFc (fun r1 u t H1 locs1 ht hvm hw hB hz1 hk1 hS => ?_)
  obtain ⟨e1, e2⟩ := hw
  subst e1; subst e2
  obtain ⟨hP1, hK1, hD1⟩ := hB
  rw [ht] at hP1
  exact kk H1 locs1 ⟨hP1, hD1.weaken (fun k q _ h => hFc q.1 h), hS⟩
theorem oc_v (S : CallFix p m c cc nL s args Ts RX0) (hK : gK G s) (hA : ∀ q, s.heap.size ≤ q → A q) (hI : oI s A G h0 h σ H locs)
    (hM : Met l y ws rm (oPre G h0 h σ H.size As) (oQv G h0 h σ' (oA G h0 h σ H.size)) mc ms (oA G h0 h σ H.size))
    (cw : CallW R s args RX0 RX0 index y bytes maxL ret ws rm mc ms n) (hn : As.length = n) (hs : ls.size = nL) (hst : st0 = As.reverse ++ .ref h0 :: rest) (hW : (rest.map fun v => v.category).sum ≤ 8)
    (hdg : decode cc pc = .ok (.invokevirtual index, 3)) (hf : cells + mc ≤ R.cells ∧ slots + ms ≤ R.slots)
    (kk : ∀ (H1 : Heap) (locs1 : List Loc), oI s A G h0 h σ' H1 locs1 → W p l e R s m args below meth c H1 locs1 (cells + mc) (slots + ms) Q (F0 m (pc + 3) ls rest)) :
    W p l e R s m args below meth c H locs cells slots Q (F0 m pc ls st0) := by
  have hFc := ofr hA hI
  subst hst
  refine va_callv (va_runV (As := As) (rest := rest) S hM cw (opv hK hI) rfl hn hs rfl (lv_room hW) hdg hf) hI.2.2 (fun q _ h => hFc q h) hFc (fun u t H1 locs1 ht hvm hw hB hz1 hk1 hS => ?_)
  subst hw
  obtain ⟨hP1, hK1, hD1⟩ := hB
  rw [ht] at hP1
  exact kk H1 locs1 ⟨hP1, hD1.weaken (fun k q _ h => hFc q.1 h), hS⟩
/-- a call of a pure static method with an int -/
theorem os_i {own : String} (S : CallFix p m c cc nL s args Ts own) (hA : ∀ q, s.heap.size ≤ q → A q) (hI : oI s A G h0 h σ H locs) {r : Int32}
    (hM : Met l y ws rm (sPre H.size As) (sQi r H.size) mc ms (fun q => H.size ≤ q))
    (cw : CallB R s args own index y bytes maxL ret ws rm mc ms n ∧ (Cond.static y).before args s = true) (hn : As.length = n) (hs : ls.size = nL) (hst : st0 = As.reverse ++ rest) (hW : (rest.map fun v => v.category).sum ≤ 8)
    (hdg : decode cc pc = .ok (.invokestatic index, 3)) (hf : cells + mc ≤ R.cells ∧ slots + ms ≤ R.slots)
    (kk : ∀ (H1 : Heap) (locs1 : List Loc), oI s A G h0 h σ H1 locs1 → W p l e R s m args below meth c H1 locs1 (cells + mc) (slots + ms) Q (F0 m (pc + 3) ls (.int r :: rest))) :
    W p l e R s m args below meth c H locs cells slots Q (F0 m pc ls st0) := by
  subst hst
  refine va_calli (va_runS (As := As) (rest := rest) S hM cw ⟨sPre_blind, fun U hU _ => ⟨rfl, congrArg (fun X : Heap => Array.size X) hU⟩⟩ rfl hn hs rfl (lv_room hW) hdg hf) hI.2.2 (fun q hq h => absurd h (Nat.not_le.mpr hq)) (fun q h => hA q (Nat.le_trans hI.2.2.1 h)) (fun r1 u t H1 locs1 ht hvm hw hB hz1 hk1 hS => ?_)
  have hw : r1 = r := hw
  subst hw
  exact kk H1 locs1 ⟨hI.1.kept (fun k q hq => hk1 q.1 (hI.1 k q hq).lt (Nat.not_le.mpr (hI.1 k q hq).lt)), hI.2.1, hS⟩
/-- ends -/
theorem oe_i (S : CallFix p m c cc nL s args Ts RX0) (hr : meth.sig.returnType = some .int) (hlocks : meth.locks = false) (hK : gK G s) (hI : oI s A G h0 h σ H locs) {r r0 : Int32} (hg : some (r0, σ) = some (r, σ')) (hdg : decode cc pc = .ok (.ireturn, 1)) :
    W p l e R s m args below meth c H locs cells slots (MQ below (oQi G h0 h r σ' A) args s cells slots A) (F0 m pc ls [.int r0]) := by
  obtain ⟨e1, e2⟩ := pr_e hg
  subst e1; subst e2
  exact W.iret S.1 S.2.1 hr (fun t ht hW => ⟨⟨r0, σ, rfl, ⟨rfl, rfl⟩, by rw [ht]; exact hI.1, gK.moved hW.alike hK, hI.2.1⟩, hI.2.2.F ht⟩) hI.2.2.2.2 hdg hlocks
theorem oe_z (S : CallFix p m c cc nL s args Ts RX0) (hr : meth.sig.returnType = some .boolean) (hlocks : meth.locks = false) (hK : gK G s) (hI : oI s A G h0 h σ H locs) {r r0 : Int32} (hz : narrow .boolean (.int r0) = .int r0) (hg : some (r0, σ) = some (r, σ')) (hdg : decode cc pc = .ok (.ireturn, 1)) :
    W p l e R s m args below meth c H locs cells slots (MQ below (oQi G h0 h r σ' A) args s cells slots A) (F0 m pc ls [.int r0]) := by
  obtain ⟨e1, e2⟩ := pr_e hg
  subst e1; subst e2
  exact W.zret S.1 S.2.1 hr hz (fun t ht hW => ⟨⟨r0, σ, rfl, ⟨rfl, rfl⟩, by rw [ht]; exact hI.1, gK.moved hW.alike hK, hI.2.1⟩, hI.2.2.F ht⟩) hI.2.2.2.2 hdg hlocks
theorem oe_l (S : CallFix p m c cc nL s args Ts RX0) (hr : meth.sig.returnType = some .long) (hlocks : meth.locks = false) (hK : gK G s) (hI : oI s A G h0 h σ H locs) {r r0 : Int64} (hg : some (r0, σ) = some (r, σ')) (hdg : decode cc pc = .ok (.lreturn, 1)) :
    W p l e R s m args below meth c H locs cells slots (MQ below (oQl G h0 h r σ' A) args s cells slots A) (F0 m pc ls [.long r0]) := by
  obtain ⟨e1, e2⟩ := pr_e hg
  subst e1; subst e2
  exact W.lret S.1 S.2.1 hr (fun t ht hW => ⟨⟨r0, σ, rfl, ⟨rfl, rfl⟩, by rw [ht]; exact hI.1, gK.moved hW.alike hK, hI.2.1⟩, hI.2.2.F ht⟩) hI.2.2.2.2 hdg hlocks
theorem oe_v (S : CallFix p m c cc nL s args Ts RX0) (hr : meth.sig.returnType = none) (hlocks : meth.locks = false) (hK : gK G s) (hI : oI s A G h0 h σ H locs) (hg : some σ = some σ') (hdg : decode cc pc = .ok (.return_, 1)) :
    W p l e R s m args below meth c H locs cells slots (MQ below (oQv G h0 h σ' A) args s cells slots A) (F0 m pc ls []) := by
  have e1 := sm_e hg
  subst e1
  exact W.vret S.1 S.2.1 hr (fun t ht hW => ⟨⟨σ, rfl, rfl, by rw [ht]; exact hI.1, gK.moved hW.alike hK, hI.2.1⟩, hI.2.2.F ht⟩) hI.2.2.2.2 hdg hlocks
/-- a contract out of a walk from the entry -/
theorem oMet {Qc : (Nat → Prop) → Array Value → State → Outcome → State → Prop} {av : List Value} {sz : Nat} (hy : plainName y.cls = true) (hR : y.cls = RX0) (hw : ws = Cond.code y cc maxL ret :: ws') (hlen : (lg_sl (.ref h0 :: av)).length ≤ maxL)
    (body : ∀ (p : Program) (e : Env) (s : State) (m : MethodId) (args : Array Value) (below : List Frame) (meth : Method) (c : Code) (A : Nat → Prop), CallFix p m c cc maxL s args ws RX0 → meth.sig.returnType = ret → meth.locks = false → gK G s → (∀ q, s.heap.size ≤ q → A q) → ∀ (H : Heap) (locs : List Loc), oI s A G h0 h σ H locs → ∀ ls : Array Slot, lv_has ls maxL (lv_args 0 (.ref h0 :: av)) →
      W p l e rm s m args below meth c H locs 0 0 (MQ below (Qc A) args s mc ms A) (F0 m 0 ls [])) : Met l y ws rm (oPre G h0 h σ sz av) (Qc (oA G h0 h σ sz)) mc ms (oA G h0 h σ sz) := by
  refine Met.ofW (cc := cc) (maxL := maxL) (ret := ret) hy hw ?_
  intro p e s m args below meth c s₁ B hml hv
  obtain ⟨rfl, hsz, hP, hK, hD0⟩ := hv
  subst hsz
  have hts := atoms_spec (ws := ws) B.pre
  have hown : s.vm.findClass RX0 = some m.cls := by rw [← hR]; exact findClass_of_methodNamed B.named
  rw [lg_entry_eq]
  exact body p e s m _ below meth c (oA G h0 h σ s.heap.size) ⟨B.exec, B.bytes, hml, hown, hts⟩ B.returns B.notSynchronized hK (fun q h => Or.inr h) _ _ ⟨hP, hD0.self (sz := s.heap.size), va_S.rf⟩ _ (lv_entry _ hlen)
end OC

theorem mPre_blind {G : gT} {h0 : Nat} {h : (Nat → Nat)} {σ : mS} {sz : Nat} {av : List Value} : FrameBlind (mPre G h0 h σ sz av) := by
  intro a U g mk q
  obtain ⟨q0, q1, qP, qK, qD⟩ := q
  exact ⟨q0, q1, qP, gK.moved (u := U) (U := U.calling g mk a) (Vm.Alike.refl U.vm) qK, qD⟩
def mQi (G : gT) (h0 : Nat) (h : (Nat → Nat)) (r : Int32) (σ' : mS) (A : Nat → Prop) : Array Value → State → Outcome → State → Prop := va_Qi (fun (a : Int32) (u : mS) => a = r ∧ u = σ') (mAt G A h0 h) A
def mQl (G : gT) (h0 : Nat) (h : (Nat → Nat)) (r : Int64) (σ' : mS) (A : Nat → Prop) : Array Value → State → Outcome → State → Prop := va_Ql (fun (a : Int64) (u : mS) => a = r ∧ u = σ') (mAt G A h0 h) A
def mQv (G : gT) (h0 : Nat) (h : (Nat → Nat)) (σ' : mS) (A : Nat → Prop) : Array Value → State → Outcome → State → Prop := va_Qv (fun (u : mS) => u = σ') (mAt G A h0 h) A
section MC
variable {p : Program} {l : Launch} {e : Env} {R : Room} {s : State} {m : MethodId} {args : Array Value} {below : List Frame} {meth : Method} {c : Code} {H : Heap} {locs : List Loc} {cells slots : Nat} {Q : State → Prop}
variable {cc : ByteArray} {pc : Nat} {ls : Array Slot} {rest st0 : List Value} {A : Nat → Prop} {G : gT} {h0 : Nat} {nL : Nat} {Ts : List Cond}
variable {y : MethodName} {ws ws' : List Cond} {rm : Room} {bytes : ByteArray} {maxL n index mc ms : Nat} {ret : Option FieldType} {As : List Value}

variable {h : (Nat → Nat)} {σ σ' : mS}
theorem mfr (hA : ∀ q, s.heap.size ≤ q → A q) (hI : mI s A G h0 h σ H locs) : ∀ q, mA G h0 h σ H.size q → A q := va_free (wc := mw G h0 h σ) hI.2.1 hI.2.2 hA [0, 1, 2, 3, 4, 5, 6, 7, 8, 9, 10, 11, 12, 13, 14, 15, 16, 17] rfl
theorem mpv (hK : gK G s) (hI : mI s A G h0 h σ H locs) : PreV s H RX1 h0 (mPre G h0 h σ H.size As) As :=
  ⟨mPre_blind, va_recv hK hI.1 (ci := 3) (q0 := 0) rfl rfl, fun U hU hW => ⟨rfl, by rw [hU], by rw [hU]; exact hI.1, gK.moved hW.alike hK, hI.2.1.weaken (fun _ _ _ _ => trivial)⟩⟩
/-- a call of a method of the same object: an int, a long, nothing -/
theorem mc_i (S : CallFix p m c cc nL s args Ts RX1) (hK : gK G s) (hA : ∀ q, s.heap.size ≤ q → A q) (hI : mI s A G h0 h σ H locs) {r : Int32}
    (hM : Met l y ws rm (mPre G h0 h σ H.size As) (mQi G h0 h r σ' (mA G h0 h σ H.size)) mc ms (mA G h0 h σ H.size))
    (cw : CallW R s args RX1 RX1 index y bytes maxL ret ws rm mc ms n) (hn : As.length = n) (hs : ls.size = nL) (hst : st0 = As.reverse ++ .ref h0 :: rest) (hW : (rest.map fun v => v.category).sum ≤ 8)
    (hdg : decode cc pc = .ok (.invokevirtual index, 3)) (hf : cells + mc ≤ R.cells ∧ slots + ms ≤ R.slots)
    (kk : ∀ (H1 : Heap) (locs1 : List Loc), mI s A G h0 h σ' H1 locs1 → W p l e R s m args below meth c H1 locs1 (cells + mc) (slots + ms) Q (F0 m (pc + 3) ls (.int r :: rest))) :
    W p l e R s m args below meth c H locs cells slots Q (F0 m pc ls st0) := by
  have hFc := mfr hA hI
  subst hst
  refine va_calli (va_runV (As := As) (rest := rest) S hM cw (mpv hK hI) rfl hn hs rfl (lv_room hW) hdg hf) hI.2.2 (fun q _ h => hFc q h) hFc (fun r1 u t H1 locs1 ht hvm hw hB hz1 hk1 hS => ?_)
  obtain ⟨e1, e2⟩ := hw
  subst e1; subst e2
  obtain ⟨hP1, hK1, hD1⟩ := hB
  rw [ht] at hP1
  exact kk H1 locs1 ⟨hP1, hD1.weaken (fun k q _ h => hFc q.1 h), hS⟩
theorem mc_l (S : CallFix p m c cc nL s args Ts RX1) (hK : gK G s) (hA : ∀ q, s.heap.size ≤ q → A q) (hI : mI s A G h0 h σ H locs) {r : Int64}
    (hM : Met l y ws rm (mPre G h0 h σ H.size As) (mQl G h0 h r σ' (mA G h0 h σ H.size)) mc ms (mA G h0 h σ H.size))
    (cw : CallW R s args RX1 RX1 index y bytes maxL ret ws rm mc ms n) (hn : As.length = n) (hs : ls.size = nL) (hst : st0 = As.reverse ++ .ref h0 :: rest) (hW : (rest.map fun v => v.category).sum ≤ 8)
    (hdg : decode cc pc = .ok (.invokevirtual index, 3)) (hf : cells + mc ≤ R.cells ∧ slots + ms ≤ R.slots)
    (kk : ∀ (H1 : Heap) (locs1 : List Loc), mI s A G h0 h σ' H1 locs1 → W p l e R s m args below meth c H1 locs1 (cells + mc) (slots + ms) Q (F0 m (pc + 3) ls (.long r :: rest))) :
    W p l e R s m args below meth c H locs cells slots Q (F0 m pc ls st0) := by
  have hFc := mfr hA hI
  subst hst
  refine va_calll (va_runV (As := As) (rest := rest) S hM cw (mpv hK hI) rfl hn hs rfl (lv_room hW) hdg hf) hI.2.2 (fun q _ h => hFc q h) hFc (fun r1 u t H1 locs1 ht hvm hw hB hz1 hk1 hS => ?_)
  obtain ⟨e1, e2⟩ := hw
  subst e1; subst e2
  obtain ⟨hP1, hK1, hD1⟩ := hB
  rw [ht] at hP1
  exact kk H1 locs1 ⟨hP1, hD1.weaken (fun k q _ h => hFc q.1 h), hS⟩
theorem mc_v (S : CallFix p m c cc nL s args Ts RX1) (hK : gK G s) (hA : ∀ q, s.heap.size ≤ q → A q) (hI : mI s A G h0 h σ H locs)
    (hM : Met l y ws rm (mPre G h0 h σ H.size As) (mQv G h0 h σ' (mA G h0 h σ H.size)) mc ms (mA G h0 h σ H.size))
    (cw : CallW R s args RX1 RX1 index y bytes maxL ret ws rm mc ms n) (hn : As.length = n) (hs : ls.size = nL) (hst : st0 = As.reverse ++ .ref h0 :: rest) (hW : (rest.map fun v => v.category).sum ≤ 8)
    (hdg : decode cc pc = .ok (.invokevirtual index, 3)) (hf : cells + mc ≤ R.cells ∧ slots + ms ≤ R.slots)
    (kk : ∀ (H1 : Heap) (locs1 : List Loc), mI s A G h0 h σ' H1 locs1 → W p l e R s m args below meth c H1 locs1 (cells + mc) (slots + ms) Q (F0 m (pc + 3) ls rest)) :
    W p l e R s m args below meth c H locs cells slots Q (F0 m pc ls st0) := by
  have hFc := mfr hA hI
  subst hst
  refine va_callv (va_runV (As := As) (rest := rest) S hM cw (mpv hK hI) rfl hn hs rfl (lv_room hW) hdg hf) hI.2.2 (fun q _ h => hFc q h) hFc (fun u t H1 locs1 ht hvm hw hB hz1 hk1 hS => ?_)
  subst hw
  obtain ⟨hP1, hK1, hD1⟩ := hB
  rw [ht] at hP1
  exact kk H1 locs1 ⟨hP1, hD1.weaken (fun k q _ h => hFc q.1 h), hS⟩
/-- a call of a pure static method with an int -/
theorem ms_i {own : String} (S : CallFix p m c cc nL s args Ts own) (hA : ∀ q, s.heap.size ≤ q → A q) (hI : mI s A G h0 h σ H locs) {r : Int32}
    (hM : Met l y ws rm (sPre H.size As) (sQi r H.size) mc ms (fun q => H.size ≤ q))
    (cw : CallB R s args own index y bytes maxL ret ws rm mc ms n ∧ (Cond.static y).before args s = true) (hn : As.length = n) (hs : ls.size = nL) (hst : st0 = As.reverse ++ rest) (hW : (rest.map fun v => v.category).sum ≤ 8)
    (hdg : decode cc pc = .ok (.invokestatic index, 3)) (hf : cells + mc ≤ R.cells ∧ slots + ms ≤ R.slots)
    (kk : ∀ (H1 : Heap) (locs1 : List Loc), mI s A G h0 h σ H1 locs1 → W p l e R s m args below meth c H1 locs1 (cells + mc) (slots + ms) Q (F0 m (pc + 3) ls (.int r :: rest))) :
    W p l e R s m args below meth c H locs cells slots Q (F0 m pc ls st0) := by
  subst hst
  refine va_calli (va_runS (As := As) (rest := rest) S hM cw ⟨sPre_blind, fun U hU _ => ⟨rfl, congrArg (fun X : Heap => Array.size X) hU⟩⟩ rfl hn hs rfl (lv_room hW) hdg hf) hI.2.2 (fun q hq h => absurd h (Nat.not_le.mpr hq)) (fun q h => hA q (Nat.le_trans hI.2.2.1 h)) (fun r1 u t H1 locs1 ht hvm hw hB hz1 hk1 hS => ?_)
  have hw : r1 = r := hw
  subst hw
  exact kk H1 locs1 ⟨hI.1.kept (fun k q hq => hk1 q.1 (hI.1 k q hq).lt (Nat.not_le.mpr (hI.1 k q hq).lt)), hI.2.1, hS⟩
/-- ends -/
theorem me_i (S : CallFix p m c cc nL s args Ts RX1) (hr : meth.sig.returnType = some .int) (hlocks : meth.locks = false) (hK : gK G s) (hI : mI s A G h0 h σ H locs) {r r0 : Int32} (hg : some (r0, σ) = some (r, σ')) (hdg : decode cc pc = .ok (.ireturn, 1)) :
    W p l e R s m args below meth c H locs cells slots (MQ below (mQi G h0 h r σ' A) args s cells slots A) (F0 m pc ls [.int r0]) := by
  obtain ⟨e1, e2⟩ := pr_e hg
  subst e1; subst e2
  exact W.iret S.1 S.2.1 hr (fun t ht hW => ⟨⟨r0, σ, rfl, ⟨rfl, rfl⟩, by rw [ht]; exact hI.1, gK.moved hW.alike hK, hI.2.1⟩, hI.2.2.F ht⟩) hI.2.2.2.2 hdg hlocks
theorem me_z (S : CallFix p m c cc nL s args Ts RX1) (hr : meth.sig.returnType = some .boolean) (hlocks : meth.locks = false) (hK : gK G s) (hI : mI s A G h0 h σ H locs) {r r0 : Int32} (hz : narrow .boolean (.int r0) = .int r0) (hg : some (r0, σ) = some (r, σ')) (hdg : decode cc pc = .ok (.ireturn, 1)) :
    W p l e R s m args below meth c H locs cells slots (MQ below (mQi G h0 h r σ' A) args s cells slots A) (F0 m pc ls [.int r0]) := by
  obtain ⟨e1, e2⟩ := pr_e hg
  subst e1; subst e2
  exact W.zret S.1 S.2.1 hr hz (fun t ht hW => ⟨⟨r0, σ, rfl, ⟨rfl, rfl⟩, by rw [ht]; exact hI.1, gK.moved hW.alike hK, hI.2.1⟩, hI.2.2.F ht⟩) hI.2.2.2.2 hdg hlocks
theorem me_l (S : CallFix p m c cc nL s args Ts RX1) (hr : meth.sig.returnType = some .long) (hlocks : meth.locks = false) (hK : gK G s) (hI : mI s A G h0 h σ H locs) {r r0 : Int64} (hg : some (r0, σ) = some (r, σ')) (hdg : decode cc pc = .ok (.lreturn, 1)) :
    W p l e R s m args below meth c H locs cells slots (MQ below (mQl G h0 h r σ' A) args s cells slots A) (F0 m pc ls [.long r0]) := by
  obtain ⟨e1, e2⟩ := pr_e hg
  subst e1; subst e2
  exact W.lret S.1 S.2.1 hr (fun t ht hW => ⟨⟨r0, σ, rfl, ⟨rfl, rfl⟩, by rw [ht]; exact hI.1, gK.moved hW.alike hK, hI.2.1⟩, hI.2.2.F ht⟩) hI.2.2.2.2 hdg hlocks
theorem me_v (S : CallFix p m c cc nL s args Ts RX1) (hr : meth.sig.returnType = none) (hlocks : meth.locks = false) (hK : gK G s) (hI : mI s A G h0 h σ H locs) (hg : some σ = some σ') (hdg : decode cc pc = .ok (.return_, 1)) :
    W p l e R s m args below meth c H locs cells slots (MQ below (mQv G h0 h σ' A) args s cells slots A) (F0 m pc ls []) := by
  have e1 := sm_e hg
  subst e1
  exact W.vret S.1 S.2.1 hr (fun t ht hW => ⟨⟨σ, rfl, rfl, by rw [ht]; exact hI.1, gK.moved hW.alike hK, hI.2.1⟩, hI.2.2.F ht⟩) hI.2.2.2.2 hdg hlocks
/-- a contract out of a walk from the entry -/
theorem mMet {Qc : (Nat → Prop) → Array Value → State → Outcome → State → Prop} {av : List Value} {sz : Nat} (hy : plainName y.cls = true) (hR : y.cls = RX1) (hw : ws = Cond.code y cc maxL ret :: ws') (hlen : (lg_sl (.ref h0 :: av)).length ≤ maxL)
    (body : ∀ (p : Program) (e : Env) (s : State) (m : MethodId) (args : Array Value) (below : List Frame) (meth : Method) (c : Code) (A : Nat → Prop), CallFix p m c cc maxL s args ws RX1 → meth.sig.returnType = ret → meth.locks = false → gK G s → (∀ q, s.heap.size ≤ q → A q) → ∀ (H : Heap) (locs : List Loc), mI s A G h0 h σ H locs → ∀ ls : Array Slot, lv_has ls maxL (lv_args 0 (.ref h0 :: av)) →
      W p l e rm s m args below meth c H locs 0 0 (MQ below (Qc A) args s mc ms A) (F0 m 0 ls [])) : Met l y ws rm (mPre G h0 h σ sz av) (Qc (mA G h0 h σ sz)) mc ms (mA G h0 h σ sz) := by
  refine Met.ofW (cc := cc) (maxL := maxL) (ret := ret) hy hw ?_
  intro p e s m args below meth c s₁ B hml hv
  obtain ⟨rfl, hsz, hP, hK, hD0⟩ := hv
  subst hsz
  have hts := atoms_spec (ws := ws) B.pre
  have hown : s.vm.findClass RX1 = some m.cls := by rw [← hR]; exact findClass_of_methodNamed B.named
  rw [lg_entry_eq]
  exact body p e s m _ below meth c (mA G h0 h σ s.heap.size) ⟨B.exec, B.bytes, hml, hown, hts⟩ B.returns B.notSynchronized hK (fun q h => Or.inr h) _ _ ⟨hP, hD0.self (sz := s.heap.size), va_S.rf⟩ _ (lv_entry _ hlen)
end MC
end
section
def wsX0_isUpTo : List Cond := .code yX0_isUpTo cX0_isUpTo 2 (some .boolean) :: ([])
def wsX0_isStressed : List Cond := .code yX0_isStressed cX0_isStressed 1 (some .boolean) :: ([.fieldLink RX0 51 "OwnMemory" "stressEvery" "I", .fieldLink RX0 54 "OwnMemory" "made" "I"] ++ wsX00)
def wsX0_touch : List Cond := .code yX0_touch cX0_touch 3 (some .int) :: ([.fieldLink RX0 23 "OwnMemory" "words" "[I", .fieldLink RX0 48 "OwnMemory" "waiting" "I"] ++ wsX00)
def wsX0_touchRoots : List Cond := .code yX0_touchRoots cX0_touchRoots 3 none :: ([.fieldLink RX0 30 "OwnMemory" "roots" "[I", .methodLink RX0 237 yX0_touch, .instanceMethod yX0_touch, .selects RX0 yX0_touch yX0_touch, .initialized RX0, .code yX0_touch cX0_touch 3 (some .int), .fieldLink RX0 23 "OwnMemory" "words" "[I", .fieldLink RX0 48 "OwnMemory" "waiting" "I"] ++ wsX00)
def wsX0_linksAt : List Cond := .code yX0_linksAt cX0_linksAt 2 (some .int) :: ([.fieldLink RX0 23 "OwnMemory" "words" "[I"] ++ wsX00)
def wsX0_valuesAt : List Cond := .code yX0_valuesAt cX0_valuesAt 2 (some .int) :: ([.fieldLink RX0 23 "OwnMemory" "words" "[I"] ++ wsX00)
def wsX0_isReference : List Cond := .code yX0_isReference cX0_isReference 1 (some .boolean) :: ([.constant RX0 186 (65530)])
def wsX0_touchLeads : List Cond := .code yX0_touchLeads cX0_touchLeads 6 none :: ([.fieldLink RX0 23 "OwnMemory" "words" "[I", .methodLink RX0 171 yX0_linksAt, .instanceMethod yX0_linksAt, .selects RX0 yX0_linksAt yX0_linksAt, .initialized RX0, .code yX0_linksAt cX0_linksAt 2 (some .int), .methodLink RX0 237 yX0_touch, .instanceMethod yX0_touch, .selects RX0 yX0_touch yX0_touch, .code yX0_touch cX0_touch 3 (some .int), .fieldLink RX0 48 "OwnMemory" "waiting" "I", .methodLink RX0 176 yX0_valuesAt, .instanceMethod yX0_valuesAt, .selects RX0 yX0_valuesAt yX0_valuesAt, .code yX0_valuesAt cX0_valuesAt 2 (some .int), .methodLink RX0 86 yX0_isReference, .static yX0_isReference, .code yX0_isReference cX0_isReference 1 (some .boolean), .constant RX0 186 (65530)] ++ wsX00)
def wsX0_sizeAt : List Cond := .code yX0_sizeAt cX0_sizeAt 2 (some .int) :: ([.fieldLink RX0 23 "OwnMemory" "words" "[I"] ++ wsX00)
def wsX0_planMoves : List Cond := .code yX0_planMoves cX0_planMoves 3 (some .int) :: ([.fieldLink RX0 27 "OwnMemory" "used" "I", .fieldLink RX0 23 "OwnMemory" "words" "[I", .methodLink RX0 181 yX0_sizeAt, .instanceMethod yX0_sizeAt, .selects RX0 yX0_sizeAt yX0_sizeAt, .initialized RX0, .code yX0_sizeAt cX0_sizeAt 2 (some .int)] ++ wsX00)
def wsX0_keepNames : List Cond := .code yX0_keepNames cX0_keepNames 4 none :: ([.fieldLink RX0 42 "OwnMemory" "nameCount" "I", .fieldLink RX0 23 "OwnMemory" "words" "[I", .fieldLink RX0 39 "OwnMemory" "names" "[I"] ++ wsX00)
def wsX0_shapeOf : List Cond := .code yX0_shapeOf cX0_shapeOf 4 (some .int) :: ([])
def wsX0_kindAt : List Cond := .code yX0_kindAt cX0_kindAt 2 (some .int) :: ([.fieldLink RX0 23 "OwnMemory" "words" "[I"] ++ wsX00)
def wsX0_putLength : List Cond := .code yX0_putLength cX0_putLength 3 none :: ([.fieldLink RX0 23 "OwnMemory" "words" "[I", .methodLink RX0 171 yX0_linksAt, .instanceMethod yX0_linksAt, .selects RX0 yX0_linksAt yX0_linksAt, .initialized RX0, .code yX0_linksAt cX0_linksAt 2 (some .int)] ++ wsX00)
def wsX0_putUnit : List Cond := .code yX0_putUnit cX0_putUnit 4 none :: ([.fieldLink RX0 23 "OwnMemory" "words" "[I"] ++ wsX00)
def wsX0_lengthAt : List Cond := .code yX0_lengthAt cX0_lengthAt 2 (some .int) :: ([.fieldLink RX0 23 "OwnMemory" "words" "[I", .methodLink RX0 171 yX0_linksAt, .instanceMethod yX0_linksAt, .selects RX0 yX0_linksAt yX0_linksAt, .initialized RX0, .code yX0_linksAt cX0_linksAt 2 (some .int)] ++ wsX00)
def wsX0_lengthIn : List Cond := .code yX0_lengthIn cX0_lengthIn 2 (some .int) :: ([.fieldLink RX0 30 "OwnMemory" "roots" "[I", .methodLink RX0 187 yX0_lengthAt, .instanceMethod yX0_lengthAt, .selects RX0 yX0_lengthAt yX0_lengthAt, .initialized RX0, .code yX0_lengthAt cX0_lengthAt 2 (some .int), .fieldLink RX0 23 "OwnMemory" "words" "[I", .methodLink RX0 171 yX0_linksAt, .instanceMethod yX0_linksAt, .selects RX0 yX0_linksAt yX0_linksAt, .code yX0_linksAt cX0_linksAt 2 (some .int)] ++ wsX00)
def wsX0_unitAt : List Cond := .code yX0_unitAt cX0_unitAt 3 (some .int) :: ([.fieldLink RX0 23 "OwnMemory" "words" "[I", .constant RX0 107 (65535)] ++ wsX00)
def wsX0_copyUnits : List Cond := .code yX0_copyUnits cX0_copyUnits 7 none :: ([.methodLink RX0 143 yX0_unitAt, .instanceMethod yX0_unitAt, .selects RX0 yX0_unitAt yX0_unitAt, .initialized RX0, .code yX0_unitAt cX0_unitAt 3 (some .int), .fieldLink RX0 23 "OwnMemory" "words" "[I", .constant RX0 107 (65535), .methodLink RX0 108 yX0_putUnit, .instanceMethod yX0_putUnit, .selects RX0 yX0_putUnit yX0_putUnit, .code yX0_putUnit cX0_putUnit 4 none] ++ wsX00)
def wsX0_flatOf : List Cond := .code yX0_flatOf cX0_flatOf 2 (some .int) :: ([.fieldLink RX0 23 "OwnMemory" "words" "[I", .methodLink RX0 76 yX0_kindAt, .instanceMethod yX0_kindAt, .selects RX0 yX0_kindAt yX0_kindAt, .initialized RX0, .code yX0_kindAt cX0_kindAt 2 (some .int)] ++ wsX00)
def wsX0_copyAllUnits_r1 : List Cond := [Cond.fieldLink RX0 45 "OwnMemory" "pending" "[I", Cond.fieldLink RX0 23 "OwnMemory" "words" "[I", Cond.methodLink RX0 76 yX0_kindAt, Cond.instanceMethod yX0_kindAt, Cond.selects RX0 yX0_kindAt yX0_kindAt, Cond.initialized RX0, Cond.code yX0_kindAt cX0_kindAt 2 (some .int), Cond.methodLink RX0 134 yX0_flatOf, Cond.instanceMethod yX0_flatOf, Cond.selects RX0 yX0_flatOf yX0_flatOf, Cond.code yX0_flatOf cX0_flatOf 2 (some .int), Cond.methodLink RX0 187 yX0_lengthAt, Cond.instanceMethod yX0_lengthAt, Cond.selects RX0 yX0_lengthAt yX0_lengthAt, Cond.code yX0_lengthAt cX0_lengthAt 2 (some .int), Cond.methodLink RX0 171 yX0_linksAt, Cond.instanceMethod yX0_linksAt, Cond.selects RX0 yX0_linksAt yX0_linksAt, Cond.code yX0_linksAt cX0_linksAt 2 (some .int), Cond.methodLink RX0 137 yX0_copyUnits, Cond.instanceMethod yX0_copyUnits, Cond.selects RX0 yX0_copyUnits yX0_copyUnits, Cond.code yX0_copyUnits cX0_copyUnits 7 none, Cond.methodLink RX0 143 yX0_unitAt]
def wsX0_copyAllUnits_r2 : List Cond := [Cond.instanceMethod yX0_unitAt, Cond.selects RX0 yX0_unitAt yX0_unitAt, Cond.code yX0_unitAt cX0_unitAt 3 (some .int), Cond.constant RX0 107 (65535), Cond.methodLink RX0 108 yX0_putUnit, Cond.instanceMethod yX0_putUnit, Cond.selects RX0 yX0_putUnit yX0_putUnit, Cond.code yX0_putUnit cX0_putUnit 4 none]
def wsX0_copyAllUnits : List Cond := .code yX0_copyAllUnits cX0_copyAllUnits 7 none :: ((wsX0_copyAllUnits_r1 ++ wsX0_copyAllUnits_r2) ++ wsX00)
def wsX0_hasSameUnits : List Cond := .code yX0_hasSameUnits cX0_hasSameUnits 5 (some .boolean) :: ([.fieldLink RX0 23 "OwnMemory" "words" "[I", .methodLink RX0 187 yX0_lengthAt, .instanceMethod yX0_lengthAt, .selects RX0 yX0_lengthAt yX0_lengthAt, .initialized RX0, .code yX0_lengthAt cX0_lengthAt 2 (some .int), .methodLink RX0 171 yX0_linksAt, .instanceMethod yX0_linksAt, .selects RX0 yX0_linksAt yX0_linksAt, .code yX0_linksAt cX0_linksAt 2 (some .int), .methodLink RX0 181 yX0_sizeAt, .instanceMethod yX0_sizeAt, .selects RX0 yX0_sizeAt yX0_sizeAt, .code yX0_sizeAt cX0_sizeAt 2 (some .int)] ++ wsX00)
def wsX0_findName : List Cond := .code yX0_findName cX0_findName 3 (some .int) :: ([.fieldLink RX0 42 "OwnMemory" "nameCount" "I", .fieldLink RX0 39 "OwnMemory" "names" "[I", .methodLink RX0 200 yX0_hasSameUnits, .instanceMethod yX0_hasSameUnits, .selects RX0 yX0_hasSameUnits yX0_hasSameUnits, .initialized RX0, .code yX0_hasSameUnits cX0_hasSameUnits 5 (some .boolean), .fieldLink RX0 23 "OwnMemory" "words" "[I", .methodLink RX0 187 yX0_lengthAt, .instanceMethod yX0_lengthAt, .selects RX0 yX0_lengthAt yX0_lengthAt, .code yX0_lengthAt cX0_lengthAt 2 (some .int), .methodLink RX0 171 yX0_linksAt, .instanceMethod yX0_linksAt, .selects RX0 yX0_linksAt yX0_linksAt, .code yX0_linksAt cX0_linksAt 2 (some .int), .methodLink RX0 181 yX0_sizeAt, .instanceMethod yX0_sizeAt, .selects RX0 yX0_sizeAt yX0_sizeAt, .code yX0_sizeAt cX0_sizeAt 2 (some .int)] ++ wsX00)
theorem dX0_isUpTo_0 : decode cX0_isUpTo 0 = .ok (.iload_n 0, 1) := by decide +kernel
theorem dX0_isUpTo_1 : decode cX0_isUpTo 1 = .ok (.ifCond .lt 12, 3) := by decide +kernel
theorem dX0_isUpTo_4 : decode cX0_isUpTo 4 = .ok (.iload_n 0, 1) := by decide +kernel
theorem dX0_isUpTo_5 : decode cX0_isUpTo 5 = .ok (.iload_n 1, 1) := by decide +kernel
theorem dX0_isUpTo_6 : decode cX0_isUpTo 6 = .ok (.if_icmp .gt 7, 3) := by decide +kernel
theorem dX0_isUpTo_9 : decode cX0_isUpTo 9 = .ok (.iconst 1, 1) := by decide +kernel
theorem dX0_isUpTo_10 : decode cX0_isUpTo 10 = .ok (.goto 4, 3) := by decide +kernel
theorem dX0_isUpTo_13 : decode cX0_isUpTo 13 = .ok (.iconst 0, 1) := by decide +kernel
theorem dX0_isUpTo_14 : decode cX0_isUpTo 14 = .ok (.ireturn, 1) := by decide +kernel
theorem dX0_shapeOf_0 : decode cX0_shapeOf 0 = .ok (.iload_n 0, 1) := by decide +kernel
theorem dX0_shapeOf_1 : decode cX0_shapeOf 1 = .ok (.iload_n 1, 1) := by decide +kernel
theorem dX0_shapeOf_2 : decode cX0_shapeOf 2 = .ok (.iconst 4, 1) := by decide +kernel
theorem dX0_shapeOf_3 : decode cX0_shapeOf 3 = .ok (.ishl, 1) := by decide +kernel
theorem dX0_shapeOf_4 : decode cX0_shapeOf 4 = .ok (.ior, 1) := by decide +kernel
theorem dX0_shapeOf_5 : decode cX0_shapeOf 5 = .ok (.iload_n 2, 1) := by decide +kernel
theorem dX0_shapeOf_6 : decode cX0_shapeOf 6 = .ok (.bipush 8, 2) := by decide +kernel
theorem dX0_shapeOf_8 : decode cX0_shapeOf 8 = .ok (.ishl, 1) := by decide +kernel
theorem dX0_shapeOf_9 : decode cX0_shapeOf 9 = .ok (.ior, 1) := by decide +kernel
theorem dX0_shapeOf_10 : decode cX0_shapeOf 10 = .ok (.iload_n 3, 1) := by decide +kernel
theorem dX0_shapeOf_11 : decode cX0_shapeOf 11 = .ok (.bipush 12, 2) := by decide +kernel
theorem dX0_shapeOf_13 : decode cX0_shapeOf 13 = .ok (.ishl, 1) := by decide +kernel
theorem dX0_shapeOf_14 : decode cX0_shapeOf 14 = .ok (.ior, 1) := by decide +kernel
theorem dX0_shapeOf_15 : decode cX0_shapeOf 15 = .ok (.ireturn, 1) := by decide +kernel
theorem dX0_kindAt_0 : decode cX0_kindAt 0 = .ok (.iload_n 1, 1) := by decide +kernel
theorem dX0_kindAt_1 : decode cX0_kindAt 1 = .ok (.iconst (-1), 1) := by decide +kernel
theorem dX0_kindAt_2 : decode cX0_kindAt 2 = .ok (.if_icmp .ne 7, 3) := by decide +kernel
theorem dX0_kindAt_5 : decode cX0_kindAt 5 = .ok (.iconst 0, 1) := by decide +kernel
theorem dX0_kindAt_6 : decode cX0_kindAt 6 = .ok (.goto 14, 3) := by decide +kernel
theorem dX0_kindAt_9 : decode cX0_kindAt 9 = .ok (.aload_n 0, 1) := by decide +kernel
theorem dX0_kindAt_10 : decode cX0_kindAt 10 = .ok (.getfield 23, 3) := by decide +kernel
theorem dX0_kindAt_13 : decode cX0_kindAt 13 = .ok (.iload_n 1, 1) := by decide +kernel
theorem dX0_kindAt_14 : decode cX0_kindAt 14 = .ok (.iconst 0, 1) := by decide +kernel
theorem dX0_kindAt_15 : decode cX0_kindAt 15 = .ok (.iadd, 1) := by decide +kernel
theorem dX0_kindAt_16 : decode cX0_kindAt 16 = .ok (.iaload, 1) := by decide +kernel
theorem dX0_kindAt_17 : decode cX0_kindAt 17 = .ok (.bipush 15, 2) := by decide +kernel
theorem dX0_kindAt_19 : decode cX0_kindAt 19 = .ok (.iand, 1) := by decide +kernel
theorem dX0_kindAt_20 : decode cX0_kindAt 20 = .ok (.ireturn, 1) := by decide +kernel
theorem dX0_linksAt_0 : decode cX0_linksAt 0 = .ok (.aload_n 0, 1) := by decide +kernel
theorem dX0_linksAt_1 : decode cX0_linksAt 1 = .ok (.getfield 23, 3) := by decide +kernel
theorem dX0_linksAt_4 : decode cX0_linksAt 4 = .ok (.iload_n 1, 1) := by decide +kernel
theorem dX0_linksAt_5 : decode cX0_linksAt 5 = .ok (.iconst 0, 1) := by decide +kernel
theorem dX0_linksAt_6 : decode cX0_linksAt 6 = .ok (.iadd, 1) := by decide +kernel
theorem dX0_linksAt_7 : decode cX0_linksAt 7 = .ok (.iaload, 1) := by decide +kernel
theorem dX0_linksAt_8 : decode cX0_linksAt 8 = .ok (.iconst 4, 1) := by decide +kernel
theorem dX0_linksAt_9 : decode cX0_linksAt 9 = .ok (.ishr, 1) := by decide +kernel
theorem dX0_linksAt_10 : decode cX0_linksAt 10 = .ok (.bipush 15, 2) := by decide +kernel
theorem dX0_linksAt_12 : decode cX0_linksAt 12 = .ok (.iand, 1) := by decide +kernel
theorem dX0_linksAt_13 : decode cX0_linksAt 13 = .ok (.ireturn, 1) := by decide +kernel
theorem dX0_valuesAt_0 : decode cX0_valuesAt 0 = .ok (.aload_n 0, 1) := by decide +kernel
theorem dX0_valuesAt_1 : decode cX0_valuesAt 1 = .ok (.getfield 23, 3) := by decide +kernel
theorem dX0_valuesAt_4 : decode cX0_valuesAt 4 = .ok (.iload_n 1, 1) := by decide +kernel
theorem dX0_valuesAt_5 : decode cX0_valuesAt 5 = .ok (.iconst 0, 1) := by decide +kernel
theorem dX0_valuesAt_6 : decode cX0_valuesAt 6 = .ok (.iadd, 1) := by decide +kernel
theorem dX0_valuesAt_7 : decode cX0_valuesAt 7 = .ok (.iaload, 1) := by decide +kernel
theorem dX0_valuesAt_8 : decode cX0_valuesAt 8 = .ok (.bipush 8, 2) := by decide +kernel
theorem dX0_valuesAt_10 : decode cX0_valuesAt 10 = .ok (.ishr, 1) := by decide +kernel
theorem dX0_valuesAt_11 : decode cX0_valuesAt 11 = .ok (.bipush 15, 2) := by decide +kernel
theorem dX0_valuesAt_13 : decode cX0_valuesAt 13 = .ok (.iand, 1) := by decide +kernel
theorem dX0_valuesAt_14 : decode cX0_valuesAt 14 = .ok (.ireturn, 1) := by decide +kernel
theorem dX0_sizeAt_0 : decode cX0_sizeAt 0 = .ok (.aload_n 0, 1) := by decide +kernel
theorem dX0_sizeAt_1 : decode cX0_sizeAt 1 = .ok (.getfield 23, 3) := by decide +kernel
theorem dX0_sizeAt_4 : decode cX0_sizeAt 4 = .ok (.iload_n 1, 1) := by decide +kernel
theorem dX0_sizeAt_5 : decode cX0_sizeAt 5 = .ok (.iconst 0, 1) := by decide +kernel
theorem dX0_sizeAt_6 : decode cX0_sizeAt 6 = .ok (.iadd, 1) := by decide +kernel
theorem dX0_sizeAt_7 : decode cX0_sizeAt 7 = .ok (.iaload, 1) := by decide +kernel
theorem dX0_sizeAt_8 : decode cX0_sizeAt 8 = .ok (.bipush 12, 2) := by decide +kernel
theorem dX0_sizeAt_10 : decode cX0_sizeAt 10 = .ok (.ishr, 1) := by decide +kernel
theorem dX0_sizeAt_11 : decode cX0_sizeAt 11 = .ok (.ireturn, 1) := by decide +kernel
theorem dX0_isReference_0 : decode cX0_isReference 0 = .ok (.iload_n 0, 1) := by decide +kernel
theorem dX0_isReference_1 : decode cX0_isReference 1 = .ok (.bipush 16, 2) := by decide +kernel
theorem dX0_isReference_3 : decode cX0_isReference 3 = .ok (.iushr, 1) := by decide +kernel
theorem dX0_isReference_4 : decode cX0_isReference 4 = .ok (.ldc 186, 2) := by decide +kernel
theorem dX0_isReference_6 : decode cX0_isReference 6 = .ok (.if_icmp .ne 7, 3) := by decide +kernel
theorem dX0_isReference_9 : decode cX0_isReference 9 = .ok (.iconst 1, 1) := by decide +kernel
theorem dX0_isReference_10 : decode cX0_isReference 10 = .ok (.goto 4, 3) := by decide +kernel
theorem dX0_isReference_13 : decode cX0_isReference 13 = .ok (.iconst 0, 1) := by decide +kernel
theorem dX0_isReference_14 : decode cX0_isReference 14 = .ok (.ireturn, 1) := by decide +kernel
set_option maxRecDepth 20000 in
theorem ggX0_lengthAt_X0_linksAt : GoodIn wsX0_lengthAt wsX0_linksAt := goodIn_r _ [6, 1, 7, 8, 9, 10, 11, 12, 13, 14, 15, 16] (by decide +kernel) (by decide +kernel)
set_option maxRecDepth 20000 in
theorem gX0_lengthAt_X0_linksAt : GoodIn wsX0_lengthAt (wsV RX0 171 RX0 yX0_linksAt wsX0_linksAt) := goodIn_app (goodIn_of _ (by decide +kernel)) ggX0_lengthAt_X0_linksAt
theorem dX0_lengthAt_0 : decode cX0_lengthAt 0 = .ok (.aload_n 0, 1) := by decide +kernel
theorem dX0_lengthAt_1 : decode cX0_lengthAt 1 = .ok (.getfield 23, 3) := by decide +kernel
theorem dX0_lengthAt_4 : decode cX0_lengthAt 4 = .ok (.iload_n 1, 1) := by decide +kernel
theorem dX0_lengthAt_5 : decode cX0_lengthAt 5 = .ok (.iconst 3, 1) := by decide +kernel
theorem dX0_lengthAt_6 : decode cX0_lengthAt 6 = .ok (.iadd, 1) := by decide +kernel
theorem dX0_lengthAt_7 : decode cX0_lengthAt 7 = .ok (.aload_n 0, 1) := by decide +kernel
theorem dX0_lengthAt_8 : decode cX0_lengthAt 8 = .ok (.iload_n 1, 1) := by decide +kernel
theorem dX0_lengthAt_9 : decode cX0_lengthAt 9 = .ok (.invokevirtual 171, 3) := by decide +kernel
theorem dX0_lengthAt_12 : decode cX0_lengthAt 12 = .ok (.iadd, 1) := by decide +kernel
theorem dX0_lengthAt_13 : decode cX0_lengthAt 13 = .ok (.iaload, 1) := by decide +kernel
theorem dX0_lengthAt_14 : decode cX0_lengthAt 14 = .ok (.ireturn, 1) := by decide +kernel
set_option maxRecDepth 20000 in
theorem ggX0_putLength_X0_linksAt : GoodIn wsX0_putLength wsX0_linksAt := goodIn_r _ [6, 1, 7, 8, 9, 10, 11, 12, 13, 14, 15, 16] (by decide +kernel) (by decide +kernel)
set_option maxRecDepth 20000 in
theorem gX0_putLength_X0_linksAt : GoodIn wsX0_putLength (wsV RX0 171 RX0 yX0_linksAt wsX0_linksAt) := goodIn_app (goodIn_of _ (by decide +kernel)) ggX0_putLength_X0_linksAt
theorem dX0_putLength_0 : decode cX0_putLength 0 = .ok (.aload_n 0, 1) := by decide +kernel
theorem dX0_putLength_1 : decode cX0_putLength 1 = .ok (.getfield 23, 3) := by decide +kernel
theorem dX0_putLength_4 : decode cX0_putLength 4 = .ok (.iload_n 1, 1) := by decide +kernel
theorem dX0_putLength_5 : decode cX0_putLength 5 = .ok (.iconst 3, 1) := by decide +kernel
theorem dX0_putLength_6 : decode cX0_putLength 6 = .ok (.iadd, 1) := by decide +kernel
theorem dX0_putLength_7 : decode cX0_putLength 7 = .ok (.aload_n 0, 1) := by decide +kernel
theorem dX0_putLength_8 : decode cX0_putLength 8 = .ok (.iload_n 1, 1) := by decide +kernel
theorem dX0_putLength_9 : decode cX0_putLength 9 = .ok (.invokevirtual 171, 3) := by decide +kernel
theorem dX0_putLength_12 : decode cX0_putLength 12 = .ok (.iadd, 1) := by decide +kernel
theorem dX0_putLength_13 : decode cX0_putLength 13 = .ok (.iload_n 2, 1) := by decide +kernel
theorem dX0_putLength_14 : decode cX0_putLength 14 = .ok (.iastore, 1) := by decide +kernel
theorem dX0_putLength_15 : decode cX0_putLength 15 = .ok (.return_, 1) := by decide +kernel
set_option maxRecDepth 20000 in
theorem ggX0_lengthIn_X0_lengthAt : GoodIn wsX0_lengthIn wsX0_lengthAt := goodIn_r _ [6, 7, 8, 9, 10, 5, 11, 12, 13, 14, 15, 16, 17, 18, 19, 20, 21] (by decide +kernel) (by decide +kernel)
set_option maxRecDepth 20000 in
theorem gX0_lengthIn_X0_lengthAt : GoodIn wsX0_lengthIn (wsV RX0 187 RX0 yX0_lengthAt wsX0_lengthAt) := goodIn_app (goodIn_of _ (by decide +kernel)) ggX0_lengthIn_X0_lengthAt
theorem dX0_lengthIn_0 : decode cX0_lengthIn 0 = .ok (.aload_n 0, 1) := by decide +kernel
theorem dX0_lengthIn_1 : decode cX0_lengthIn 1 = .ok (.aload_n 0, 1) := by decide +kernel
theorem dX0_lengthIn_2 : decode cX0_lengthIn 2 = .ok (.getfield 30, 3) := by decide +kernel
theorem dX0_lengthIn_5 : decode cX0_lengthIn 5 = .ok (.iload_n 1, 1) := by decide +kernel
theorem dX0_lengthIn_6 : decode cX0_lengthIn 6 = .ok (.iaload, 1) := by decide +kernel
theorem dX0_lengthIn_7 : decode cX0_lengthIn 7 = .ok (.invokevirtual 187, 3) := by decide +kernel
theorem dX0_lengthIn_10 : decode cX0_lengthIn 10 = .ok (.ireturn, 1) := by decide +kernel
set_option maxRecDepth 20000 in
theorem ggX0_flatOf_X0_kindAt : GoodIn wsX0_flatOf wsX0_kindAt := goodIn_r _ [6, 1, 7, 8, 9, 10, 11, 12, 13, 14, 15, 16] (by decide +kernel) (by decide +kernel)
set_option maxRecDepth 20000 in
theorem gX0_flatOf_X0_kindAt : GoodIn wsX0_flatOf (wsV RX0 76 RX0 yX0_kindAt wsX0_kindAt) := goodIn_app (goodIn_of _ (by decide +kernel)) ggX0_flatOf_X0_kindAt
theorem dX0_flatOf_0 : decode cX0_flatOf 0 = .ok (.aload_n 0, 1) := by decide +kernel
theorem dX0_flatOf_1 : decode cX0_flatOf 1 = .ok (.iload_n 1, 1) := by decide +kernel
theorem dX0_flatOf_2 : decode cX0_flatOf 2 = .ok (.invokevirtual 76, 3) := by decide +kernel
theorem dX0_flatOf_5 : decode cX0_flatOf 5 = .ok (.iconst 4, 1) := by decide +kernel
theorem dX0_flatOf_6 : decode cX0_flatOf 6 = .ok (.if_icmp .ne 14, 3) := by decide +kernel
theorem dX0_flatOf_9 : decode cX0_flatOf 9 = .ok (.aload_n 0, 1) := by decide +kernel
theorem dX0_flatOf_10 : decode cX0_flatOf 10 = .ok (.getfield 23, 3) := by decide +kernel
theorem dX0_flatOf_13 : decode cX0_flatOf 13 = .ok (.iload_n 1, 1) := by decide +kernel
theorem dX0_flatOf_14 : decode cX0_flatOf 14 = .ok (.iconst 3, 1) := by decide +kernel
theorem dX0_flatOf_15 : decode cX0_flatOf 15 = .ok (.iadd, 1) := by decide +kernel
theorem dX0_flatOf_16 : decode cX0_flatOf 16 = .ok (.iaload, 1) := by decide +kernel
theorem dX0_flatOf_17 : decode cX0_flatOf 17 = .ok (.goto 4, 3) := by decide +kernel
theorem dX0_flatOf_20 : decode cX0_flatOf 20 = .ok (.iload_n 1, 1) := by decide +kernel
theorem dX0_flatOf_21 : decode cX0_flatOf 21 = .ok (.ireturn, 1) := by decide +kernel
theorem dX0_unitAt_0 : decode cX0_unitAt 0 = .ok (.aload_n 0, 1) := by decide +kernel
theorem dX0_unitAt_1 : decode cX0_unitAt 1 = .ok (.getfield 23, 3) := by decide +kernel
theorem dX0_unitAt_4 : decode cX0_unitAt 4 = .ok (.iload_n 1, 1) := by decide +kernel
theorem dX0_unitAt_5 : decode cX0_unitAt 5 = .ok (.iconst 4, 1) := by decide +kernel
theorem dX0_unitAt_6 : decode cX0_unitAt 6 = .ok (.iadd, 1) := by decide +kernel
theorem dX0_unitAt_7 : decode cX0_unitAt 7 = .ok (.iload_n 2, 1) := by decide +kernel
theorem dX0_unitAt_8 : decode cX0_unitAt 8 = .ok (.iconst 2, 1) := by decide +kernel
theorem dX0_unitAt_9 : decode cX0_unitAt 9 = .ok (.idiv, 1) := by decide +kernel
theorem dX0_unitAt_10 : decode cX0_unitAt 10 = .ok (.iadd, 1) := by decide +kernel
theorem dX0_unitAt_11 : decode cX0_unitAt 11 = .ok (.iaload, 1) := by decide +kernel
theorem dX0_unitAt_12 : decode cX0_unitAt 12 = .ok (.bipush 16, 2) := by decide +kernel
theorem dX0_unitAt_14 : decode cX0_unitAt 14 = .ok (.iload_n 2, 1) := by decide +kernel
theorem dX0_unitAt_15 : decode cX0_unitAt 15 = .ok (.iconst 2, 1) := by decide +kernel
theorem dX0_unitAt_16 : decode cX0_unitAt 16 = .ok (.irem, 1) := by decide +kernel
theorem dX0_unitAt_17 : decode cX0_unitAt 17 = .ok (.imul, 1) := by decide +kernel
theorem dX0_unitAt_18 : decode cX0_unitAt 18 = .ok (.iushr, 1) := by decide +kernel
theorem dX0_unitAt_19 : decode cX0_unitAt 19 = .ok (.ldc 107, 2) := by decide +kernel
theorem dX0_unitAt_21 : decode cX0_unitAt 21 = .ok (.iand, 1) := by decide +kernel
theorem dX0_unitAt_22 : decode cX0_unitAt 22 = .ok (.ireturn, 1) := by decide +kernel
theorem dX0_putUnit_0 : decode cX0_putUnit 0 = .ok (.aload_n 0, 1) := by decide +kernel
theorem dX0_putUnit_1 : decode cX0_putUnit 1 = .ok (.getfield 23, 3) := by decide +kernel
theorem dX0_putUnit_4 : decode cX0_putUnit 4 = .ok (.iload_n 1, 1) := by decide +kernel
theorem dX0_putUnit_5 : decode cX0_putUnit 5 = .ok (.iconst 4, 1) := by decide +kernel
theorem dX0_putUnit_6 : decode cX0_putUnit 6 = .ok (.iadd, 1) := by decide +kernel
theorem dX0_putUnit_7 : decode cX0_putUnit 7 = .ok (.iload_n 2, 1) := by decide +kernel
theorem dX0_putUnit_8 : decode cX0_putUnit 8 = .ok (.iconst 2, 1) := by decide +kernel
theorem dX0_putUnit_9 : decode cX0_putUnit 9 = .ok (.idiv, 1) := by decide +kernel
theorem dX0_putUnit_10 : decode cX0_putUnit 10 = .ok (.iadd, 1) := by decide +kernel
theorem dX0_putUnit_11 : decode cX0_putUnit 11 = .ok (.dup2, 1) := by decide +kernel
theorem dX0_putUnit_12 : decode cX0_putUnit 12 = .ok (.iaload, 1) := by decide +kernel
theorem dX0_putUnit_13 : decode cX0_putUnit 13 = .ok (.iload_n 3, 1) := by decide +kernel
theorem dX0_putUnit_14 : decode cX0_putUnit 14 = .ok (.bipush 16, 2) := by decide +kernel
theorem dX0_putUnit_16 : decode cX0_putUnit 16 = .ok (.iload_n 2, 1) := by decide +kernel
theorem dX0_putUnit_17 : decode cX0_putUnit 17 = .ok (.iconst 2, 1) := by decide +kernel
theorem dX0_putUnit_18 : decode cX0_putUnit 18 = .ok (.irem, 1) := by decide +kernel
theorem dX0_putUnit_19 : decode cX0_putUnit 19 = .ok (.imul, 1) := by decide +kernel
theorem dX0_putUnit_20 : decode cX0_putUnit 20 = .ok (.ishl, 1) := by decide +kernel
theorem dX0_putUnit_21 : decode cX0_putUnit 21 = .ok (.ior, 1) := by decide +kernel
theorem dX0_putUnit_22 : decode cX0_putUnit 22 = .ok (.iastore, 1) := by decide +kernel
theorem dX0_putUnit_23 : decode cX0_putUnit 23 = .ok (.return_, 1) := by decide +kernel
set_option maxRecDepth 20000 in
theorem ggX0_copyUnits_X0_unitAt : GoodIn wsX0_copyUnits wsX0_unitAt := goodIn_r _ [5, 6, 7, 12, 13, 14, 15, 16, 17, 18, 19, 20, 21] (by decide +kernel) (by decide +kernel)
set_option maxRecDepth 20000 in
theorem gX0_copyUnits_X0_unitAt : GoodIn wsX0_copyUnits (wsV RX0 143 RX0 yX0_unitAt wsX0_unitAt) := goodIn_app (goodIn_of _ (by decide +kernel)) ggX0_copyUnits_X0_unitAt
set_option maxRecDepth 20000 in
theorem ggX0_copyUnits_X0_putUnit : GoodIn wsX0_copyUnits wsX0_putUnit := goodIn_r _ [11, 6, 12, 13, 14, 15, 16, 17, 18, 19, 20, 21] (by decide +kernel) (by decide +kernel)
set_option maxRecDepth 20000 in
theorem gX0_copyUnits_X0_putUnit : GoodIn wsX0_copyUnits (wsV RX0 108 RX0 yX0_putUnit wsX0_putUnit) := goodIn_app (goodIn_of _ (by decide +kernel)) ggX0_copyUnits_X0_putUnit
theorem dX0_copyUnits_0 : decode cX0_copyUnits 0 = .ok (.iload_n 2, 1) := by decide +kernel
theorem dX0_copyUnits_1 : decode cX0_copyUnits 1 = .ok (.istore 6, 2) := by decide +kernel
theorem dX0_copyUnits_3 : decode cX0_copyUnits 3 = .ok (.iload 6, 2) := by decide +kernel
theorem dX0_copyUnits_5 : decode cX0_copyUnits 5 = .ok (.iload_n 3, 1) := by decide +kernel
theorem dX0_copyUnits_6 : decode cX0_copyUnits 6 = .ok (.if_icmp .ge 29, 3) := by decide +kernel
theorem dX0_copyUnits_9 : decode cX0_copyUnits 9 = .ok (.aload_n 0, 1) := by decide +kernel
theorem dX0_copyUnits_10 : decode cX0_copyUnits 10 = .ok (.iload 4, 2) := by decide +kernel
theorem dX0_copyUnits_12 : decode cX0_copyUnits 12 = .ok (.iload 5, 2) := by decide +kernel
theorem dX0_copyUnits_14 : decode cX0_copyUnits 14 = .ok (.iload 6, 2) := by decide +kernel
theorem dX0_copyUnits_16 : decode cX0_copyUnits 16 = .ok (.iadd, 1) := by decide +kernel
theorem dX0_copyUnits_17 : decode cX0_copyUnits 17 = .ok (.iload_n 2, 1) := by decide +kernel
theorem dX0_copyUnits_18 : decode cX0_copyUnits 18 = .ok (.isub, 1) := by decide +kernel
theorem dX0_copyUnits_19 : decode cX0_copyUnits 19 = .ok (.aload_n 0, 1) := by decide +kernel
theorem dX0_copyUnits_20 : decode cX0_copyUnits 20 = .ok (.iload_n 1, 1) := by decide +kernel
theorem dX0_copyUnits_21 : decode cX0_copyUnits 21 = .ok (.iload 6, 2) := by decide +kernel
theorem dX0_copyUnits_23 : decode cX0_copyUnits 23 = .ok (.invokevirtual 143, 3) := by decide +kernel
theorem dX0_copyUnits_26 : decode cX0_copyUnits 26 = .ok (.invokevirtual 108, 3) := by decide +kernel
theorem dX0_copyUnits_29 : decode cX0_copyUnits 29 = .ok (.iinc 6 1, 3) := by decide +kernel
theorem dX0_copyUnits_32 : decode cX0_copyUnits 32 = .ok (.goto (-29), 3) := by decide +kernel
theorem dX0_copyUnits_35 : decode cX0_copyUnits 35 = .ok (.return_, 1) := by decide +kernel
set_option maxRecDepth 20000 in
theorem ggX0_copyAllUnits_X0_kindAt : GoodIn wsX0_copyAllUnits wsX0_kindAt := goodIn_r _ [7, 2, 33, 34, 35, 36, 37, 38, 39, 40, 41, 42] (by decide +kernel) (by decide +kernel)
set_option maxRecDepth 20000 in
theorem gX0_copyAllUnits_X0_kindAt : GoodIn wsX0_copyAllUnits (wsV RX0 76 RX0 yX0_kindAt wsX0_kindAt) := goodIn_app (goodIn_of _ (by decide +kernel)) ggX0_copyAllUnits_X0_kindAt
set_option maxRecDepth 20000 in
theorem ggX0_copyAllUnits_X0_flatOf : GoodIn wsX0_copyAllUnits wsX0_flatOf := goodIn_r _ [11, 2, 3, 4, 5, 6, 7, 33, 34, 35, 36, 37, 38, 39, 40, 41, 42] (by decide +kernel) (by decide +kernel)
set_option maxRecDepth 20000 in
theorem gX0_copyAllUnits_X0_flatOf : GoodIn wsX0_copyAllUnits (wsV RX0 134 RX0 yX0_flatOf wsX0_flatOf) := goodIn_app (goodIn_of _ (by decide +kernel)) ggX0_copyAllUnits_X0_flatOf
set_option maxRecDepth 20000 in
theorem ggX0_copyAllUnits_X0_lengthAt : GoodIn wsX0_copyAllUnits wsX0_lengthAt := goodIn_r _ [15, 2, 16, 17, 18, 6, 19, 33, 34, 35, 36, 37, 38, 39, 40, 41, 42] (by decide +kernel) (by decide +kernel)
set_option maxRecDepth 20000 in
theorem gX0_copyAllUnits_X0_lengthAt : GoodIn wsX0_copyAllUnits (wsV RX0 187 RX0 yX0_lengthAt wsX0_lengthAt) := goodIn_app (goodIn_of _ (by decide +kernel)) ggX0_copyAllUnits_X0_lengthAt
set_option maxRecDepth 20000 in
theorem ggX0_copyAllUnits_X0_copyUnits : GoodIn wsX0_copyAllUnits wsX0_copyUnits := goodIn_r _ [23, 24, 25, 26, 6, 27, 2, 28, 29, 30, 31, 32, 33, 34, 35, 36, 37, 38, 39, 40, 41, 42] (by decide +kernel) (by decide +kernel)
set_option maxRecDepth 20000 in
theorem gX0_copyAllUnits_X0_copyUnits : GoodIn wsX0_copyAllUnits (wsV RX0 137 RX0 yX0_copyUnits wsX0_copyUnits) := goodIn_app (goodIn_of _ (by decide +kernel)) ggX0_copyAllUnits_X0_copyUnits
theorem dX0_copyAllUnits_0 : decode cX0_copyAllUnits 0 = .ok (.iconst 0, 1) := by decide +kernel
theorem dX0_copyAllUnits_1 : decode cX0_copyAllUnits 1 = .ok (.istore_n 3, 1) := by decide +kernel
theorem dX0_copyAllUnits_2 : decode cX0_copyAllUnits 2 = .ok (.iconst 1, 1) := by decide +kernel
theorem dX0_copyAllUnits_3 : decode cX0_copyAllUnits 3 = .ok (.istore 4, 2) := by decide +kernel
theorem dX0_copyAllUnits_5 : decode cX0_copyAllUnits 5 = .ok (.aload_n 0, 1) := by decide +kernel
theorem dX0_copyAllUnits_6 : decode cX0_copyAllUnits 6 = .ok (.getfield 45, 3) := by decide +kernel
theorem dX0_copyAllUnits_9 : decode cX0_copyAllUnits 9 = .ok (.iconst 0, 1) := by decide +kernel
theorem dX0_copyAllUnits_10 : decode cX0_copyAllUnits 10 = .ok (.iload_n 1, 1) := by decide +kernel
theorem dX0_copyAllUnits_11 : decode cX0_copyAllUnits 11 = .ok (.iastore, 1) := by decide +kernel
theorem dX0_copyAllUnits_12 : decode cX0_copyAllUnits 12 = .ok (.sipush 8000, 3) := by decide +kernel
theorem dX0_copyAllUnits_15 : decode cX0_copyAllUnits 15 = .ok (.istore 5, 2) := by decide +kernel
theorem dX0_copyAllUnits_17 : decode cX0_copyAllUnits 17 = .ok (.iload 5, 2) := by decide +kernel
theorem dX0_copyAllUnits_19 : decode cX0_copyAllUnits 19 = .ok (.ifCond .le 114, 3) := by decide +kernel
theorem dX0_copyAllUnits_22 : decode cX0_copyAllUnits 22 = .ok (.iload 4, 2) := by decide +kernel
theorem dX0_copyAllUnits_24 : decode cX0_copyAllUnits 24 = .ok (.ifCond .le 109, 3) := by decide +kernel
theorem dX0_copyAllUnits_27 : decode cX0_copyAllUnits 27 = .ok (.iload 4, 2) := by decide +kernel
theorem dX0_copyAllUnits_29 : decode cX0_copyAllUnits 29 = .ok (.sipush 4000, 3) := by decide +kernel
theorem dX0_copyAllUnits_32 : decode cX0_copyAllUnits 32 = .ok (.if_icmp .ge 101, 3) := by decide +kernel
theorem dX0_copyAllUnits_35 : decode cX0_copyAllUnits 35 = .ok (.aload_n 0, 1) := by decide +kernel
theorem dX0_copyAllUnits_36 : decode cX0_copyAllUnits 36 = .ok (.getfield 45, 3) := by decide +kernel
theorem dX0_copyAllUnits_39 : decode cX0_copyAllUnits 39 = .ok (.iload 4, 2) := by decide +kernel
theorem dX0_copyAllUnits_41 : decode cX0_copyAllUnits 41 = .ok (.iconst 1, 1) := by decide +kernel
theorem dX0_copyAllUnits_42 : decode cX0_copyAllUnits 42 = .ok (.isub, 1) := by decide +kernel
theorem dX0_copyAllUnits_43 : decode cX0_copyAllUnits 43 = .ok (.iaload, 1) := by decide +kernel
theorem dX0_copyAllUnits_44 : decode cX0_copyAllUnits 44 = .ok (.istore 6, 2) := by decide +kernel
theorem dX0_copyAllUnits_46 : decode cX0_copyAllUnits 46 = .ok (.aload_n 0, 1) := by decide +kernel
theorem dX0_copyAllUnits_47 : decode cX0_copyAllUnits 47 = .ok (.iload 6, 2) := by decide +kernel
theorem dX0_copyAllUnits_49 : decode cX0_copyAllUnits 49 = .ok (.invokevirtual 76, 3) := by decide +kernel
theorem dX0_copyAllUnits_52 : decode cX0_copyAllUnits 52 = .ok (.iconst 3, 1) := by decide +kernel
theorem dX0_copyAllUnits_53 : decode cX0_copyAllUnits 53 = .ok (.if_icmp .ne 43, 3) := by decide +kernel
theorem dX0_copyAllUnits_56 : decode cX0_copyAllUnits 56 = .ok (.aload_n 0, 1) := by decide +kernel
theorem dX0_copyAllUnits_57 : decode cX0_copyAllUnits 57 = .ok (.getfield 45, 3) := by decide +kernel
theorem dX0_copyAllUnits_60 : decode cX0_copyAllUnits 60 = .ok (.iload 4, 2) := by decide +kernel
theorem dX0_copyAllUnits_62 : decode cX0_copyAllUnits 62 = .ok (.iconst 1, 1) := by decide +kernel
theorem dX0_copyAllUnits_63 : decode cX0_copyAllUnits 63 = .ok (.isub, 1) := by decide +kernel
theorem dX0_copyAllUnits_64 : decode cX0_copyAllUnits 64 = .ok (.aload_n 0, 1) := by decide +kernel
theorem dX0_copyAllUnits_65 : decode cX0_copyAllUnits 65 = .ok (.getfield 23, 3) := by decide +kernel
theorem dX0_copyAllUnits_68 : decode cX0_copyAllUnits 68 = .ok (.iload 6, 2) := by decide +kernel
theorem dX0_copyAllUnits_70 : decode cX0_copyAllUnits 70 = .ok (.iconst 4, 1) := by decide +kernel
theorem dX0_copyAllUnits_71 : decode cX0_copyAllUnits 71 = .ok (.iadd, 1) := by decide +kernel
theorem dX0_copyAllUnits_72 : decode cX0_copyAllUnits 72 = .ok (.iaload, 1) := by decide +kernel
theorem dX0_copyAllUnits_73 : decode cX0_copyAllUnits 73 = .ok (.iastore, 1) := by decide +kernel
theorem dX0_copyAllUnits_74 : decode cX0_copyAllUnits 74 = .ok (.aload_n 0, 1) := by decide +kernel
theorem dX0_copyAllUnits_75 : decode cX0_copyAllUnits 75 = .ok (.getfield 45, 3) := by decide +kernel
theorem dX0_copyAllUnits_78 : decode cX0_copyAllUnits 78 = .ok (.iload 4, 2) := by decide +kernel
theorem dX0_copyAllUnits_80 : decode cX0_copyAllUnits 80 = .ok (.aload_n 0, 1) := by decide +kernel
theorem dX0_copyAllUnits_81 : decode cX0_copyAllUnits 81 = .ok (.getfield 23, 3) := by decide +kernel
theorem dX0_copyAllUnits_84 : decode cX0_copyAllUnits 84 = .ok (.iload 6, 2) := by decide +kernel
theorem dX0_copyAllUnits_86 : decode cX0_copyAllUnits 86 = .ok (.iconst 3, 1) := by decide +kernel
theorem dX0_copyAllUnits_87 : decode cX0_copyAllUnits 87 = .ok (.iadd, 1) := by decide +kernel
theorem dX0_copyAllUnits_88 : decode cX0_copyAllUnits 88 = .ok (.iaload, 1) := by decide +kernel
theorem dX0_copyAllUnits_89 : decode cX0_copyAllUnits 89 = .ok (.iastore, 1) := by decide +kernel
theorem dX0_copyAllUnits_90 : decode cX0_copyAllUnits 90 = .ok (.iinc 4 1, 3) := by decide +kernel
theorem dX0_copyAllUnits_93 : decode cX0_copyAllUnits 93 = .ok (.goto 34, 3) := by decide +kernel
theorem dX0_copyAllUnits_96 : decode cX0_copyAllUnits 96 = .ok (.aload_n 0, 1) := by decide +kernel
theorem dX0_copyAllUnits_97 : decode cX0_copyAllUnits 97 = .ok (.aload_n 0, 1) := by decide +kernel
theorem dX0_copyAllUnits_98 : decode cX0_copyAllUnits 98 = .ok (.iload 6, 2) := by decide +kernel
theorem dX0_copyAllUnits_100 : decode cX0_copyAllUnits 100 = .ok (.invokevirtual 134, 3) := by decide +kernel
theorem dX0_copyAllUnits_103 : decode cX0_copyAllUnits 103 = .ok (.iconst 0, 1) := by decide +kernel
theorem dX0_copyAllUnits_104 : decode cX0_copyAllUnits 104 = .ok (.aload_n 0, 1) := by decide +kernel
theorem dX0_copyAllUnits_105 : decode cX0_copyAllUnits 105 = .ok (.iload 6, 2) := by decide +kernel
theorem dX0_copyAllUnits_107 : decode cX0_copyAllUnits 107 = .ok (.invokevirtual 187, 3) := by decide +kernel
theorem dX0_copyAllUnits_110 : decode cX0_copyAllUnits 110 = .ok (.iload_n 2, 1) := by decide +kernel
theorem dX0_copyAllUnits_111 : decode cX0_copyAllUnits 111 = .ok (.iload_n 3, 1) := by decide +kernel
theorem dX0_copyAllUnits_112 : decode cX0_copyAllUnits 112 = .ok (.invokevirtual 137, 3) := by decide +kernel
theorem dX0_copyAllUnits_115 : decode cX0_copyAllUnits 115 = .ok (.iload_n 3, 1) := by decide +kernel
theorem dX0_copyAllUnits_116 : decode cX0_copyAllUnits 116 = .ok (.aload_n 0, 1) := by decide +kernel
theorem dX0_copyAllUnits_117 : decode cX0_copyAllUnits 117 = .ok (.iload 6, 2) := by decide +kernel
theorem dX0_copyAllUnits_119 : decode cX0_copyAllUnits 119 = .ok (.invokevirtual 187, 3) := by decide +kernel
theorem dX0_copyAllUnits_122 : decode cX0_copyAllUnits 122 = .ok (.iadd, 1) := by decide +kernel
theorem dX0_copyAllUnits_123 : decode cX0_copyAllUnits 123 = .ok (.istore_n 3, 1) := by decide +kernel
theorem dX0_copyAllUnits_124 : decode cX0_copyAllUnits 124 = .ok (.iinc 4 (-1), 3) := by decide +kernel
theorem dX0_copyAllUnits_127 : decode cX0_copyAllUnits 127 = .ok (.iinc 5 (-1), 3) := by decide +kernel
theorem dX0_copyAllUnits_130 : decode cX0_copyAllUnits 130 = .ok (.goto (-113), 3) := by decide +kernel
theorem dX0_copyAllUnits_133 : decode cX0_copyAllUnits 133 = .ok (.return_, 1) := by decide +kernel
set_option maxRecDepth 20000 in
theorem ggX0_findName_X0_hasSameUnits : GoodIn wsX0_findName wsX0_hasSameUnits := goodIn_r _ [7, 8, 9, 10, 11, 6, 12, 13, 14, 15, 16, 17, 18, 19, 20, 21, 22, 23, 24, 25, 26, 27, 28, 29, 30] (by decide +kernel) (by decide +kernel)
set_option maxRecDepth 20000 in
theorem gX0_findName_X0_hasSameUnits : GoodIn wsX0_findName (wsV RX0 200 RX0 yX0_hasSameUnits wsX0_hasSameUnits) := goodIn_app (goodIn_of _ (by decide +kernel)) ggX0_findName_X0_hasSameUnits
theorem dX0_findName_0 : decode cX0_findName 0 = .ok (.iconst 0, 1) := by decide +kernel
theorem dX0_findName_1 : decode cX0_findName 1 = .ok (.istore_n 2, 1) := by decide +kernel
theorem dX0_findName_2 : decode cX0_findName 2 = .ok (.iload_n 2, 1) := by decide +kernel
theorem dX0_findName_3 : decode cX0_findName 3 = .ok (.aload_n 0, 1) := by decide +kernel
theorem dX0_findName_4 : decode cX0_findName 4 = .ok (.getfield 42, 3) := by decide +kernel
theorem dX0_findName_7 : decode cX0_findName 7 = .ok (.if_icmp .ge 30, 3) := by decide +kernel
theorem dX0_findName_10 : decode cX0_findName 10 = .ok (.aload_n 0, 1) := by decide +kernel
theorem dX0_findName_11 : decode cX0_findName 11 = .ok (.aload_n 0, 1) := by decide +kernel
theorem dX0_findName_12 : decode cX0_findName 12 = .ok (.getfield 39, 3) := by decide +kernel
theorem dX0_findName_15 : decode cX0_findName 15 = .ok (.iload_n 2, 1) := by decide +kernel
theorem dX0_findName_16 : decode cX0_findName 16 = .ok (.iaload, 1) := by decide +kernel
theorem dX0_findName_17 : decode cX0_findName 17 = .ok (.iload_n 1, 1) := by decide +kernel
theorem dX0_findName_18 : decode cX0_findName 18 = .ok (.invokevirtual 200, 3) := by decide +kernel
theorem dX0_findName_21 : decode cX0_findName 21 = .ok (.ifCond .eq 10, 3) := by decide +kernel
theorem dX0_findName_24 : decode cX0_findName 24 = .ok (.aload_n 0, 1) := by decide +kernel
theorem dX0_findName_25 : decode cX0_findName 25 = .ok (.getfield 39, 3) := by decide +kernel
theorem dX0_findName_28 : decode cX0_findName 28 = .ok (.iload_n 2, 1) := by decide +kernel
theorem dX0_findName_29 : decode cX0_findName 29 = .ok (.iaload, 1) := by decide +kernel
theorem dX0_findName_30 : decode cX0_findName 30 = .ok (.ireturn, 1) := by decide +kernel
theorem dX0_findName_31 : decode cX0_findName 31 = .ok (.iinc 2 1, 3) := by decide +kernel
theorem dX0_findName_34 : decode cX0_findName 34 = .ok (.goto (-32), 3) := by decide +kernel
theorem dX0_findName_37 : decode cX0_findName 37 = .ok (.iconst (-1), 1) := by decide +kernel
theorem dX0_findName_38 : decode cX0_findName 38 = .ok (.ireturn, 1) := by decide +kernel
set_option maxRecDepth 20000 in
theorem ggX0_hasSameUnits_X0_lengthAt : GoodIn wsX0_hasSameUnits wsX0_lengthAt := goodIn_r _ [6, 1, 7, 8, 9, 5, 10, 15, 16, 17, 18, 19, 20, 21, 22, 23, 24] (by decide +kernel) (by decide +kernel)
set_option maxRecDepth 20000 in
theorem gX0_hasSameUnits_X0_lengthAt : GoodIn wsX0_hasSameUnits (wsV RX0 187 RX0 yX0_lengthAt wsX0_lengthAt) := goodIn_app (goodIn_of _ (by decide +kernel)) ggX0_hasSameUnits_X0_lengthAt
set_option maxRecDepth 20000 in
theorem ggX0_hasSameUnits_X0_sizeAt : GoodIn wsX0_hasSameUnits wsX0_sizeAt := goodIn_r _ [14, 1, 15, 16, 17, 18, 19, 20, 21, 22, 23, 24] (by decide +kernel) (by decide +kernel)
set_option maxRecDepth 20000 in
theorem gX0_hasSameUnits_X0_sizeAt : GoodIn wsX0_hasSameUnits (wsV RX0 181 RX0 yX0_sizeAt wsX0_sizeAt) := goodIn_app (goodIn_of _ (by decide +kernel)) ggX0_hasSameUnits_X0_sizeAt
theorem dX0_hasSameUnits_0 : decode cX0_hasSameUnits 0 = .ok (.aload_n 0, 1) := by decide +kernel
theorem dX0_hasSameUnits_1 : decode cX0_hasSameUnits 1 = .ok (.iload_n 1, 1) := by decide +kernel
theorem dX0_hasSameUnits_2 : decode cX0_hasSameUnits 2 = .ok (.invokevirtual 187, 3) := by decide +kernel
theorem dX0_hasSameUnits_5 : decode cX0_hasSameUnits 5 = .ok (.aload_n 0, 1) := by decide +kernel
theorem dX0_hasSameUnits_6 : decode cX0_hasSameUnits 6 = .ok (.iload_n 2, 1) := by decide +kernel
theorem dX0_hasSameUnits_7 : decode cX0_hasSameUnits 7 = .ok (.invokevirtual 187, 3) := by decide +kernel
theorem dX0_hasSameUnits_10 : decode cX0_hasSameUnits 10 = .ok (.if_icmp .eq 5, 3) := by decide +kernel
theorem dX0_hasSameUnits_13 : decode cX0_hasSameUnits 13 = .ok (.iconst 0, 1) := by decide +kernel
theorem dX0_hasSameUnits_14 : decode cX0_hasSameUnits 14 = .ok (.ireturn, 1) := by decide +kernel
theorem dX0_hasSameUnits_15 : decode cX0_hasSameUnits 15 = .ok (.aload_n 0, 1) := by decide +kernel
theorem dX0_hasSameUnits_16 : decode cX0_hasSameUnits 16 = .ok (.iload_n 1, 1) := by decide +kernel
theorem dX0_hasSameUnits_17 : decode cX0_hasSameUnits 17 = .ok (.invokevirtual 181, 3) := by decide +kernel
theorem dX0_hasSameUnits_20 : decode cX0_hasSameUnits 20 = .ok (.istore_n 3, 1) := by decide +kernel
theorem dX0_hasSameUnits_21 : decode cX0_hasSameUnits 21 = .ok (.iconst 4, 1) := by decide +kernel
theorem dX0_hasSameUnits_22 : decode cX0_hasSameUnits 22 = .ok (.istore 4, 2) := by decide +kernel
theorem dX0_hasSameUnits_24 : decode cX0_hasSameUnits 24 = .ok (.iload 4, 2) := by decide +kernel
theorem dX0_hasSameUnits_26 : decode cX0_hasSameUnits 26 = .ok (.iload_n 3, 1) := by decide +kernel
theorem dX0_hasSameUnits_27 : decode cX0_hasSameUnits 27 = .ok (.if_icmp .ge 32, 3) := by decide +kernel
theorem dX0_hasSameUnits_30 : decode cX0_hasSameUnits 30 = .ok (.aload_n 0, 1) := by decide +kernel
theorem dX0_hasSameUnits_31 : decode cX0_hasSameUnits 31 = .ok (.getfield 23, 3) := by decide +kernel
theorem dX0_hasSameUnits_34 : decode cX0_hasSameUnits 34 = .ok (.iload_n 1, 1) := by decide +kernel
theorem dX0_hasSameUnits_35 : decode cX0_hasSameUnits 35 = .ok (.iload 4, 2) := by decide +kernel
theorem dX0_hasSameUnits_37 : decode cX0_hasSameUnits 37 = .ok (.iadd, 1) := by decide +kernel
theorem dX0_hasSameUnits_38 : decode cX0_hasSameUnits 38 = .ok (.iaload, 1) := by decide +kernel
theorem dX0_hasSameUnits_39 : decode cX0_hasSameUnits 39 = .ok (.aload_n 0, 1) := by decide +kernel
theorem dX0_hasSameUnits_40 : decode cX0_hasSameUnits 40 = .ok (.getfield 23, 3) := by decide +kernel
theorem dX0_hasSameUnits_43 : decode cX0_hasSameUnits 43 = .ok (.iload_n 2, 1) := by decide +kernel
theorem dX0_hasSameUnits_44 : decode cX0_hasSameUnits 44 = .ok (.iload 4, 2) := by decide +kernel
theorem dX0_hasSameUnits_46 : decode cX0_hasSameUnits 46 = .ok (.iadd, 1) := by decide +kernel
theorem dX0_hasSameUnits_47 : decode cX0_hasSameUnits 47 = .ok (.iaload, 1) := by decide +kernel
theorem dX0_hasSameUnits_48 : decode cX0_hasSameUnits 48 = .ok (.if_icmp .eq 5, 3) := by decide +kernel
theorem dX0_hasSameUnits_51 : decode cX0_hasSameUnits 51 = .ok (.iconst 0, 1) := by decide +kernel
theorem dX0_hasSameUnits_52 : decode cX0_hasSameUnits 52 = .ok (.ireturn, 1) := by decide +kernel
theorem dX0_hasSameUnits_53 : decode cX0_hasSameUnits 53 = .ok (.iinc 4 1, 3) := by decide +kernel
theorem dX0_hasSameUnits_56 : decode cX0_hasSameUnits 56 = .ok (.goto (-32), 3) := by decide +kernel
theorem dX0_hasSameUnits_59 : decode cX0_hasSameUnits 59 = .ok (.iconst 1, 1) := by decide +kernel
theorem dX0_hasSameUnits_60 : decode cX0_hasSameUnits 60 = .ok (.ireturn, 1) := by decide +kernel
theorem dX0_isStressed_0 : decode cX0_isStressed 0 = .ok (.aload_n 0, 1) := by decide +kernel
theorem dX0_isStressed_1 : decode cX0_isStressed 1 = .ok (.getfield 51, 3) := by decide +kernel
theorem dX0_isStressed_4 : decode cX0_isStressed 4 = .ok (.ifCond .le 21, 3) := by decide +kernel
theorem dX0_isStressed_7 : decode cX0_isStressed 7 = .ok (.aload_n 0, 1) := by decide +kernel
theorem dX0_isStressed_8 : decode cX0_isStressed 8 = .ok (.getfield 54, 3) := by decide +kernel
theorem dX0_isStressed_11 : decode cX0_isStressed 11 = .ok (.iconst 1, 1) := by decide +kernel
theorem dX0_isStressed_12 : decode cX0_isStressed 12 = .ok (.iadd, 1) := by decide +kernel
theorem dX0_isStressed_13 : decode cX0_isStressed 13 = .ok (.aload_n 0, 1) := by decide +kernel
theorem dX0_isStressed_14 : decode cX0_isStressed 14 = .ok (.getfield 51, 3) := by decide +kernel
theorem dX0_isStressed_17 : decode cX0_isStressed 17 = .ok (.irem, 1) := by decide +kernel
theorem dX0_isStressed_18 : decode cX0_isStressed 18 = .ok (.ifCond .ne 7, 3) := by decide +kernel
theorem dX0_isStressed_21 : decode cX0_isStressed 21 = .ok (.iconst 1, 1) := by decide +kernel
theorem dX0_isStressed_22 : decode cX0_isStressed 22 = .ok (.goto 4, 3) := by decide +kernel
theorem dX0_isStressed_25 : decode cX0_isStressed 25 = .ok (.iconst 0, 1) := by decide +kernel
theorem dX0_isStressed_26 : decode cX0_isStressed 26 = .ok (.ireturn, 1) := by decide +kernel
set_option maxRecDepth 20000 in
theorem ggX0_touchRoots_X0_touch : GoodIn wsX0_touchRoots wsX0_touch := goodIn_r _ [6, 7, 8, 9, 10, 11, 12, 13, 14, 15, 16, 17, 18] (by decide +kernel) (by decide +kernel)
set_option maxRecDepth 20000 in
theorem gX0_touchRoots_X0_touch : GoodIn wsX0_touchRoots (wsV RX0 237 RX0 yX0_touch wsX0_touch) := goodIn_app (goodIn_of _ (by decide +kernel)) ggX0_touchRoots_X0_touch
theorem dX0_touchRoots_0 : decode cX0_touchRoots 0 = .ok (.iconst 0, 1) := by decide +kernel
theorem dX0_touchRoots_1 : decode cX0_touchRoots 1 = .ok (.istore_n 2, 1) := by decide +kernel
theorem dX0_touchRoots_2 : decode cX0_touchRoots 2 = .ok (.iload_n 2, 1) := by decide +kernel
theorem dX0_touchRoots_3 : decode cX0_touchRoots 3 = .ok (.bipush 24, 2) := by decide +kernel
theorem dX0_touchRoots_5 : decode cX0_touchRoots 5 = .ok (.if_icmp .ge 26, 3) := by decide +kernel
theorem dX0_touchRoots_8 : decode cX0_touchRoots 8 = .ok (.aload_n 0, 1) := by decide +kernel
theorem dX0_touchRoots_9 : decode cX0_touchRoots 9 = .ok (.getfield 30, 3) := by decide +kernel
theorem dX0_touchRoots_12 : decode cX0_touchRoots 12 = .ok (.iload_n 2, 1) := by decide +kernel
theorem dX0_touchRoots_13 : decode cX0_touchRoots 13 = .ok (.aload_n 0, 1) := by decide +kernel
theorem dX0_touchRoots_14 : decode cX0_touchRoots 14 = .ok (.aload_n 0, 1) := by decide +kernel
theorem dX0_touchRoots_15 : decode cX0_touchRoots 15 = .ok (.getfield 30, 3) := by decide +kernel
theorem dX0_touchRoots_18 : decode cX0_touchRoots 18 = .ok (.iload_n 2, 1) := by decide +kernel
theorem dX0_touchRoots_19 : decode cX0_touchRoots 19 = .ok (.iaload, 1) := by decide +kernel
theorem dX0_touchRoots_20 : decode cX0_touchRoots 20 = .ok (.iload_n 1, 1) := by decide +kernel
theorem dX0_touchRoots_21 : decode cX0_touchRoots 21 = .ok (.invokevirtual 237, 3) := by decide +kernel
theorem dX0_touchRoots_24 : decode cX0_touchRoots 24 = .ok (.iastore, 1) := by decide +kernel
theorem dX0_touchRoots_25 : decode cX0_touchRoots 25 = .ok (.iinc 2 1, 3) := by decide +kernel
theorem dX0_touchRoots_28 : decode cX0_touchRoots 28 = .ok (.goto (-26), 3) := by decide +kernel
theorem dX0_touchRoots_31 : decode cX0_touchRoots 31 = .ok (.return_, 1) := by decide +kernel
set_option maxRecDepth 20000 in
theorem ggX0_touchLeads_X0_linksAt : GoodIn wsX0_touchLeads wsX0_linksAt := goodIn_r _ [6, 1, 20, 21, 22, 23, 24, 25, 26, 27, 28, 29] (by decide +kernel) (by decide +kernel)
set_option maxRecDepth 20000 in
theorem gX0_touchLeads_X0_linksAt : GoodIn wsX0_touchLeads (wsV RX0 171 RX0 yX0_linksAt wsX0_linksAt) := goodIn_app (goodIn_of _ (by decide +kernel)) ggX0_touchLeads_X0_linksAt
set_option maxRecDepth 20000 in
theorem ggX0_touchLeads_X0_touch : GoodIn wsX0_touchLeads wsX0_touch := goodIn_r _ [10, 1, 11, 20, 21, 22, 23, 24, 25, 26, 27, 28, 29] (by decide +kernel) (by decide +kernel)
set_option maxRecDepth 20000 in
theorem gX0_touchLeads_X0_touch : GoodIn wsX0_touchLeads (wsV RX0 237 RX0 yX0_touch wsX0_touch) := goodIn_app (goodIn_of _ (by decide +kernel)) ggX0_touchLeads_X0_touch
set_option maxRecDepth 20000 in
theorem ggX0_touchLeads_X0_valuesAt : GoodIn wsX0_touchLeads wsX0_valuesAt := goodIn_r _ [15, 1, 20, 21, 22, 23, 24, 25, 26, 27, 28, 29] (by decide +kernel) (by decide +kernel)
set_option maxRecDepth 20000 in
theorem gX0_touchLeads_X0_valuesAt : GoodIn wsX0_touchLeads (wsV RX0 176 RX0 yX0_valuesAt wsX0_valuesAt) := goodIn_app (goodIn_of _ (by decide +kernel)) ggX0_touchLeads_X0_valuesAt
set_option maxRecDepth 20000 in
theorem ggX0_touchLeads_X0_isReference : GoodIn wsX0_touchLeads wsX0_isReference := goodIn_r _ [18, 19] (by decide +kernel) (by decide +kernel)
set_option maxRecDepth 20000 in
theorem gX0_touchLeads_X0_isReference : GoodIn wsX0_touchLeads (va_wsS RX0 86 yX0_isReference wsX0_isReference) := goodIn_app (goodIn_of _ (by decide +kernel)) ggX0_touchLeads_X0_isReference
theorem dX0_touchLeads_0 : decode cX0_touchLeads 0 = .ok (.iload_n 1, 1) := by decide +kernel
theorem dX0_touchLeads_1 : decode cX0_touchLeads 1 = .ok (.iconst 3, 1) := by decide +kernel
theorem dX0_touchLeads_2 : decode cX0_touchLeads 2 = .ok (.iadd, 1) := by decide +kernel
theorem dX0_touchLeads_3 : decode cX0_touchLeads 3 = .ok (.aload_n 0, 1) := by decide +kernel
theorem dX0_touchLeads_4 : decode cX0_touchLeads 4 = .ok (.iload_n 1, 1) := by decide +kernel
theorem dX0_touchLeads_5 : decode cX0_touchLeads 5 = .ok (.invokevirtual 171, 3) := by decide +kernel
theorem dX0_touchLeads_8 : decode cX0_touchLeads 8 = .ok (.iadd, 1) := by decide +kernel
theorem dX0_touchLeads_9 : decode cX0_touchLeads 9 = .ok (.istore_n 3, 1) := by decide +kernel
theorem dX0_touchLeads_10 : decode cX0_touchLeads 10 = .ok (.iload_n 1, 1) := by decide +kernel
theorem dX0_touchLeads_11 : decode cX0_touchLeads 11 = .ok (.iconst 3, 1) := by decide +kernel
theorem dX0_touchLeads_12 : decode cX0_touchLeads 12 = .ok (.iadd, 1) := by decide +kernel
theorem dX0_touchLeads_13 : decode cX0_touchLeads 13 = .ok (.istore 4, 2) := by decide +kernel
theorem dX0_touchLeads_15 : decode cX0_touchLeads 15 = .ok (.iload 4, 2) := by decide +kernel
theorem dX0_touchLeads_17 : decode cX0_touchLeads 17 = .ok (.iload_n 3, 1) := by decide +kernel
theorem dX0_touchLeads_18 : decode cX0_touchLeads 18 = .ok (.if_icmp .ge 28, 3) := by decide +kernel
theorem dX0_touchLeads_21 : decode cX0_touchLeads 21 = .ok (.aload_n 0, 1) := by decide +kernel
theorem dX0_touchLeads_22 : decode cX0_touchLeads 22 = .ok (.getfield 23, 3) := by decide +kernel
theorem dX0_touchLeads_25 : decode cX0_touchLeads 25 = .ok (.iload 4, 2) := by decide +kernel
theorem dX0_touchLeads_27 : decode cX0_touchLeads 27 = .ok (.aload_n 0, 1) := by decide +kernel
theorem dX0_touchLeads_28 : decode cX0_touchLeads 28 = .ok (.aload_n 0, 1) := by decide +kernel
theorem dX0_touchLeads_29 : decode cX0_touchLeads 29 = .ok (.getfield 23, 3) := by decide +kernel
theorem dX0_touchLeads_32 : decode cX0_touchLeads 32 = .ok (.iload 4, 2) := by decide +kernel
theorem dX0_touchLeads_34 : decode cX0_touchLeads 34 = .ok (.iaload, 1) := by decide +kernel
theorem dX0_touchLeads_35 : decode cX0_touchLeads 35 = .ok (.iload_n 2, 1) := by decide +kernel
theorem dX0_touchLeads_36 : decode cX0_touchLeads 36 = .ok (.invokevirtual 237, 3) := by decide +kernel
theorem dX0_touchLeads_39 : decode cX0_touchLeads 39 = .ok (.iastore, 1) := by decide +kernel
theorem dX0_touchLeads_40 : decode cX0_touchLeads 40 = .ok (.iinc 4 1, 3) := by decide +kernel
theorem dX0_touchLeads_43 : decode cX0_touchLeads 43 = .ok (.goto (-28), 3) := by decide +kernel
theorem dX0_touchLeads_46 : decode cX0_touchLeads 46 = .ok (.iload_n 3, 1) := by decide +kernel
theorem dX0_touchLeads_47 : decode cX0_touchLeads 47 = .ok (.iconst 2, 1) := by decide +kernel
theorem dX0_touchLeads_48 : decode cX0_touchLeads 48 = .ok (.aload_n 0, 1) := by decide +kernel
theorem dX0_touchLeads_49 : decode cX0_touchLeads 49 = .ok (.iload_n 1, 1) := by decide +kernel
theorem dX0_touchLeads_50 : decode cX0_touchLeads 50 = .ok (.invokevirtual 176, 3) := by decide +kernel
theorem dX0_touchLeads_53 : decode cX0_touchLeads 53 = .ok (.imul, 1) := by decide +kernel
theorem dX0_touchLeads_54 : decode cX0_touchLeads 54 = .ok (.iadd, 1) := by decide +kernel
theorem dX0_touchLeads_55 : decode cX0_touchLeads 55 = .ok (.istore 4, 2) := by decide +kernel
theorem dX0_touchLeads_57 : decode cX0_touchLeads 57 = .ok (.iload_n 3, 1) := by decide +kernel
theorem dX0_touchLeads_58 : decode cX0_touchLeads 58 = .ok (.istore 5, 2) := by decide +kernel
theorem dX0_touchLeads_60 : decode cX0_touchLeads 60 = .ok (.iload 5, 2) := by decide +kernel
theorem dX0_touchLeads_62 : decode cX0_touchLeads 62 = .ok (.iload 4, 2) := by decide +kernel
theorem dX0_touchLeads_64 : decode cX0_touchLeads 64 = .ok (.if_icmp .ge 45, 3) := by decide +kernel
theorem dX0_touchLeads_67 : decode cX0_touchLeads 67 = .ok (.aload_n 0, 1) := by decide +kernel
theorem dX0_touchLeads_68 : decode cX0_touchLeads 68 = .ok (.getfield 23, 3) := by decide +kernel
theorem dX0_touchLeads_71 : decode cX0_touchLeads 71 = .ok (.iload 5, 2) := by decide +kernel
theorem dX0_touchLeads_73 : decode cX0_touchLeads 73 = .ok (.iaload, 1) := by decide +kernel
theorem dX0_touchLeads_74 : decode cX0_touchLeads 74 = .ok (.invokestatic 86, 3) := by decide +kernel
theorem dX0_touchLeads_77 : decode cX0_touchLeads 77 = .ok (.ifCond .eq 26, 3) := by decide +kernel
theorem dX0_touchLeads_80 : decode cX0_touchLeads 80 = .ok (.aload_n 0, 1) := by decide +kernel
theorem dX0_touchLeads_81 : decode cX0_touchLeads 81 = .ok (.getfield 23, 3) := by decide +kernel
theorem dX0_touchLeads_84 : decode cX0_touchLeads 84 = .ok (.iload 5, 2) := by decide +kernel
theorem dX0_touchLeads_86 : decode cX0_touchLeads 86 = .ok (.iconst 1, 1) := by decide +kernel
theorem dX0_touchLeads_87 : decode cX0_touchLeads 87 = .ok (.iadd, 1) := by decide +kernel
theorem dX0_touchLeads_88 : decode cX0_touchLeads 88 = .ok (.aload_n 0, 1) := by decide +kernel
theorem dX0_touchLeads_89 : decode cX0_touchLeads 89 = .ok (.aload_n 0, 1) := by decide +kernel
theorem dX0_touchLeads_90 : decode cX0_touchLeads 90 = .ok (.getfield 23, 3) := by decide +kernel
theorem dX0_touchLeads_93 : decode cX0_touchLeads 93 = .ok (.iload 5, 2) := by decide +kernel
theorem dX0_touchLeads_95 : decode cX0_touchLeads 95 = .ok (.iconst 1, 1) := by decide +kernel
theorem dX0_touchLeads_96 : decode cX0_touchLeads 96 = .ok (.iadd, 1) := by decide +kernel
theorem dX0_touchLeads_97 : decode cX0_touchLeads 97 = .ok (.iaload, 1) := by decide +kernel
theorem dX0_touchLeads_98 : decode cX0_touchLeads 98 = .ok (.iload_n 2, 1) := by decide +kernel
theorem dX0_touchLeads_99 : decode cX0_touchLeads 99 = .ok (.invokevirtual 237, 3) := by decide +kernel
theorem dX0_touchLeads_102 : decode cX0_touchLeads 102 = .ok (.iastore, 1) := by decide +kernel
theorem dX0_touchLeads_103 : decode cX0_touchLeads 103 = .ok (.iinc 5 2, 3) := by decide +kernel
theorem dX0_touchLeads_106 : decode cX0_touchLeads 106 = .ok (.goto (-46), 3) := by decide +kernel
theorem dX0_touchLeads_109 : decode cX0_touchLeads 109 = .ok (.return_, 1) := by decide +kernel
theorem dX0_touch_0 : decode cX0_touch 0 = .ok (.iload_n 1, 1) := by decide +kernel
theorem dX0_touch_1 : decode cX0_touch 1 = .ok (.iconst (-1), 1) := by decide +kernel
theorem dX0_touch_2 : decode cX0_touch 2 = .ok (.if_icmp .ne 5, 3) := by decide +kernel
theorem dX0_touch_5 : decode cX0_touch 5 = .ok (.iconst (-1), 1) := by decide +kernel
theorem dX0_touch_6 : decode cX0_touch 6 = .ok (.ireturn, 1) := by decide +kernel
theorem dX0_touch_7 : decode cX0_touch 7 = .ok (.iload_n 2, 1) := by decide +kernel
theorem dX0_touch_8 : decode cX0_touch 8 = .ok (.ifCond .eq 12, 3) := by decide +kernel
theorem dX0_touch_11 : decode cX0_touch 11 = .ok (.aload_n 0, 1) := by decide +kernel
theorem dX0_touch_12 : decode cX0_touch 12 = .ok (.getfield 23, 3) := by decide +kernel
theorem dX0_touch_15 : decode cX0_touch 15 = .ok (.iload_n 1, 1) := by decide +kernel
theorem dX0_touch_16 : decode cX0_touch 16 = .ok (.iconst 1, 1) := by decide +kernel
theorem dX0_touch_17 : decode cX0_touch 17 = .ok (.iadd, 1) := by decide +kernel
theorem dX0_touch_18 : decode cX0_touch 18 = .ok (.iaload, 1) := by decide +kernel
theorem dX0_touch_19 : decode cX0_touch 19 = .ok (.ireturn, 1) := by decide +kernel
theorem dX0_touch_20 : decode cX0_touch 20 = .ok (.aload_n 0, 1) := by decide +kernel
theorem dX0_touch_21 : decode cX0_touch 21 = .ok (.getfield 23, 3) := by decide +kernel
theorem dX0_touch_24 : decode cX0_touch 24 = .ok (.iload_n 1, 1) := by decide +kernel
theorem dX0_touch_25 : decode cX0_touch 25 = .ok (.iconst 1, 1) := by decide +kernel
theorem dX0_touch_26 : decode cX0_touch 26 = .ok (.iadd, 1) := by decide +kernel
theorem dX0_touch_27 : decode cX0_touch 27 = .ok (.iaload, 1) := by decide +kernel
theorem dX0_touch_28 : decode cX0_touch 28 = .ok (.iconst (-1), 1) := by decide +kernel
theorem dX0_touch_29 : decode cX0_touch 29 = .ok (.if_icmp .ne 29, 3) := by decide +kernel
theorem dX0_touch_32 : decode cX0_touch 32 = .ok (.aload_n 0, 1) := by decide +kernel
theorem dX0_touch_33 : decode cX0_touch 33 = .ok (.getfield 23, 3) := by decide +kernel
theorem dX0_touch_36 : decode cX0_touch 36 = .ok (.iload_n 1, 1) := by decide +kernel
theorem dX0_touch_37 : decode cX0_touch 37 = .ok (.iconst 1, 1) := by decide +kernel
theorem dX0_touch_38 : decode cX0_touch 38 = .ok (.iadd, 1) := by decide +kernel
theorem dX0_touch_39 : decode cX0_touch 39 = .ok (.iload_n 1, 1) := by decide +kernel
theorem dX0_touch_40 : decode cX0_touch 40 = .ok (.iastore, 1) := by decide +kernel
theorem dX0_touch_41 : decode cX0_touch 41 = .ok (.aload_n 0, 1) := by decide +kernel
theorem dX0_touch_42 : decode cX0_touch 42 = .ok (.getfield 23, 3) := by decide +kernel
theorem dX0_touch_45 : decode cX0_touch 45 = .ok (.iload_n 1, 1) := by decide +kernel
theorem dX0_touch_46 : decode cX0_touch 46 = .ok (.iconst 2, 1) := by decide +kernel
theorem dX0_touch_47 : decode cX0_touch 47 = .ok (.iadd, 1) := by decide +kernel
theorem dX0_touch_48 : decode cX0_touch 48 = .ok (.aload_n 0, 1) := by decide +kernel
theorem dX0_touch_49 : decode cX0_touch 49 = .ok (.getfield 48, 3) := by decide +kernel
theorem dX0_touch_52 : decode cX0_touch 52 = .ok (.iastore, 1) := by decide +kernel
theorem dX0_touch_53 : decode cX0_touch 53 = .ok (.aload_n 0, 1) := by decide +kernel
theorem dX0_touch_54 : decode cX0_touch 54 = .ok (.iload_n 1, 1) := by decide +kernel
theorem dX0_touch_55 : decode cX0_touch 55 = .ok (.putfield 48, 3) := by decide +kernel
theorem dX0_touch_58 : decode cX0_touch 58 = .ok (.iload_n 1, 1) := by decide +kernel
theorem dX0_touch_59 : decode cX0_touch 59 = .ok (.ireturn, 1) := by decide +kernel
set_option maxRecDepth 20000 in
theorem ggX0_planMoves_X0_sizeAt : GoodIn wsX0_planMoves wsX0_sizeAt := goodIn_r _ [7, 2, 8, 9, 10, 11, 12, 13, 14, 15, 16, 17] (by decide +kernel) (by decide +kernel)
set_option maxRecDepth 20000 in
theorem gX0_planMoves_X0_sizeAt : GoodIn wsX0_planMoves (wsV RX0 181 RX0 yX0_sizeAt wsX0_sizeAt) := goodIn_app (goodIn_of _ (by decide +kernel)) ggX0_planMoves_X0_sizeAt
theorem dX0_planMoves_0 : decode cX0_planMoves 0 = .ok (.iconst 0, 1) := by decide +kernel
theorem dX0_planMoves_1 : decode cX0_planMoves 1 = .ok (.istore_n 1, 1) := by decide +kernel
theorem dX0_planMoves_2 : decode cX0_planMoves 2 = .ok (.iconst 0, 1) := by decide +kernel
theorem dX0_planMoves_3 : decode cX0_planMoves 3 = .ok (.istore_n 2, 1) := by decide +kernel
theorem dX0_planMoves_4 : decode cX0_planMoves 4 = .ok (.iload_n 2, 1) := by decide +kernel
theorem dX0_planMoves_5 : decode cX0_planMoves 5 = .ok (.aload_n 0, 1) := by decide +kernel
theorem dX0_planMoves_6 : decode cX0_planMoves 6 = .ok (.getfield 27, 3) := by decide +kernel
theorem dX0_planMoves_9 : decode cX0_planMoves 9 = .ok (.if_icmp .ge 43, 3) := by decide +kernel
theorem dX0_planMoves_12 : decode cX0_planMoves 12 = .ok (.aload_n 0, 1) := by decide +kernel
theorem dX0_planMoves_13 : decode cX0_planMoves 13 = .ok (.getfield 23, 3) := by decide +kernel
theorem dX0_planMoves_16 : decode cX0_planMoves 16 = .ok (.iload_n 2, 1) := by decide +kernel
theorem dX0_planMoves_17 : decode cX0_planMoves 17 = .ok (.iconst 1, 1) := by decide +kernel
theorem dX0_planMoves_18 : decode cX0_planMoves 18 = .ok (.iadd, 1) := by decide +kernel
theorem dX0_planMoves_19 : decode cX0_planMoves 19 = .ok (.iaload, 1) := by decide +kernel
theorem dX0_planMoves_20 : decode cX0_planMoves 20 = .ok (.iconst (-1), 1) := by decide +kernel
theorem dX0_planMoves_21 : decode cX0_planMoves 21 = .ok (.if_icmp .eq 20, 3) := by decide +kernel
theorem dX0_planMoves_24 : decode cX0_planMoves 24 = .ok (.aload_n 0, 1) := by decide +kernel
theorem dX0_planMoves_25 : decode cX0_planMoves 25 = .ok (.getfield 23, 3) := by decide +kernel
theorem dX0_planMoves_28 : decode cX0_planMoves 28 = .ok (.iload_n 2, 1) := by decide +kernel
theorem dX0_planMoves_29 : decode cX0_planMoves 29 = .ok (.iconst 1, 1) := by decide +kernel
theorem dX0_planMoves_30 : decode cX0_planMoves 30 = .ok (.iadd, 1) := by decide +kernel
theorem dX0_planMoves_31 : decode cX0_planMoves 31 = .ok (.iload_n 1, 1) := by decide +kernel
theorem dX0_planMoves_32 : decode cX0_planMoves 32 = .ok (.iastore, 1) := by decide +kernel
theorem dX0_planMoves_33 : decode cX0_planMoves 33 = .ok (.iload_n 1, 1) := by decide +kernel
theorem dX0_planMoves_34 : decode cX0_planMoves 34 = .ok (.aload_n 0, 1) := by decide +kernel
theorem dX0_planMoves_35 : decode cX0_planMoves 35 = .ok (.iload_n 2, 1) := by decide +kernel
theorem dX0_planMoves_36 : decode cX0_planMoves 36 = .ok (.invokevirtual 181, 3) := by decide +kernel
theorem dX0_planMoves_39 : decode cX0_planMoves 39 = .ok (.iadd, 1) := by decide +kernel
theorem dX0_planMoves_40 : decode cX0_planMoves 40 = .ok (.istore_n 1, 1) := by decide +kernel
theorem dX0_planMoves_41 : decode cX0_planMoves 41 = .ok (.iload_n 2, 1) := by decide +kernel
theorem dX0_planMoves_42 : decode cX0_planMoves 42 = .ok (.aload_n 0, 1) := by decide +kernel
theorem dX0_planMoves_43 : decode cX0_planMoves 43 = .ok (.iload_n 2, 1) := by decide +kernel
theorem dX0_planMoves_44 : decode cX0_planMoves 44 = .ok (.invokevirtual 181, 3) := by decide +kernel
theorem dX0_planMoves_47 : decode cX0_planMoves 47 = .ok (.iadd, 1) := by decide +kernel
theorem dX0_planMoves_48 : decode cX0_planMoves 48 = .ok (.istore_n 2, 1) := by decide +kernel
theorem dX0_planMoves_49 : decode cX0_planMoves 49 = .ok (.goto (-45), 3) := by decide +kernel
theorem dX0_planMoves_52 : decode cX0_planMoves 52 = .ok (.iload_n 1, 1) := by decide +kernel
theorem dX0_planMoves_53 : decode cX0_planMoves 53 = .ok (.ireturn, 1) := by decide +kernel
theorem dX0_keepNames_0 : decode cX0_keepNames 0 = .ok (.iconst 0, 1) := by decide +kernel
theorem dX0_keepNames_1 : decode cX0_keepNames 1 = .ok (.istore_n 1, 1) := by decide +kernel
theorem dX0_keepNames_2 : decode cX0_keepNames 2 = .ok (.iconst 0, 1) := by decide +kernel
theorem dX0_keepNames_3 : decode cX0_keepNames 3 = .ok (.istore_n 2, 1) := by decide +kernel
theorem dX0_keepNames_4 : decode cX0_keepNames 4 = .ok (.iload_n 2, 1) := by decide +kernel
theorem dX0_keepNames_5 : decode cX0_keepNames 5 = .ok (.aload_n 0, 1) := by decide +kernel
theorem dX0_keepNames_6 : decode cX0_keepNames 6 = .ok (.getfield 42, 3) := by decide +kernel
theorem dX0_keepNames_9 : decode cX0_keepNames 9 = .ok (.if_icmp .ge 38, 3) := by decide +kernel
theorem dX0_keepNames_12 : decode cX0_keepNames 12 = .ok (.aload_n 0, 1) := by decide +kernel
theorem dX0_keepNames_13 : decode cX0_keepNames 13 = .ok (.getfield 23, 3) := by decide +kernel
theorem dX0_keepNames_16 : decode cX0_keepNames 16 = .ok (.aload_n 0, 1) := by decide +kernel
theorem dX0_keepNames_17 : decode cX0_keepNames 17 = .ok (.getfield 39, 3) := by decide +kernel
theorem dX0_keepNames_20 : decode cX0_keepNames 20 = .ok (.iload_n 2, 1) := by decide +kernel
theorem dX0_keepNames_21 : decode cX0_keepNames 21 = .ok (.iaload, 1) := by decide +kernel
theorem dX0_keepNames_22 : decode cX0_keepNames 22 = .ok (.iconst 1, 1) := by decide +kernel
theorem dX0_keepNames_23 : decode cX0_keepNames 23 = .ok (.iadd, 1) := by decide +kernel
theorem dX0_keepNames_24 : decode cX0_keepNames 24 = .ok (.iaload, 1) := by decide +kernel
theorem dX0_keepNames_25 : decode cX0_keepNames 25 = .ok (.istore_n 3, 1) := by decide +kernel
theorem dX0_keepNames_26 : decode cX0_keepNames 26 = .ok (.iload_n 3, 1) := by decide +kernel
theorem dX0_keepNames_27 : decode cX0_keepNames 27 = .ok (.iconst (-1), 1) := by decide +kernel
theorem dX0_keepNames_28 : decode cX0_keepNames 28 = .ok (.if_icmp .eq 13, 3) := by decide +kernel
theorem dX0_keepNames_31 : decode cX0_keepNames 31 = .ok (.aload_n 0, 1) := by decide +kernel
theorem dX0_keepNames_32 : decode cX0_keepNames 32 = .ok (.getfield 39, 3) := by decide +kernel
theorem dX0_keepNames_35 : decode cX0_keepNames 35 = .ok (.iload_n 1, 1) := by decide +kernel
theorem dX0_keepNames_36 : decode cX0_keepNames 36 = .ok (.iload_n 3, 1) := by decide +kernel
theorem dX0_keepNames_37 : decode cX0_keepNames 37 = .ok (.iastore, 1) := by decide +kernel
theorem dX0_keepNames_38 : decode cX0_keepNames 38 = .ok (.iinc 1 1, 3) := by decide +kernel
theorem dX0_keepNames_41 : decode cX0_keepNames 41 = .ok (.iinc 2 1, 3) := by decide +kernel
theorem dX0_keepNames_44 : decode cX0_keepNames 44 = .ok (.goto (-40), 3) := by decide +kernel
theorem dX0_keepNames_47 : decode cX0_keepNames 47 = .ok (.aload_n 0, 1) := by decide +kernel
theorem dX0_keepNames_48 : decode cX0_keepNames 48 = .ok (.iload_n 1, 1) := by decide +kernel
theorem dX0_keepNames_49 : decode cX0_keepNames 49 = .ok (.putfield 42, 3) := by decide +kernel
theorem dX0_keepNames_52 : decode cX0_keepNames 52 = .ok (.return_, 1) := by decide +kernel
/-! contracts: leaf -/
-- OwnMemory.isReference
abbrev rX0_isReference : Room := { frames := 0, cells := 0, slots := 0, locals := 0 }
theorem nX0_isReference : yX0_isReference.cls ≠ "java/lang/invoke/MethodHandle" ∧ yX0_isReference.cls ≠ "java/lang/invoke/VarHandle" ∧ (parseMethodDescriptor yX0_isReference.desc).map (fun d => d.parameters.length) = some 1 := by decide +kernel
noncomputable def fX0_isReference (F : Nat) (p1 : Int32) : Option Int32 := cIf ((p1.toUInt32 >>> ((16 : Int32).toUInt32 &&& Int32.toUInt32 31)).toInt32 = 65530) (some 1) (some 0)
set_option maxHeartbeats 4000000 in
set_option maxRecDepth 100000 in
theorem kX0_isReference (l : Launch) (sz F : Nat) (p1 : Int32) (r : Int32) (hg : fX0_isReference F p1 = some r) : Met l yX0_isReference wsX0_isReference rX0_isReference (sPre sz [.int p1]) (sQi r sz) 0 0 (fun q => sz ≤ q) := by
  refine sMet (own := RX0) (Qc := sQi r) (by decide +kernel) rfl rfl (Nat.le_of_ble_eq_true rfl) ?_
  intro p e s m args below meth c S hr hlocks H locs hS ls hl
  have hl : lv_has ls 1 [(0, .int p1)] := hl
  have hx := S.1
  have hb := S.2.1
  have hts := S.2.2.2.2
  have hown := S.2.2.2.1
  unfold fX0_isReference at hg
  refine lv_iload_n hx hb dX0_isReference_0 rfl (lv_at hl 0 rfl) ?_
  refine lv_bipush (v := 16) hx hb dX0_isReference_1 (by decide) ?_
  refine lv_iushr (v := (p1.toUInt32 >>> ((16 : Int32).toUInt32 &&& Int32.toUInt32 31)).toInt32) hx hb dX0_isReference_3 rfl ?_
  refine lv_ldc (v := 65530) hx hb hown (hts (.constant RX0 186 (65530)) (by decide +kernel)) dX0_isReference_4 ?_
  refine lv_icmp_ne (tgt := 13) hx hb dX0_isReference_6 (by decide) (fun c1 => ?_) (fun c1 => ?_)
  · have hg := cIf_fe c1 hg
    refine lv_iconst (v := 0) hx hb dX0_isReference_13 (by decide) ?_
    exact se_z S hr hlocks hS rfl hg dX0_isReference_14
  · have hg := cIf_te c1 hg
    refine lv_iconst (v := 1) hx hb dX0_isReference_9 (by decide) ?_
    refine lv_goto (tgt := 14) hx hb dX0_isReference_10 (by decide) ?_
    exact se_z S hr hlocks hS rfl hg dX0_isReference_14
-- OwnMemory.isUpTo
abbrev rX0_isUpTo : Room := { frames := 0, cells := 0, slots := 0, locals := 0 }
theorem nX0_isUpTo : yX0_isUpTo.cls ≠ "java/lang/invoke/MethodHandle" ∧ yX0_isUpTo.cls ≠ "java/lang/invoke/VarHandle" ∧ (parseMethodDescriptor yX0_isUpTo.desc).map (fun d => d.parameters.length) = some 2 := by decide +kernel
noncomputable def fX0_isUpTo (F : Nat) (p1 : Int32) (p2 : Int32) : Option Int32 := cIf (p1 < 0) (some 0) (cIf (p2 < p1) (some 0) (some 1))
set_option maxHeartbeats 4000000 in
set_option maxRecDepth 100000 in
theorem kX0_isUpTo (l : Launch) (sz F : Nat) (p1 : Int32) (p2 : Int32) (r : Int32) (hg : fX0_isUpTo F p1 p2 = some r) : Met l yX0_isUpTo wsX0_isUpTo rX0_isUpTo (sPre sz [.int p1, .int p2]) (sQi r sz) 0 0 (fun q => sz ≤ q) := by
  refine sMet (own := RX0) (Qc := sQi r) (by decide +kernel) rfl rfl (Nat.le_of_ble_eq_true rfl) ?_
  intro p e s m args below meth c S hr hlocks H locs hS ls hl
  have hl : lv_has ls 2 [(0, .int p1), (1, .int p2)] := hl
  have hx := S.1
  have hb := S.2.1
  have hts := S.2.2.2.2
  have hown := S.2.2.2.1
  unfold fX0_isUpTo at hg
  refine lv_iload_n hx hb dX0_isUpTo_0 rfl (lv_at hl 0 rfl) ?_
  refine lv_if_lt (tgt := 13) hx hb dX0_isUpTo_1 (by decide) (fun c1 => ?_) (fun c1 => ?_)
  · have hg := cIf_te c1 hg
    refine lv_iconst (v := 0) hx hb dX0_isUpTo_13 (by decide) ?_
    exact se_z S hr hlocks hS rfl hg dX0_isUpTo_14
  · have hg := cIf_fe c1 hg
    refine lv_iload_n hx hb dX0_isUpTo_4 rfl (lv_at hl 0 rfl) ?_
    refine lv_iload_n hx hb dX0_isUpTo_5 rfl (lv_at hl 1 rfl) ?_
    refine lv_icmp_gt (tgt := 13) hx hb dX0_isUpTo_6 (by decide) (fun c2 => ?_) (fun c2 => ?_)
    · have hg := cIf_te c2 hg
      refine lv_iconst (v := 0) hx hb dX0_isUpTo_13 (by decide) ?_
      exact se_z S hr hlocks hS rfl hg dX0_isUpTo_14
    · have hg := cIf_fe c2 hg
      refine lv_iconst (v := 1) hx hb dX0_isUpTo_9 (by decide) ?_
      refine lv_goto (tgt := 14) hx hb dX0_isUpTo_10 (by decide) ?_
      exact se_z S hr hlocks hS rfl hg dX0_isUpTo_14
-- OwnMemory.shapeOf
abbrev rX0_shapeOf : Room := { frames := 0, cells := 0, slots := 0, locals := 0 }
theorem nX0_shapeOf : yX0_shapeOf.cls ≠ "java/lang/invoke/MethodHandle" ∧ yX0_shapeOf.cls ≠ "java/lang/invoke/VarHandle" ∧ (parseMethodDescriptor yX0_shapeOf.desc).map (fun d => d.parameters.length) = some 4 := by decide +kernel
noncomputable def fX0_shapeOf (F : Nat) (p1 : Int32) (p2 : Int32) (p3 : Int32) (p4 : Int32) : Option Int32 := some (((p1 ||| (p2 <<< (4 &&& 31))) ||| (p3 <<< (8 &&& 31))) ||| (p4 <<< (12 &&& 31)))
set_option maxHeartbeats 4000000 in
set_option maxRecDepth 100000 in
theorem kX0_shapeOf (l : Launch) (sz F : Nat) (p1 : Int32) (p2 : Int32) (p3 : Int32) (p4 : Int32) (r : Int32) (hg : fX0_shapeOf F p1 p2 p3 p4 = some r) : Met l yX0_shapeOf wsX0_shapeOf rX0_shapeOf (sPre sz [.int p1, .int p2, .int p3, .int p4]) (sQi r sz) 0 0 (fun q => sz ≤ q) := by
  refine sMet (own := RX0) (Qc := sQi r) (by decide +kernel) rfl rfl (Nat.le_of_ble_eq_true rfl) ?_
  intro p e s m args below meth c S hr hlocks H locs hS ls hl
  have hl : lv_has ls 4 [(0, .int p1), (1, .int p2), (2, .int p3), (3, .int p4)] := hl
  have hx := S.1
  have hb := S.2.1
  have hts := S.2.2.2.2
  have hown := S.2.2.2.1
  unfold fX0_shapeOf at hg
  refine lv_iload_n hx hb dX0_shapeOf_0 rfl (lv_at hl 0 rfl) ?_
  refine lv_iload_n hx hb dX0_shapeOf_1 rfl (lv_at hl 1 rfl) ?_
  refine lv_iconst (v := 4) hx hb dX0_shapeOf_2 (by decide) ?_
  refine lv_ishl hx hb dX0_shapeOf_3 ?_
  refine lv_ior hx hb dX0_shapeOf_4 ?_
  refine lv_iload_n hx hb dX0_shapeOf_5 rfl (lv_at hl 2 rfl) ?_
  refine lv_bipush (v := 8) hx hb dX0_shapeOf_6 (by decide) ?_
  refine lv_ishl hx hb dX0_shapeOf_8 ?_
  refine lv_ior hx hb dX0_shapeOf_9 ?_
  refine lv_iload_n hx hb dX0_shapeOf_10 rfl (lv_at hl 3 rfl) ?_
  refine lv_bipush (v := 12) hx hb dX0_shapeOf_11 (by decide) ?_
  refine lv_ishl hx hb dX0_shapeOf_13 ?_
  refine lv_ior hx hb dX0_shapeOf_14 ?_
  exact se_i S hr hlocks hS hg dX0_shapeOf_15
-- OwnMemory.kindAt
abbrev rX0_kindAt : Room := { frames := 0, cells := 0, slots := 0, locals := 0 }
theorem nX0_kindAt : yX0_kindAt.cls = RX0 ∧ yX0_kindAt.cls ≠ "java/lang/invoke/MethodHandle" ∧ yX0_kindAt.cls ≠ "java/lang/invoke/VarHandle" ∧ (parseMethodDescriptor yX0_kindAt.desc).map (fun d => d.parameters.length) = some 1 := by decide +kernel
noncomputable def fX0_kindAt (F : Nat) (σ : oS) (p1 : Int32) : Option (Int32 × oS) := cIf (p1 = (-1)) (some (0, σ)) (ck (vp_in (p1 + 0) (o_lw σ)) (nmd (o_fw σ (p1 + 0).toNatClampNeg) (fun x3 => some ((x3 &&& 15), σ))))
set_option maxHeartbeats 4000000 in
set_option maxRecDepth 100000 in
theorem kX0_kindAt (l : Launch) (G : gT) (h0 : Nat) (h : oH) (sz F : Nat) (σ : oS) (p1 : Int32) (r : Int32) (σr : oS) (hg : fX0_kindAt F σ p1 = some (r, σr)) : Met l yX0_kindAt wsX0_kindAt rX0_kindAt (oPre G h0 h σ sz [.int p1]) (oQi G h0 h r σr (oA G h0 h σ sz)) 0 0 (oA G h0 h σ sz) := by
  refine oMet (Qc := oQi G h0 h r σr) (by decide +kernel) rfl rfl (Nat.le_of_ble_eq_true rfl) ?_
  intro p e s m args below meth c A S hr hlocks hK hA H locs hI ls hl
  have hl : lv_has ls 2 [(0, .ref h0), (1, .int p1)] := hl
  have hin : ∀ w ∈ wsX00, w ∈ wsX0_kindAt := in_ws
  have hx := S.1
  have hb := S.2.1
  have hts := S.2.2.2.2
  have hown := S.2.2.2.1
  unfold fX0_kindAt at hg
  refine lv_iload_n hx hb dX0_kindAt_0 rfl (lv_at hl 1 rfl) ?_
  refine lv_iconst (v := (-1)) hx hb dX0_kindAt_1 (by decide) ?_
  refine lv_icmp_ne (tgt := 9) hx hb dX0_kindAt_2 (by decide) (fun c1 => ?_) (fun c1 => ?_)
  · have hg := cIf_fe c1 hg
    refine lv_aload_n hx hb dX0_kindAt_9 rfl (lv_at hl 0 rfl) ?_
    refine og_words S hin hK hI (ix := 23) (by decide +kernel) dX0_kindAt_10 ?_
    refine lv_iload_n hx hb dX0_kindAt_13 rfl (lv_at hl 1 rfl) ?_
    refine lv_iconst (v := 0) hx hb dX0_kindAt_14 (by decide) ?_
    refine lv_iadd hx hb dX0_kindAt_15 ?_
    obtain ⟨c2, hg⟩ := ck_e hg
    obtain ⟨x3, ex3, hg⟩ := nmd_e hg
    refine or_words S hK hI c2 ex3 dX0_kindAt_16 ?_
    refine lv_bipush (v := 15) hx hb dX0_kindAt_17 (by decide) ?_
    refine lv_iand hx hb dX0_kindAt_19 ?_
    exact oe_i S hr hlocks hK hI hg dX0_kindAt_20
  · have hg := cIf_te c1 hg
    refine lv_iconst (v := 0) hx hb dX0_kindAt_5 (by decide) ?_
    refine lv_goto (tgt := 20) hx hb dX0_kindAt_6 (by decide) ?_
    exact oe_i S hr hlocks hK hI hg dX0_kindAt_20
-- OwnMemory.linksAt
abbrev rX0_linksAt : Room := { frames := 0, cells := 0, slots := 0, locals := 0 }
theorem nX0_linksAt : yX0_linksAt.cls = RX0 ∧ yX0_linksAt.cls ≠ "java/lang/invoke/MethodHandle" ∧ yX0_linksAt.cls ≠ "java/lang/invoke/VarHandle" ∧ (parseMethodDescriptor yX0_linksAt.desc).map (fun d => d.parameters.length) = some 1 := by decide +kernel
noncomputable def fX0_linksAt (F : Nat) (σ : oS) (p1 : Int32) : Option (Int32 × oS) := ck (vp_in (p1 + 0) (o_lw σ)) (nmd (o_fw σ (p1 + 0).toNatClampNeg) (fun x2 => some (((x2 >>> (4 &&& 31)) &&& 15), σ)))
set_option maxHeartbeats 4000000 in
set_option maxRecDepth 100000 in
theorem kX0_linksAt (l : Launch) (G : gT) (h0 : Nat) (h : oH) (sz F : Nat) (σ : oS) (p1 : Int32) (r : Int32) (σr : oS) (hg : fX0_linksAt F σ p1 = some (r, σr)) : Met l yX0_linksAt wsX0_linksAt rX0_linksAt (oPre G h0 h σ sz [.int p1]) (oQi G h0 h r σr (oA G h0 h σ sz)) 0 0 (oA G h0 h σ sz) := by
  refine oMet (Qc := oQi G h0 h r σr) (by decide +kernel) rfl rfl (Nat.le_of_ble_eq_true rfl) ?_
  intro p e s m args below meth c A S hr hlocks hK hA H locs hI ls hl
  have hl : lv_has ls 2 [(0, .ref h0), (1, .int p1)] := hl
  have hin : ∀ w ∈ wsX00, w ∈ wsX0_linksAt := in_ws
  have hx := S.1
  have hb := S.2.1
  have hts := S.2.2.2.2
  have hown := S.2.2.2.1
  unfold fX0_linksAt at hg
  refine lv_aload_n hx hb dX0_linksAt_0 rfl (lv_at hl 0 rfl) ?_
  refine og_words S hin hK hI (ix := 23) (by decide +kernel) dX0_linksAt_1 ?_
  refine lv_iload_n hx hb dX0_linksAt_4 rfl (lv_at hl 1 rfl) ?_
  refine lv_iconst (v := 0) hx hb dX0_linksAt_5 (by decide) ?_
  refine lv_iadd hx hb dX0_linksAt_6 ?_
  obtain ⟨c1, hg⟩ := ck_e hg
  obtain ⟨x2, ex2, hg⟩ := nmd_e hg
  refine or_words S hK hI c1 ex2 dX0_linksAt_7 ?_
  refine lv_iconst (v := 4) hx hb dX0_linksAt_8 (by decide) ?_
  refine lv_ishr hx hb dX0_linksAt_9 ?_
  refine lv_bipush (v := 15) hx hb dX0_linksAt_10 (by decide) ?_
  refine lv_iand hx hb dX0_linksAt_12 ?_
  exact oe_i S hr hlocks hK hI hg dX0_linksAt_13
-- OwnMemory.valuesAt
abbrev rX0_valuesAt : Room := { frames := 0, cells := 0, slots := 0, locals := 0 }
theorem nX0_valuesAt : yX0_valuesAt.cls = RX0 ∧ yX0_valuesAt.cls ≠ "java/lang/invoke/MethodHandle" ∧ yX0_valuesAt.cls ≠ "java/lang/invoke/VarHandle" ∧ (parseMethodDescriptor yX0_valuesAt.desc).map (fun d => d.parameters.length) = some 1 := by decide +kernel
noncomputable def fX0_valuesAt (F : Nat) (σ : oS) (p1 : Int32) : Option (Int32 × oS) := ck (vp_in (p1 + 0) (o_lw σ)) (nmd (o_fw σ (p1 + 0).toNatClampNeg) (fun x2 => some (((x2 >>> (8 &&& 31)) &&& 15), σ)))
set_option maxHeartbeats 4000000 in
set_option maxRecDepth 100000 in
theorem kX0_valuesAt (l : Launch) (G : gT) (h0 : Nat) (h : oH) (sz F : Nat) (σ : oS) (p1 : Int32) (r : Int32) (σr : oS) (hg : fX0_valuesAt F σ p1 = some (r, σr)) : Met l yX0_valuesAt wsX0_valuesAt rX0_valuesAt (oPre G h0 h σ sz [.int p1]) (oQi G h0 h r σr (oA G h0 h σ sz)) 0 0 (oA G h0 h σ sz) := by
  refine oMet (Qc := oQi G h0 h r σr) (by decide +kernel) rfl rfl (Nat.le_of_ble_eq_true rfl) ?_
  intro p e s m args below meth c A S hr hlocks hK hA H locs hI ls hl
  have hl : lv_has ls 2 [(0, .ref h0), (1, .int p1)] := hl
  have hin : ∀ w ∈ wsX00, w ∈ wsX0_valuesAt := in_ws
  have hx := S.1
  have hb := S.2.1
  have hts := S.2.2.2.2
  have hown := S.2.2.2.1
  unfold fX0_valuesAt at hg
  refine lv_aload_n hx hb dX0_valuesAt_0 rfl (lv_at hl 0 rfl) ?_
  refine og_words S hin hK hI (ix := 23) (by decide +kernel) dX0_valuesAt_1 ?_
  refine lv_iload_n hx hb dX0_valuesAt_4 rfl (lv_at hl 1 rfl) ?_
  refine lv_iconst (v := 0) hx hb dX0_valuesAt_5 (by decide) ?_
  refine lv_iadd hx hb dX0_valuesAt_6 ?_
  obtain ⟨c1, hg⟩ := ck_e hg
  obtain ⟨x2, ex2, hg⟩ := nmd_e hg
  refine or_words S hK hI c1 ex2 dX0_valuesAt_7 ?_
  refine lv_bipush (v := 8) hx hb dX0_valuesAt_8 (by decide) ?_
  refine lv_ishr hx hb dX0_valuesAt_10 ?_
  refine lv_bipush (v := 15) hx hb dX0_valuesAt_11 (by decide) ?_
  refine lv_iand hx hb dX0_valuesAt_13 ?_
  exact oe_i S hr hlocks hK hI hg dX0_valuesAt_14
-- OwnMemory.sizeAt
abbrev rX0_sizeAt : Room := { frames := 0, cells := 0, slots := 0, locals := 0 }
theorem nX0_sizeAt : yX0_sizeAt.cls = RX0 ∧ yX0_sizeAt.cls ≠ "java/lang/invoke/MethodHandle" ∧ yX0_sizeAt.cls ≠ "java/lang/invoke/VarHandle" ∧ (parseMethodDescriptor yX0_sizeAt.desc).map (fun d => d.parameters.length) = some 1 := by decide +kernel
noncomputable def fX0_sizeAt (F : Nat) (σ : oS) (p1 : Int32) : Option (Int32 × oS) := ck (vp_in (p1 + 0) (o_lw σ)) (nmd (o_fw σ (p1 + 0).toNatClampNeg) (fun x2 => some ((x2 >>> (12 &&& 31)), σ)))
set_option maxHeartbeats 4000000 in
set_option maxRecDepth 100000 in
theorem kX0_sizeAt (l : Launch) (G : gT) (h0 : Nat) (h : oH) (sz F : Nat) (σ : oS) (p1 : Int32) (r : Int32) (σr : oS) (hg : fX0_sizeAt F σ p1 = some (r, σr)) : Met l yX0_sizeAt wsX0_sizeAt rX0_sizeAt (oPre G h0 h σ sz [.int p1]) (oQi G h0 h r σr (oA G h0 h σ sz)) 0 0 (oA G h0 h σ sz) := by
  refine oMet (Qc := oQi G h0 h r σr) (by decide +kernel) rfl rfl (Nat.le_of_ble_eq_true rfl) ?_
  intro p e s m args below meth c A S hr hlocks hK hA H locs hI ls hl
  have hl : lv_has ls 2 [(0, .ref h0), (1, .int p1)] := hl
  have hin : ∀ w ∈ wsX00, w ∈ wsX0_sizeAt := in_ws
  have hx := S.1
  have hb := S.2.1
  have hts := S.2.2.2.2
  have hown := S.2.2.2.1
  unfold fX0_sizeAt at hg
  refine lv_aload_n hx hb dX0_sizeAt_0 rfl (lv_at hl 0 rfl) ?_
  refine og_words S hin hK hI (ix := 23) (by decide +kernel) dX0_sizeAt_1 ?_
  refine lv_iload_n hx hb dX0_sizeAt_4 rfl (lv_at hl 1 rfl) ?_
  refine lv_iconst (v := 0) hx hb dX0_sizeAt_5 (by decide) ?_
  refine lv_iadd hx hb dX0_sizeAt_6 ?_
  obtain ⟨c1, hg⟩ := ck_e hg
  obtain ⟨x2, ex2, hg⟩ := nmd_e hg
  refine or_words S hK hI c1 ex2 dX0_sizeAt_7 ?_
  refine lv_bipush (v := 12) hx hb dX0_sizeAt_8 (by decide) ?_
  refine lv_ishr hx hb dX0_sizeAt_10 ?_
  exact oe_i S hr hlocks hK hI hg dX0_sizeAt_11
-- OwnMemory.touch
abbrev rX0_touch : Room := { frames := 0, cells := 0, slots := 0, locals := 0 }
theorem nX0_touch : yX0_touch.cls = RX0 ∧ yX0_touch.cls ≠ "java/lang/invoke/MethodHandle" ∧ yX0_touch.cls ≠ "java/lang/invoke/VarHandle" ∧ (parseMethodDescriptor yX0_touch.desc).map (fun d => d.parameters.length) = some 2 := by decide +kernel
noncomputable def fX0_touch (F : Nat) (σ : oS) (p1 : Int32) (p2 : Int32) : Option (Int32 × oS) := cIf (p1 = (-1)) (some ((-1), σ)) (cIf (p2 = 0) (ck (vp_in (p1 + 1) (o_lw σ)) (nmd (o_fw σ (p1 + 1).toNatClampNeg) (fun x4 => cIf (x4 = (-1)) (ck (vp_in (p1 + 1) (o_lw σ)) (nmd (o_s_fw σ (upd (o_fw σ) (p1 + 1).toNatClampNeg p1)) (fun σ7 => ck (vp_in (p1 + 2) (o_lw σ7)) (nmd (o_s_fw σ7 (upd (o_fw σ7) (p1 + 2).toNatClampNeg (o_wt σ7))) (fun σ9 => nmd (o_s_wt σ9 p1) (fun σ10 => some (p1, σ10))))))) (some (p1, σ))))) (ck (vp_in (p1 + 1) (o_lw σ)) (nmd (o_fw σ (p1 + 1).toNatClampNeg) (fun x12 => some (x12, σ)))))
set_option maxHeartbeats 4000000 in
set_option maxRecDepth 100000 in
theorem kX0_touch (l : Launch) (G : gT) (h0 : Nat) (h : oH) (sz F : Nat) (σ : oS) (p1 : Int32) (p2 : Int32) (r : Int32) (σr : oS) (hg : fX0_touch F σ p1 p2 = some (r, σr)) : Met l yX0_touch wsX0_touch rX0_touch (oPre G h0 h σ sz [.int p1, .int p2]) (oQi G h0 h r σr (oA G h0 h σ sz)) 0 0 (oA G h0 h σ sz) := by
  refine oMet (Qc := oQi G h0 h r σr) (by decide +kernel) rfl rfl (Nat.le_of_ble_eq_true rfl) ?_
  intro p e s m args below meth c A S hr hlocks hK hA H locs hI ls hl
  have hl : lv_has ls 3 [(0, .ref h0), (1, .int p1), (2, .int p2)] := hl
  have hin : ∀ w ∈ wsX00, w ∈ wsX0_touch := in_ws
  have hx := S.1
  have hb := S.2.1
  have hts := S.2.2.2.2
  have hown := S.2.2.2.1
  unfold fX0_touch at hg
  refine lv_iload_n hx hb dX0_touch_0 rfl (lv_at hl 1 rfl) ?_
  refine lv_iconst (v := (-1)) hx hb dX0_touch_1 (by decide) ?_
  refine lv_icmp_ne (tgt := 7) hx hb dX0_touch_2 (by decide) (fun c1 => ?_) (fun c1 => ?_)
  · have hg := cIf_fe c1 hg
    refine lv_iload_n hx hb dX0_touch_7 rfl (lv_at hl 2 rfl) ?_
    refine lv_if_eq (tgt := 20) hx hb dX0_touch_8 (by decide) (fun c2 => ?_) (fun c2 => ?_)
    · have hg := cIf_te c2 hg
      refine lv_aload_n hx hb dX0_touch_20 rfl (lv_at hl 0 rfl) ?_
      refine og_words S hin hK hI (ix := 23) (by decide +kernel) dX0_touch_21 ?_
      refine lv_iload_n hx hb dX0_touch_24 rfl (lv_at hl 1 rfl) ?_
      refine lv_iconst (v := 1) hx hb dX0_touch_25 (by decide) ?_
      refine lv_iadd hx hb dX0_touch_26 ?_
      obtain ⟨c3, hg⟩ := ck_e hg
      obtain ⟨x4, ex4, hg⟩ := nmd_e hg
      refine or_words S hK hI c3 ex4 dX0_touch_27 ?_
      refine lv_iconst (v := (-1)) hx hb dX0_touch_28 (by decide) ?_
      refine lv_icmp_ne (tgt := 58) hx hb dX0_touch_29 (by decide) (fun c5 => ?_) (fun c5 => ?_)
      · have hg := cIf_fe c5 hg
        refine lv_iload_n hx hb dX0_touch_58 rfl (lv_at hl 1 rfl) ?_
        exact oe_i S hr hlocks hK hI hg dX0_touch_59
      · have hg := cIf_te c5 hg
        refine lv_aload_n hx hb dX0_touch_32 rfl (lv_at hl 0 rfl) ?_
        refine og_words S hin hK hI (ix := 23) (by decide +kernel) dX0_touch_33 ?_
        refine lv_iload_n hx hb dX0_touch_36 rfl (lv_at hl 1 rfl) ?_
        refine lv_iconst (v := 1) hx hb dX0_touch_37 (by decide) ?_
        refine lv_iadd hx hb dX0_touch_38 ?_
        refine lv_iload_n hx hb dX0_touch_39 rfl (lv_at hl 1 rfl) ?_
        obtain ⟨c6, hg⟩ := ck_e hg
        obtain ⟨σ7, eσ7, hg⟩ := nmd_e hg
        refine ou_words S hK hI c6 eσ7 dX0_touch_40 (fun H locs hI => ?_)
        refine lv_aload_n hx hb dX0_touch_41 rfl (lv_at hl 0 rfl) ?_
        refine og_words S hin hK hI (ix := 23) (by decide +kernel) dX0_touch_42 ?_
        refine lv_iload_n hx hb dX0_touch_45 rfl (lv_at hl 1 rfl) ?_
        refine lv_iconst (v := 2) hx hb dX0_touch_46 (by decide) ?_
        refine lv_iadd hx hb dX0_touch_47 ?_
        refine lv_aload_n hx hb dX0_touch_48 rfl (lv_at hl 0 rfl) ?_
        refine og_waiting S hin hK hI (ix := 48) (by decide +kernel) dX0_touch_49 ?_
        obtain ⟨c8, hg⟩ := ck_e hg
        obtain ⟨σ9, eσ9, hg⟩ := nmd_e hg
        refine ou_words S hK hI c8 eσ9 dX0_touch_52 (fun H locs hI => ?_)
        refine lv_aload_n hx hb dX0_touch_53 rfl (lv_at hl 0 rfl) ?_
        refine lv_iload_n hx hb dX0_touch_54 rfl (lv_at hl 1 rfl) ?_
        obtain ⟨σ10, eσ10, hg⟩ := nmd_e hg
        refine op_waiting S hin hK hI (ix := 48) (by decide +kernel) eσ10 dX0_touch_55 (fun H locs hI => ?_)
        refine lv_iload_n hx hb dX0_touch_58 rfl (lv_at hl 1 rfl) ?_
        exact oe_i S hr hlocks hK hI hg dX0_touch_59
    · have hg := cIf_fe c2 hg
      refine lv_aload_n hx hb dX0_touch_11 rfl (lv_at hl 0 rfl) ?_
      refine og_words S hin hK hI (ix := 23) (by decide +kernel) dX0_touch_12 ?_
      refine lv_iload_n hx hb dX0_touch_15 rfl (lv_at hl 1 rfl) ?_
      refine lv_iconst (v := 1) hx hb dX0_touch_16 (by decide) ?_
      refine lv_iadd hx hb dX0_touch_17 ?_
      obtain ⟨c11, hg⟩ := ck_e hg
      obtain ⟨x12, ex12, hg⟩ := nmd_e hg
      refine or_words S hK hI c11 ex12 dX0_touch_18 ?_
      exact oe_i S hr hlocks hK hI hg dX0_touch_19
  · have hg := cIf_te c1 hg
    refine lv_iconst (v := (-1)) hx hb dX0_touch_5 (by decide) ?_
    exact oe_i S hr hlocks hK hI hg dX0_touch_6
-- OwnMemory.touchRoots
abbrev rX0_touchRoots : Room := { frames := 1, cells := 0, slots := 0, locals := 22 }
theorem nX0_touchRoots : yX0_touchRoots.cls = RX0 ∧ yX0_touchRoots.cls ≠ "java/lang/invoke/MethodHandle" ∧ yX0_touchRoots.cls ≠ "java/lang/invoke/VarHandle" ∧ (parseMethodDescriptor yX0_touchRoots.desc).map (fun d => d.parameters.length) = some 1 := by decide +kernel
noncomputable def LX0_touchRoots_2 (F : Nat) (K : Int32 → oS → Option oS) (v1 : Int32) : Nat → Int32 → oS → Option oS
  | 0, _, _ => none
  | n + 1, v2, σ => cIf (24 ≤ v2) (K v2 σ) (ck (vp_in v2 24) (nmd (o_fr σ v2.toNatClampNeg) (fun x3 => bnd (fX0_touch F σ x3 v1) (fun r5 σ4 => ck (vp_in v2 24) (nmd (o_s_fr σ4 (upd (o_fr σ4) v2.toNatClampNeg r5)) (fun σ7 => nmd (v2 + 1) (fun x8 => LX0_touchRoots_2 F K v1 n x8 σ7)))))))
noncomputable def fX0_touchRoots (F : Nat) (σ : oS) (p1 : Int32) : Option oS := LX0_touchRoots_2 F (fun w9 σ10 => some σ10) p1 F 0 σ
set_option maxHeartbeats 4000000 in
set_option maxRecDepth 100000 in
theorem lX0_touchRoots_2 {p : Program} {l : Launch} {e : Env} {s : State} {m : MethodId} {args : Array Value} {below : List Frame} {meth : Method} {c : Code} {A : Nat → Prop} {G : gT} {h0 : Nat} {h : oH} {F : Nat} (S : CallFix p m c cX0_touchRoots 3 s args wsX0_touchRoots RX0) (hr : meth.sig.returnType = none) (hlocks : meth.locks = false) (hin : ∀ w ∈ wsX00, w ∈ wsX0_touchRoots) (hK : gK G s) (hA : ∀ q, s.heap.size ≤ q → A q) {K : Int32 → oS → Option oS} {res : oS} (v1 : Int32) (n : Nat) : ∀ (v2 : Int32) (σ : oS) (H : Heap) (locs : List Loc) (ls : Array Slot), LX0_touchRoots_2 F K v1 n v2 σ = some res → oI s A G h0 h σ H locs → lv_has ls 3 [(0, .ref h0), (1, .int v1), (2, .int v2)] → (∀ (v2 : Int32) (σ : oS) (H : Heap) (locs : List Loc) (ls : Array Slot), K v2 σ = some res → oI s A G h0 h σ H locs → lv_has ls 3 [(0, .ref h0), (1, .int v1), (2, .int v2)] → W p l e rX0_touchRoots s m args below meth c H locs 0 0 (MQ below (oQv G h0 h res A) args s 0 0 A) (F0 m 31 ls [])) → W p l e rX0_touchRoots s m args below meth c H locs 0 0 (MQ below (oQv G h0 h res A) args s 0 0 A) (F0 m 2 ls []) := by
  have hx := S.1
  have hb := S.2.1
  have hts := S.2.2.2.2
  have hown := S.2.2.2.1
  induction n with
  | zero => intro v2 σ H locs ls hg; rw [LX0_touchRoots_2] at hg; cases hg
  | succ n ih =>
    intro v2 σ H locs ls hg hI hl kk
    rw [LX0_touchRoots_2] at hg
    refine lv_iload_n hx hb dX0_touchRoots_2 rfl (lv_at hl 2 rfl) ?_
    refine lv_bipush (v := 24) hx hb dX0_touchRoots_3 (by decide) ?_
    refine lv_icmp_ge (tgt := 31) hx hb dX0_touchRoots_5 (by decide) (fun c1 => ?_) (fun c1 => ?_)
    · have hg := cIf_te c1 hg
      exact kk v2 σ H locs ls hg hI (lv_sub hl [0, 1, 2] rfl)
    · have hg := cIf_fe c1 hg
      refine lv_aload_n hx hb dX0_touchRoots_8 rfl (lv_at hl 0 rfl) ?_
      refine og_roots S hin hK hI (ix := 30) (by decide +kernel) dX0_touchRoots_9 ?_
      refine lv_iload_n hx hb dX0_touchRoots_12 rfl (lv_at hl 2 rfl) ?_
      refine lv_aload_n hx hb dX0_touchRoots_13 rfl (lv_at hl 0 rfl) ?_
      refine lv_aload_n hx hb dX0_touchRoots_14 rfl (lv_at hl 0 rfl) ?_
      refine og_roots S hin hK hI (ix := 30) (by decide +kernel) dX0_touchRoots_15 ?_
      refine lv_iload_n hx hb dX0_touchRoots_18 rfl (lv_at hl 2 rfl) ?_
      obtain ⟨c2, hg⟩ := ck_e hg
      obtain ⟨x3, ex3, hg⟩ := nmd_e hg
      refine or_roots S hK hI c2 ex3 dX0_touchRoots_19 ?_
      refine lv_iload_n hx hb dX0_touchRoots_20 rfl (lv_at hl 1 rfl) ?_
      obtain ⟨r5, σ4, er5, hg⟩ := bnd_e hg
      refine oc_i S hK hA hI (As := [.int x3, .int v1]) (rest := [.int v2, .ref h.2.1]) (kX0_touch l G h0 h H.size F σ x3 v1  r5 σ4 er5) (cwV 2 hts gX0_touchRoots_X0_touch rfl rfl rfl nX0_touch ⟨Nat.le_of_ble_eq_true rfl, Nat.le_of_ble_eq_true rfl⟩) rfl hl.1 rfl (Nat.le_of_ble_eq_true rfl) dX0_touchRoots_21 ⟨Nat.le_refl _, Nat.le_refl _⟩ (fun H locs hI => ?_)
      obtain ⟨c6, hg⟩ := ck_e hg
      obtain ⟨σ7, eσ7, hg⟩ := nmd_e hg
      refine ou_roots S hK hI c6 eσ7 dX0_touchRoots_24 (fun H locs hI => ?_)
      obtain ⟨x8, ex8, hg⟩ := nmd_e hg
      refine lv_iinc (v := x8) (lv' := [(2, .int x8), (0, .ref h0), (1, .int v1)]) hx hb dX0_touchRoots_25 hl (k := 2) rfl (by rw [ex8]; rfl) (by decide) rfl (fun ls hl => ?_)
      refine lv_goto (tgt := 2) hx hb dX0_touchRoots_28 (by decide) ?_
      exact ih x8 σ7 H locs ls hg hI (lv_sub hl [1, 2, 0] rfl) kk
set_option maxHeartbeats 4000000 in
set_option maxRecDepth 100000 in
theorem kX0_touchRoots (l : Launch) (G : gT) (h0 : Nat) (h : oH) (sz F : Nat) (σ : oS) (p1 : Int32) (σr : oS) (hg : fX0_touchRoots F σ p1 = some σr) : Met l yX0_touchRoots wsX0_touchRoots rX0_touchRoots (oPre G h0 h σ sz [.int p1]) (oQv G h0 h σr (oA G h0 h σ sz)) 0 0 (oA G h0 h σ sz) := by
  refine oMet (Qc := oQv G h0 h σr) (by decide +kernel) rfl rfl (Nat.le_of_ble_eq_true rfl) ?_
  intro p e s m args below meth c A S hr hlocks hK hA H locs hI ls hl
  have hl : lv_has ls 3 [(0, .ref h0), (1, .int p1)] := hl
  have hin : ∀ w ∈ wsX00, w ∈ wsX0_touchRoots := in_ws
  have hx := S.1
  have hb := S.2.1
  have hts := S.2.2.2.2
  have hown := S.2.2.2.1
  unfold fX0_touchRoots at hg
  refine lv_iconst (v := 0) hx hb dX0_touchRoots_0 (by decide) ?_
  refine lv_istore_n (lv' := [(2, .int 0), (0, .ref h0), (1, .int p1)]) hx hb dX0_touchRoots_1 rfl hl (by decide) rfl (fun ls hl => ?_)
  refine lX0_touchRoots_2 S hr hlocks hin hK hA p1 F 0 σ H locs ls hg hI (lv_sub hl [1, 2, 0] rfl) (fun w9 σ10 H locs ls hg hI hl => ?_)
  exact oe_v S hr hlocks hK hI hg dX0_touchRoots_31
-- OwnMemory.touchLeads
abbrev rX0_touchLeads : Room := { frames := 1, cells := 0, slots := 0, locals := 22 }
theorem nX0_touchLeads : yX0_touchLeads.cls = RX0 ∧ yX0_touchLeads.cls ≠ "java/lang/invoke/MethodHandle" ∧ yX0_touchLeads.cls ≠ "java/lang/invoke/VarHandle" ∧ (parseMethodDescriptor yX0_touchLeads.desc).map (fun d => d.parameters.length) = some 2 := by decide +kernel
noncomputable def LX0_touchLeads_15 (F : Nat) (K : Int32 → oS → Option oS) (v1 : Int32) (v2 : Int32) (v3 : Int32) : Nat → Int32 → oS → Option oS
  | 0, _, _ => none
  | n + 1, v4, σ => cIf (v3 ≤ v4) (K v4 σ) (ck (vp_in v4 (o_lw σ)) (nmd (o_fw σ v4.toNatClampNeg) (fun x7 => bnd (fX0_touch F σ x7 v2) (fun r9 σ8 => ck (vp_in v4 (o_lw σ8)) (nmd (o_s_fw σ8 (upd (o_fw σ8) v4.toNatClampNeg r9)) (fun σ11 => nmd (v4 + 1) (fun x12 => LX0_touchLeads_15 F K v1 v2 v3 n x12 σ11)))))))
noncomputable def LX0_touchLeads_60 (F : Nat) (K : Int32 → oS → Option oS) (v1 : Int32) (v2 : Int32) (v3 : Int32) (v4 : Int32) : Nat → Int32 → oS → Option oS
  | 0, _, _ => none
  | n + 1, v5, σ => cIf (v4 ≤ v5) (K v5 σ) (ck (vp_in v5 (o_lw σ)) (nmd (o_fw σ v5.toNatClampNeg) (fun x20 => bnp (fX0_isReference F x20) (fun r21 => cIf (r21 = 0) (nmd (v5 + 2) (fun x23 => LX0_touchLeads_60 F K v1 v2 v3 v4 n x23 σ)) (ck (vp_in (v5 + 1) (o_lw σ)) (nmd (o_fw σ (v5 + 1).toNatClampNeg) (fun x25 => bnd (fX0_touch F σ x25 v2) (fun r27 σ26 => ck (vp_in (v5 + 1) (o_lw σ26)) (nmd (o_s_fw σ26 (upd (o_fw σ26) (v5 + 1).toNatClampNeg r27)) (fun σ29 => nmd (v5 + 2) (fun x30 => LX0_touchLeads_60 F K v1 v2 v3 v4 n x30 σ29)))))))))))
noncomputable def fX0_touchLeads (F : Nat) (σ : oS) (p1 : Int32) (p2 : Int32) : Option oS := bnd (fX0_linksAt F σ p1) (fun r2 σ1 => nmd ((p1 + 3) + r2) (fun x3 => nmd (p1 + 3) (fun x4 => LX0_touchLeads_15 F (fun w13 σ14 => bnd (fX0_valuesAt F σ14 p1) (fun r16 σ15 => nmd (x3 + (2 * r16)) (fun x17 => LX0_touchLeads_60 F (fun w31 σ32 => some σ32) p1 p2 x3 x17 F x3 σ15))) p1 p2 x3 F x4 σ1)))
set_option maxHeartbeats 4000000 in
set_option maxRecDepth 100000 in
theorem lX0_touchLeads_15 {p : Program} {l : Launch} {e : Env} {s : State} {m : MethodId} {args : Array Value} {below : List Frame} {meth : Method} {c : Code} {A : Nat → Prop} {G : gT} {h0 : Nat} {h : oH} {F : Nat} (S : CallFix p m c cX0_touchLeads 6 s args wsX0_touchLeads RX0) (hr : meth.sig.returnType = none) (hlocks : meth.locks = false) (hin : ∀ w ∈ wsX00, w ∈ wsX0_touchLeads) (hK : gK G s) (hA : ∀ q, s.heap.size ≤ q → A q) {K : Int32 → oS → Option oS} {res : oS} (v1 : Int32) (v2 : Int32) (v3 : Int32) (n : Nat) : ∀ (v4 : Int32) (σ : oS) (H : Heap) (locs : List Loc) (ls : Array Slot), LX0_touchLeads_15 F K v1 v2 v3 n v4 σ = some res → oI s A G h0 h σ H locs → lv_has ls 6 [(0, .ref h0), (1, .int v1), (2, .int v2), (3, .int v3), (4, .int v4)] → (∀ (v4 : Int32) (σ : oS) (H : Heap) (locs : List Loc) (ls : Array Slot), K v4 σ = some res → oI s A G h0 h σ H locs → lv_has ls 6 [(0, .ref h0), (1, .int v1), (2, .int v2), (3, .int v3), (4, .int v4)] → W p l e rX0_touchLeads s m args below meth c H locs 0 0 (MQ below (oQv G h0 h res A) args s 0 0 A) (F0 m 46 ls [])) → W p l e rX0_touchLeads s m args below meth c H locs 0 0 (MQ below (oQv G h0 h res A) args s 0 0 A) (F0 m 15 ls []) := by
  have hx := S.1
  have hb := S.2.1
  have hts := S.2.2.2.2
  have hown := S.2.2.2.1
  induction n with
  | zero => intro v4 σ H locs ls hg; rw [LX0_touchLeads_15] at hg; cases hg
  | succ n ih =>
    intro v4 σ H locs ls hg hI hl kk
    rw [LX0_touchLeads_15] at hg
    refine lv_iload hx hb dX0_touchLeads_15 (lv_at hl 4 rfl) ?_
    refine lv_iload_n hx hb dX0_touchLeads_17 rfl (lv_at hl 3 rfl) ?_
    refine lv_icmp_ge (tgt := 46) hx hb dX0_touchLeads_18 (by decide) (fun c5 => ?_) (fun c5 => ?_)
    · have hg := cIf_te c5 hg
      exact kk v4 σ H locs ls hg hI (lv_sub hl [0, 1, 2, 3, 4] rfl)
    · have hg := cIf_fe c5 hg
      refine lv_aload_n hx hb dX0_touchLeads_21 rfl (lv_at hl 0 rfl) ?_
      refine og_words S hin hK hI (ix := 23) (by decide +kernel) dX0_touchLeads_22 ?_
      refine lv_iload hx hb dX0_touchLeads_25 (lv_at hl 4 rfl) ?_
      refine lv_aload_n hx hb dX0_touchLeads_27 rfl (lv_at hl 0 rfl) ?_
      refine lv_aload_n hx hb dX0_touchLeads_28 rfl (lv_at hl 0 rfl) ?_
      refine og_words S hin hK hI (ix := 23) (by decide +kernel) dX0_touchLeads_29 ?_
      refine lv_iload hx hb dX0_touchLeads_32 (lv_at hl 4 rfl) ?_
      obtain ⟨c6, hg⟩ := ck_e hg
      obtain ⟨x7, ex7, hg⟩ := nmd_e hg
      refine or_words S hK hI c6 ex7 dX0_touchLeads_34 ?_
      refine lv_iload_n hx hb dX0_touchLeads_35 rfl (lv_at hl 2 rfl) ?_
      obtain ⟨r9, σ8, er9, hg⟩ := bnd_e hg
      refine oc_i S hK hA hI (As := [.int x7, .int v2]) (rest := [.int v4, .ref h.1]) (kX0_touch l G h0 h H.size F σ x7 v2  r9 σ8 er9) (cwV 2 hts gX0_touchLeads_X0_touch rfl rfl rfl nX0_touch ⟨Nat.le_of_ble_eq_true rfl, Nat.le_of_ble_eq_true rfl⟩) rfl hl.1 rfl (Nat.le_of_ble_eq_true rfl) dX0_touchLeads_36 ⟨Nat.le_refl _, Nat.le_refl _⟩ (fun H locs hI => ?_)
      obtain ⟨c10, hg⟩ := ck_e hg
      obtain ⟨σ11, eσ11, hg⟩ := nmd_e hg
      refine ou_words S hK hI c10 eσ11 dX0_touchLeads_39 (fun H locs hI => ?_)
      obtain ⟨x12, ex12, hg⟩ := nmd_e hg
      refine lv_iinc (v := x12) (lv' := [(4, .int x12), (0, .ref h0), (1, .int v1), (2, .int v2), (3, .int v3)]) hx hb dX0_touchLeads_40 hl (k := 4) rfl (by rw [ex12]; rfl) (by decide) rfl (fun ls hl => ?_)
      refine lv_goto (tgt := 15) hx hb dX0_touchLeads_43 (by decide) ?_
      exact ih x12 σ11 H locs ls hg hI (lv_sub hl [1, 2, 3, 4, 0] rfl) kk
set_option maxHeartbeats 4000000 in
set_option maxRecDepth 100000 in
theorem lX0_touchLeads_60 {p : Program} {l : Launch} {e : Env} {s : State} {m : MethodId} {args : Array Value} {below : List Frame} {meth : Method} {c : Code} {A : Nat → Prop} {G : gT} {h0 : Nat} {h : oH} {F : Nat} (S : CallFix p m c cX0_touchLeads 6 s args wsX0_touchLeads RX0) (hr : meth.sig.returnType = none) (hlocks : meth.locks = false) (hin : ∀ w ∈ wsX00, w ∈ wsX0_touchLeads) (hK : gK G s) (hA : ∀ q, s.heap.size ≤ q → A q) {K : Int32 → oS → Option oS} {res : oS} (v1 : Int32) (v2 : Int32) (v3 : Int32) (v4 : Int32) (n : Nat) : ∀ (v5 : Int32) (σ : oS) (H : Heap) (locs : List Loc) (ls : Array Slot), LX0_touchLeads_60 F K v1 v2 v3 v4 n v5 σ = some res → oI s A G h0 h σ H locs → lv_has ls 6 [(0, .ref h0), (1, .int v1), (2, .int v2), (3, .int v3), (4, .int v4), (5, .int v5)] → (∀ (v5 : Int32) (σ : oS) (H : Heap) (locs : List Loc) (ls : Array Slot), K v5 σ = some res → oI s A G h0 h σ H locs → lv_has ls 6 [(0, .ref h0), (1, .int v1), (2, .int v2), (3, .int v3), (4, .int v4), (5, .int v5)] → W p l e rX0_touchLeads s m args below meth c H locs 0 0 (MQ below (oQv G h0 h res A) args s 0 0 A) (F0 m 109 ls [])) → W p l e rX0_touchLeads s m args below meth c H locs 0 0 (MQ below (oQv G h0 h res A) args s 0 0 A) (F0 m 60 ls []) := by
  have hx := S.1
  have hb := S.2.1
  have hts := S.2.2.2.2
  have hown := S.2.2.2.1
  induction n with
  | zero => intro v5 σ H locs ls hg; rw [LX0_touchLeads_60] at hg; cases hg
  | succ n ih =>
    intro v5 σ H locs ls hg hI hl kk
    rw [LX0_touchLeads_60] at hg
    refine lv_iload hx hb dX0_touchLeads_60 (lv_at hl 5 rfl) ?_
    refine lv_iload hx hb dX0_touchLeads_62 (lv_at hl 4 rfl) ?_
    refine lv_icmp_ge (tgt := 109) hx hb dX0_touchLeads_64 (by decide) (fun c18 => ?_) (fun c18 => ?_)
    · have hg := cIf_te c18 hg
      exact kk v5 σ H locs ls hg hI (lv_sub hl [0, 1, 2, 3, 4, 5] rfl)
    · have hg := cIf_fe c18 hg
      refine lv_aload_n hx hb dX0_touchLeads_67 rfl (lv_at hl 0 rfl) ?_
      refine og_words S hin hK hI (ix := 23) (by decide +kernel) dX0_touchLeads_68 ?_
      refine lv_iload hx hb dX0_touchLeads_71 (lv_at hl 5 rfl) ?_
      obtain ⟨c19, hg⟩ := ck_e hg
      obtain ⟨x20, ex20, hg⟩ := nmd_e hg
      refine or_words S hK hI c19 ex20 dX0_touchLeads_73 ?_
      obtain ⟨r21, er21, hg⟩ := bnp_e hg
      refine os_i S hA hI (As := [.int x20]) (rest := []) (kX0_isReference l H.size F x20 r21 er21) (va_cwS 1 hts gX0_touchLeads_X0_isReference rfl rfl rfl nX0_isReference ⟨Nat.le_of_ble_eq_true rfl, Nat.le_of_ble_eq_true rfl⟩) rfl hl.1 rfl (Nat.le_of_ble_eq_true rfl) dX0_touchLeads_74 ⟨Nat.le_refl _, Nat.le_refl _⟩ (fun H locs hI => ?_)
      refine lv_if_eq (tgt := 103) hx hb dX0_touchLeads_77 (by decide) (fun c22 => ?_) (fun c22 => ?_)
      · have hg := cIf_te c22 hg
        obtain ⟨x23, ex23, hg⟩ := nmd_e hg
        refine lv_iinc (v := x23) (lv' := [(5, .int x23), (0, .ref h0), (1, .int v1), (2, .int v2), (3, .int v3), (4, .int v4)]) hx hb dX0_touchLeads_103 hl (k := 5) rfl (by rw [ex23]; rfl) (by decide) rfl (fun ls hl => ?_)
        refine lv_goto (tgt := 60) hx hb dX0_touchLeads_106 (by decide) ?_
        exact ih x23 σ H locs ls hg hI (lv_sub hl [1, 2, 3, 4, 5, 0] rfl) kk
      · have hg := cIf_fe c22 hg
        refine lv_aload_n hx hb dX0_touchLeads_80 rfl (lv_at hl 0 rfl) ?_
        refine og_words S hin hK hI (ix := 23) (by decide +kernel) dX0_touchLeads_81 ?_
        refine lv_iload hx hb dX0_touchLeads_84 (lv_at hl 5 rfl) ?_
        refine lv_iconst (v := 1) hx hb dX0_touchLeads_86 (by decide) ?_
        refine lv_iadd hx hb dX0_touchLeads_87 ?_
        refine lv_aload_n hx hb dX0_touchLeads_88 rfl (lv_at hl 0 rfl) ?_
        refine lv_aload_n hx hb dX0_touchLeads_89 rfl (lv_at hl 0 rfl) ?_
        refine og_words S hin hK hI (ix := 23) (by decide +kernel) dX0_touchLeads_90 ?_
        refine lv_iload hx hb dX0_touchLeads_93 (lv_at hl 5 rfl) ?_
        refine lv_iconst (v := 1) hx hb dX0_touchLeads_95 (by decide) ?_
        refine lv_iadd hx hb dX0_touchLeads_96 ?_
        obtain ⟨c24, hg⟩ := ck_e hg
        obtain ⟨x25, ex25, hg⟩ := nmd_e hg
        refine or_words S hK hI c24 ex25 dX0_touchLeads_97 ?_
        refine lv_iload_n hx hb dX0_touchLeads_98 rfl (lv_at hl 2 rfl) ?_
        obtain ⟨r27, σ26, er27, hg⟩ := bnd_e hg
        refine oc_i S hK hA hI (As := [.int x25, .int v2]) (rest := [.int (v5 + 1), .ref h.1]) (kX0_touch l G h0 h H.size F σ x25 v2  r27 σ26 er27) (cwV 2 hts gX0_touchLeads_X0_touch rfl rfl rfl nX0_touch ⟨Nat.le_of_ble_eq_true rfl, Nat.le_of_ble_eq_true rfl⟩) rfl hl.1 rfl (Nat.le_of_ble_eq_true rfl) dX0_touchLeads_99 ⟨Nat.le_refl _, Nat.le_refl _⟩ (fun H locs hI => ?_)
        obtain ⟨c28, hg⟩ := ck_e hg
        obtain ⟨σ29, eσ29, hg⟩ := nmd_e hg
        refine ou_words S hK hI c28 eσ29 dX0_touchLeads_102 (fun H locs hI => ?_)
        obtain ⟨x30, ex30, hg⟩ := nmd_e hg
        refine lv_iinc (v := x30) (lv' := [(5, .int x30), (0, .ref h0), (1, .int v1), (2, .int v2), (3, .int v3), (4, .int v4)]) hx hb dX0_touchLeads_103 hl (k := 5) rfl (by rw [ex30]; rfl) (by decide) rfl (fun ls hl => ?_)
        refine lv_goto (tgt := 60) hx hb dX0_touchLeads_106 (by decide) ?_
        exact ih x30 σ29 H locs ls hg hI (lv_sub hl [1, 2, 3, 4, 5, 0] rfl) kk
set_option maxHeartbeats 4000000 in
set_option maxRecDepth 100000 in
theorem kX0_touchLeads (l : Launch) (G : gT) (h0 : Nat) (h : oH) (sz F : Nat) (σ : oS) (p1 : Int32) (p2 : Int32) (σr : oS) (hg : fX0_touchLeads F σ p1 p2 = some σr) : Met l yX0_touchLeads wsX0_touchLeads rX0_touchLeads (oPre G h0 h σ sz [.int p1, .int p2]) (oQv G h0 h σr (oA G h0 h σ sz)) 0 0 (oA G h0 h σ sz) := by
  refine oMet (Qc := oQv G h0 h σr) (by decide +kernel) rfl rfl (Nat.le_of_ble_eq_true rfl) ?_
  intro p e s m args below meth c A S hr hlocks hK hA H locs hI ls hl
  have hl : lv_has ls 6 [(0, .ref h0), (1, .int p1), (2, .int p2)] := hl
  have hin : ∀ w ∈ wsX00, w ∈ wsX0_touchLeads := in_ws
  have hx := S.1
  have hb := S.2.1
  have hts := S.2.2.2.2
  have hown := S.2.2.2.1
  unfold fX0_touchLeads at hg
  refine lv_iload_n hx hb dX0_touchLeads_0 rfl (lv_at hl 1 rfl) ?_
  refine lv_iconst (v := 3) hx hb dX0_touchLeads_1 (by decide) ?_
  refine lv_iadd hx hb dX0_touchLeads_2 ?_
  refine lv_aload_n hx hb dX0_touchLeads_3 rfl (lv_at hl 0 rfl) ?_
  refine lv_iload_n hx hb dX0_touchLeads_4 rfl (lv_at hl 1 rfl) ?_
  obtain ⟨r2, σ1, er2, hg⟩ := bnd_e hg
  refine oc_i S hK hA hI (As := [.int p1]) (rest := [.int (p1 + 3)]) (kX0_linksAt l G h0 h H.size F σ p1  r2 σ1 er2) (cwV 1 hts gX0_touchLeads_X0_linksAt rfl rfl rfl nX0_linksAt ⟨Nat.le_of_ble_eq_true rfl, Nat.le_of_ble_eq_true rfl⟩) rfl hl.1 rfl (Nat.le_of_ble_eq_true rfl) dX0_touchLeads_5 ⟨Nat.le_refl _, Nat.le_refl _⟩ (fun H locs hI => ?_)
  refine lv_iadd hx hb dX0_touchLeads_8 ?_
  obtain ⟨x3, ex3, hg⟩ := nmd_e hg
  refine wn_i ex3 ?_
  refine lv_istore_n (lv' := [(3, .int x3), (0, .ref h0), (1, .int p1), (2, .int p2)]) hx hb dX0_touchLeads_9 rfl hl (by decide) rfl (fun ls hl => ?_)
  refine lv_iload_n hx hb dX0_touchLeads_10 rfl (lv_at hl 2 rfl) ?_
  refine lv_iconst (v := 3) hx hb dX0_touchLeads_11 (by decide) ?_
  refine lv_iadd hx hb dX0_touchLeads_12 ?_
  obtain ⟨x4, ex4, hg⟩ := nmd_e hg
  refine wn_i ex4 ?_
  refine lv_istore (lv' := [(4, .int x4), (3, .int x3), (0, .ref h0), (1, .int p1), (2, .int p2)]) hx hb dX0_touchLeads_13 hl (by decide) rfl (fun ls hl => ?_)
  refine lX0_touchLeads_15 S hr hlocks hin hK hA p1 p2 x3 F x4 σ1 H locs ls hg hI (lv_sub hl [2, 3, 4, 1, 0] rfl) (fun w13 σ14 H locs ls hg hI hl => ?_)
  refine lv_iload_n hx hb dX0_touchLeads_46 rfl (lv_at hl 3 rfl) ?_
  refine lv_iconst (v := 2) hx hb dX0_touchLeads_47 (by decide) ?_
  refine lv_aload_n hx hb dX0_touchLeads_48 rfl (lv_at hl 0 rfl) ?_
  refine lv_iload_n hx hb dX0_touchLeads_49 rfl (lv_at hl 1 rfl) ?_
  obtain ⟨r16, σ15, er16, hg⟩ := bnd_e hg
  refine oc_i S hK hA hI (As := [.int p1]) (rest := [.int 2, .int x3]) (kX0_valuesAt l G h0 h H.size F σ14 p1  r16 σ15 er16) (cwV 1 hts gX0_touchLeads_X0_valuesAt rfl rfl rfl nX0_valuesAt ⟨Nat.le_of_ble_eq_true rfl, Nat.le_of_ble_eq_true rfl⟩) rfl hl.1 rfl (Nat.le_of_ble_eq_true rfl) dX0_touchLeads_50 ⟨Nat.le_refl _, Nat.le_refl _⟩ (fun H locs hI => ?_)
  refine lv_imul hx hb dX0_touchLeads_53 ?_
  refine lv_iadd hx hb dX0_touchLeads_54 ?_
  obtain ⟨x17, ex17, hg⟩ := nmd_e hg
  refine wn_i ex17 ?_
  refine lv_istore (lv' := [(4, .int x17), (0, .ref h0), (1, .int p1), (2, .int p2), (3, .int x3)]) hx hb dX0_touchLeads_55 hl (by decide) rfl (fun ls hl => ?_)
  refine lv_iload_n hx hb dX0_touchLeads_57 rfl (lv_at hl 4 rfl) ?_
  refine lv_istore (lv' := [(5, .int x3), (4, .int x17), (0, .ref h0), (1, .int p1), (2, .int p2), (3, .int x3)]) hx hb dX0_touchLeads_58 hl (by decide) rfl (fun ls hl => ?_)
  refine lX0_touchLeads_60 S hr hlocks hin hK hA p1 p2 x3 x17 F x3 σ15 H locs ls hg hI (lv_sub hl [2, 3, 4, 5, 1, 0] rfl) (fun w31 σ32 H locs ls hg hI hl => ?_)
  exact oe_v S hr hlocks hK hI hg dX0_touchLeads_109
-- OwnMemory.planMoves
abbrev rX0_planMoves : Room := { frames := 1, cells := 0, slots := 0, locals := 21 }
theorem nX0_planMoves : yX0_planMoves.cls = RX0 ∧ yX0_planMoves.cls ≠ "java/lang/invoke/MethodHandle" ∧ yX0_planMoves.cls ≠ "java/lang/invoke/VarHandle" ∧ (parseMethodDescriptor yX0_planMoves.desc).map (fun d => d.parameters.length) = some 0 := by decide +kernel
noncomputable def LX0_planMoves_4 (F : Nat) (K : Int32 → Int32 → oS → Option (Int32 × oS)) : Nat → Int32 → Int32 → oS → Option (Int32 × oS)
  | 0, _, _, _ => none
  | n + 1, v1, v2, σ => cIf ((o_us σ) ≤ v2) (K v1 v2 σ) (ck (vp_in (v2 + 1) (o_lw σ)) (nmd (o_fw σ (v2 + 1).toNatClampNeg) (fun x3 => cIf (x3 = (-1)) (bnd (fX0_sizeAt F σ v2) (fun r6 σ5 => nmd (v2 + r6) (fun x7 => LX0_planMoves_4 F K  n v1 x7 σ5))) (ck (vp_in (v2 + 1) (o_lw σ)) (nmd (o_s_fw σ (upd (o_fw σ) (v2 + 1).toNatClampNeg v1)) (fun σ9 => bnd (fX0_sizeAt F σ9 v2) (fun r11 σ10 => nmd (v1 + r11) (fun x12 => bnd (fX0_sizeAt F σ10 v2) (fun r14 σ13 => nmd (v2 + r14) (fun x15 => LX0_planMoves_4 F K  n x12 x15 σ13))))))))))
noncomputable def fX0_planMoves (F : Nat) (σ : oS) : Option (Int32 × oS) := LX0_planMoves_4 F (fun w16 w17 σ18 => some (w16, σ18))  F 0 0 σ
set_option maxHeartbeats 4000000 in
set_option maxRecDepth 100000 in
theorem lX0_planMoves_4 {p : Program} {l : Launch} {e : Env} {s : State} {m : MethodId} {args : Array Value} {below : List Frame} {meth : Method} {c : Code} {A : Nat → Prop} {G : gT} {h0 : Nat} {h : oH} {F : Nat} (S : CallFix p m c cX0_planMoves 3 s args wsX0_planMoves RX0) (hr : meth.sig.returnType = some .int) (hlocks : meth.locks = false) (hin : ∀ w ∈ wsX00, w ∈ wsX0_planMoves) (hK : gK G s) (hA : ∀ q, s.heap.size ≤ q → A q) {K : Int32 → Int32 → oS → Option (Int32 × oS)} {res : (Int32 × oS)} (n : Nat) : ∀ (v1 : Int32) (v2 : Int32) (σ : oS) (H : Heap) (locs : List Loc) (ls : Array Slot), LX0_planMoves_4 F K n v1 v2 σ = some res → oI s A G h0 h σ H locs → lv_has ls 3 [(0, .ref h0), (1, .int v1), (2, .int v2)] → (∀ (v1 : Int32) (v2 : Int32) (σ : oS) (H : Heap) (locs : List Loc) (ls : Array Slot), K v1 v2 σ = some res → oI s A G h0 h σ H locs → lv_has ls 3 [(0, .ref h0), (1, .int v1), (2, .int v2)] → W p l e rX0_planMoves s m args below meth c H locs 0 0 (MQ below (oQi G h0 h res.1 res.2 A) args s 0 0 A) (F0 m 52 ls [])) → W p l e rX0_planMoves s m args below meth c H locs 0 0 (MQ below (oQi G h0 h res.1 res.2 A) args s 0 0 A) (F0 m 4 ls []) := by
  have hx := S.1
  have hb := S.2.1
  have hts := S.2.2.2.2
  have hown := S.2.2.2.1
  induction n with
  | zero => intro v1 v2 σ H locs ls hg; rw [LX0_planMoves_4] at hg; cases hg
  | succ n ih =>
    intro v1 v2 σ H locs ls hg hI hl kk
    rw [LX0_planMoves_4] at hg
    refine lv_iload_n hx hb dX0_planMoves_4 rfl (lv_at hl 2 rfl) ?_
    refine lv_aload_n hx hb dX0_planMoves_5 rfl (lv_at hl 0 rfl) ?_
    refine og_used S hin hK hI (ix := 27) (by decide +kernel) dX0_planMoves_6 ?_
    refine lv_icmp_ge (tgt := 52) hx hb dX0_planMoves_9 (by decide) (fun c1 => ?_) (fun c1 => ?_)
    · have hg := cIf_te c1 hg
      exact kk v1 v2 σ H locs ls hg hI (lv_sub hl [0, 1, 2] rfl)
    · have hg := cIf_fe c1 hg
      refine lv_aload_n hx hb dX0_planMoves_12 rfl (lv_at hl 0 rfl) ?_
      refine og_words S hin hK hI (ix := 23) (by decide +kernel) dX0_planMoves_13 ?_
      refine lv_iload_n hx hb dX0_planMoves_16 rfl (lv_at hl 2 rfl) ?_
      refine lv_iconst (v := 1) hx hb dX0_planMoves_17 (by decide) ?_
      refine lv_iadd hx hb dX0_planMoves_18 ?_
      obtain ⟨c2, hg⟩ := ck_e hg
      obtain ⟨x3, ex3, hg⟩ := nmd_e hg
      refine or_words S hK hI c2 ex3 dX0_planMoves_19 ?_
      refine lv_iconst (v := (-1)) hx hb dX0_planMoves_20 (by decide) ?_
      refine lv_icmp_eq (tgt := 41) hx hb dX0_planMoves_21 (by decide) (fun c4 => ?_) (fun c4 => ?_)
      · have hg := cIf_te c4 hg
        refine lv_iload_n hx hb dX0_planMoves_41 rfl (lv_at hl 2 rfl) ?_
        refine lv_aload_n hx hb dX0_planMoves_42 rfl (lv_at hl 0 rfl) ?_
        refine lv_iload_n hx hb dX0_planMoves_43 rfl (lv_at hl 2 rfl) ?_
        obtain ⟨r6, σ5, er6, hg⟩ := bnd_e hg
        refine oc_i S hK hA hI (As := [.int v2]) (rest := [.int v2]) (kX0_sizeAt l G h0 h H.size F σ v2  r6 σ5 er6) (cwV 1 hts gX0_planMoves_X0_sizeAt rfl rfl rfl nX0_sizeAt ⟨Nat.le_of_ble_eq_true rfl, Nat.le_of_ble_eq_true rfl⟩) rfl hl.1 rfl (Nat.le_of_ble_eq_true rfl) dX0_planMoves_44 ⟨Nat.le_refl _, Nat.le_refl _⟩ (fun H locs hI => ?_)
        refine lv_iadd hx hb dX0_planMoves_47 ?_
        obtain ⟨x7, ex7, hg⟩ := nmd_e hg
        refine wn_i ex7 ?_
        refine lv_istore_n (lv' := [(2, .int x7), (0, .ref h0), (1, .int v1)]) hx hb dX0_planMoves_48 rfl hl (by decide) rfl (fun ls hl => ?_)
        refine lv_goto (tgt := 4) hx hb dX0_planMoves_49 (by decide) ?_
        exact ih v1 x7 σ5 H locs ls hg hI (lv_sub hl [1, 2, 0] rfl) kk
      · have hg := cIf_fe c4 hg
        refine lv_aload_n hx hb dX0_planMoves_24 rfl (lv_at hl 0 rfl) ?_
        refine og_words S hin hK hI (ix := 23) (by decide +kernel) dX0_planMoves_25 ?_
        refine lv_iload_n hx hb dX0_planMoves_28 rfl (lv_at hl 2 rfl) ?_
        refine lv_iconst (v := 1) hx hb dX0_planMoves_29 (by decide) ?_
        refine lv_iadd hx hb dX0_planMoves_30 ?_
        refine lv_iload_n hx hb dX0_planMoves_31 rfl (lv_at hl 1 rfl) ?_
        obtain ⟨c8, hg⟩ := ck_e hg
        obtain ⟨σ9, eσ9, hg⟩ := nmd_e hg
        refine ou_words S hK hI c8 eσ9 dX0_planMoves_32 (fun H locs hI => ?_)
        refine lv_iload_n hx hb dX0_planMoves_33 rfl (lv_at hl 1 rfl) ?_
        refine lv_aload_n hx hb dX0_planMoves_34 rfl (lv_at hl 0 rfl) ?_
        refine lv_iload_n hx hb dX0_planMoves_35 rfl (lv_at hl 2 rfl) ?_
        obtain ⟨r11, σ10, er11, hg⟩ := bnd_e hg
        refine oc_i S hK hA hI (As := [.int v2]) (rest := [.int v1]) (kX0_sizeAt l G h0 h H.size F σ9 v2  r11 σ10 er11) (cwV 1 hts gX0_planMoves_X0_sizeAt rfl rfl rfl nX0_sizeAt ⟨Nat.le_of_ble_eq_true rfl, Nat.le_of_ble_eq_true rfl⟩) rfl hl.1 rfl (Nat.le_of_ble_eq_true rfl) dX0_planMoves_36 ⟨Nat.le_refl _, Nat.le_refl _⟩ (fun H locs hI => ?_)
        refine lv_iadd hx hb dX0_planMoves_39 ?_
        obtain ⟨x12, ex12, hg⟩ := nmd_e hg
        refine wn_i ex12 ?_
        refine lv_istore_n (lv' := [(1, .int x12), (0, .ref h0), (2, .int v2)]) hx hb dX0_planMoves_40 rfl hl (by decide) rfl (fun ls hl => ?_)
        refine lv_iload_n hx hb dX0_planMoves_41 rfl (lv_at hl 2 rfl) ?_
        refine lv_aload_n hx hb dX0_planMoves_42 rfl (lv_at hl 1 rfl) ?_
        refine lv_iload_n hx hb dX0_planMoves_43 rfl (lv_at hl 2 rfl) ?_
        obtain ⟨r14, σ13, er14, hg⟩ := bnd_e hg
        refine oc_i S hK hA hI (As := [.int v2]) (rest := [.int v2]) (kX0_sizeAt l G h0 h H.size F σ10 v2  r14 σ13 er14) (cwV 1 hts gX0_planMoves_X0_sizeAt rfl rfl rfl nX0_sizeAt ⟨Nat.le_of_ble_eq_true rfl, Nat.le_of_ble_eq_true rfl⟩) rfl hl.1 rfl (Nat.le_of_ble_eq_true rfl) dX0_planMoves_44 ⟨Nat.le_refl _, Nat.le_refl _⟩ (fun H locs hI => ?_)
        refine lv_iadd hx hb dX0_planMoves_47 ?_
        obtain ⟨x15, ex15, hg⟩ := nmd_e hg
        refine wn_i ex15 ?_
        refine lv_istore_n (lv' := [(2, .int x15), (1, .int x12), (0, .ref h0)]) hx hb dX0_planMoves_48 rfl hl (by decide) rfl (fun ls hl => ?_)
        refine lv_goto (tgt := 4) hx hb dX0_planMoves_49 (by decide) ?_
        exact ih x12 x15 σ13 H locs ls hg hI (lv_sub hl [2, 1, 0] rfl) kk
set_option maxHeartbeats 4000000 in
set_option maxRecDepth 100000 in
theorem kX0_planMoves (l : Launch) (G : gT) (h0 : Nat) (h : oH) (sz F : Nat) (σ : oS) (r : Int32) (σr : oS) (hg : fX0_planMoves F σ = some (r, σr)) : Met l yX0_planMoves wsX0_planMoves rX0_planMoves (oPre G h0 h σ sz []) (oQi G h0 h r σr (oA G h0 h σ sz)) 0 0 (oA G h0 h σ sz) := by
  refine oMet (Qc := oQi G h0 h r σr) (by decide +kernel) rfl rfl (Nat.le_of_ble_eq_true rfl) ?_
  intro p e s m args below meth c A S hr hlocks hK hA H locs hI ls hl
  have hl : lv_has ls 3 [(0, .ref h0)] := hl
  have hin : ∀ w ∈ wsX00, w ∈ wsX0_planMoves := in_ws
  have hx := S.1
  have hb := S.2.1
  have hts := S.2.2.2.2
  have hown := S.2.2.2.1
  unfold fX0_planMoves at hg
  refine lv_iconst (v := 0) hx hb dX0_planMoves_0 (by decide) ?_
  refine lv_istore_n (lv' := [(1, .int 0), (0, .ref h0)]) hx hb dX0_planMoves_1 rfl hl (by decide) rfl (fun ls hl => ?_)
  refine lv_iconst (v := 0) hx hb dX0_planMoves_2 (by decide) ?_
  refine lv_istore_n (lv' := [(2, .int 0), (1, .int 0), (0, .ref h0)]) hx hb dX0_planMoves_3 rfl hl (by decide) rfl (fun ls hl => ?_)
  refine lX0_planMoves_4 S hr hlocks hin hK hA  F 0 0 σ H locs ls hg hI (lv_sub hl [2, 1, 0] rfl) (fun w16 w17 σ18 H locs ls hg hI hl => ?_)
  refine lv_iload_n hx hb dX0_planMoves_52 rfl (lv_at hl 1 rfl) ?_
  exact oe_i S hr hlocks hK hI hg dX0_planMoves_53
-- OwnMemory.keepNames
abbrev rX0_keepNames : Room := { frames := 0, cells := 0, slots := 0, locals := 0 }
theorem nX0_keepNames : yX0_keepNames.cls = RX0 ∧ yX0_keepNames.cls ≠ "java/lang/invoke/MethodHandle" ∧ yX0_keepNames.cls ≠ "java/lang/invoke/VarHandle" ∧ (parseMethodDescriptor yX0_keepNames.desc).map (fun d => d.parameters.length) = some 0 := by decide +kernel
noncomputable def LX0_keepNames_4 (F : Nat) (K : Int32 → Int32 → oS → Option oS) : Nat → Int32 → Int32 → oS → Option oS
  | 0, _, _, _ => none
  | n + 1, v1, v2, σ => cIf ((o_nc σ) ≤ v2) (K v1 v2 σ) (ck (vp_in v2 (o_ln σ)) (nmd (o_fn σ v2.toNatClampNeg) (fun x3 => ck (vp_in (x3 + 1) (o_lw σ)) (nmd (o_fw σ (x3 + 1).toNatClampNeg) (fun x5 => cIf (x5 = (-1)) (nmd (v2 + 1) (fun x7 => LX0_keepNames_4 F K  n v1 x7 σ)) (ck (vp_in v1 (o_ln σ)) (nmd (o_s_fn σ (upd (o_fn σ) v1.toNatClampNeg x5)) (fun σ9 => nmd (v1 + 1) (fun x10 => nmd (v2 + 1) (fun x11 => LX0_keepNames_4 F K  n x10 x11 σ9))))))))))
noncomputable def fX0_keepNames (F : Nat) (σ : oS) : Option oS := LX0_keepNames_4 F (fun w12 w13 σ14 => nmd (o_s_nc σ14 w12) (fun σ15 => some σ15))  F 0 0 σ
set_option maxHeartbeats 4000000 in
set_option maxRecDepth 100000 in
theorem lX0_keepNames_4 {p : Program} {l : Launch} {e : Env} {s : State} {m : MethodId} {args : Array Value} {below : List Frame} {meth : Method} {c : Code} {A : Nat → Prop} {G : gT} {h0 : Nat} {h : oH} {F : Nat} (S : CallFix p m c cX0_keepNames 4 s args wsX0_keepNames RX0) (hr : meth.sig.returnType = none) (hlocks : meth.locks = false) (hin : ∀ w ∈ wsX00, w ∈ wsX0_keepNames) (hK : gK G s) (hA : ∀ q, s.heap.size ≤ q → A q) {K : Int32 → Int32 → oS → Option oS} {res : oS} (n : Nat) : ∀ (v1 : Int32) (v2 : Int32) (σ : oS) (H : Heap) (locs : List Loc) (ls : Array Slot), LX0_keepNames_4 F K n v1 v2 σ = some res → oI s A G h0 h σ H locs → lv_has ls 4 [(0, .ref h0), (1, .int v1), (2, .int v2)] → (∀ (v1 : Int32) (v2 : Int32) (σ : oS) (H : Heap) (locs : List Loc) (ls : Array Slot), K v1 v2 σ = some res → oI s A G h0 h σ H locs → lv_has ls 4 [(0, .ref h0), (1, .int v1), (2, .int v2)] → W p l e rX0_keepNames s m args below meth c H locs 0 0 (MQ below (oQv G h0 h res A) args s 0 0 A) (F0 m 47 ls [])) → W p l e rX0_keepNames s m args below meth c H locs 0 0 (MQ below (oQv G h0 h res A) args s 0 0 A) (F0 m 4 ls []) := by
  have hx := S.1
  have hb := S.2.1
  have hts := S.2.2.2.2
  have hown := S.2.2.2.1
  induction n with
  | zero => intro v1 v2 σ H locs ls hg; rw [LX0_keepNames_4] at hg; cases hg
  | succ n ih =>
    intro v1 v2 σ H locs ls hg hI hl kk
    rw [LX0_keepNames_4] at hg
    refine lv_iload_n hx hb dX0_keepNames_4 rfl (lv_at hl 2 rfl) ?_
    refine lv_aload_n hx hb dX0_keepNames_5 rfl (lv_at hl 0 rfl) ?_
    refine og_nameCount S hin hK hI (ix := 42) (by decide +kernel) dX0_keepNames_6 ?_
    refine lv_icmp_ge (tgt := 47) hx hb dX0_keepNames_9 (by decide) (fun c1 => ?_) (fun c1 => ?_)
    · have hg := cIf_te c1 hg
      exact kk v1 v2 σ H locs ls hg hI (lv_sub hl [0, 1, 2] rfl)
    · have hg := cIf_fe c1 hg
      refine lv_aload_n hx hb dX0_keepNames_12 rfl (lv_at hl 0 rfl) ?_
      refine og_words S hin hK hI (ix := 23) (by decide +kernel) dX0_keepNames_13 ?_
      refine lv_aload_n hx hb dX0_keepNames_16 rfl (lv_at hl 0 rfl) ?_
      refine og_names S hin hK hI (ix := 39) (by decide +kernel) dX0_keepNames_17 ?_
      refine lv_iload_n hx hb dX0_keepNames_20 rfl (lv_at hl 2 rfl) ?_
      obtain ⟨c2, hg⟩ := ck_e hg
      obtain ⟨x3, ex3, hg⟩ := nmd_e hg
      refine or_names S hK hI c2 ex3 dX0_keepNames_21 ?_
      refine lv_iconst (v := 1) hx hb dX0_keepNames_22 (by decide) ?_
      refine lv_iadd hx hb dX0_keepNames_23 ?_
      obtain ⟨c4, hg⟩ := ck_e hg
      obtain ⟨x5, ex5, hg⟩ := nmd_e hg
      refine or_words S hK hI c4 ex5 dX0_keepNames_24 ?_
      refine lv_istore_n (lv' := [(3, .int x5), (0, .ref h0), (1, .int v1), (2, .int v2)]) hx hb dX0_keepNames_25 rfl hl (by decide) rfl (fun ls hl => ?_)
      refine lv_iload_n hx hb dX0_keepNames_26 rfl (lv_at hl 0 rfl) ?_
      refine lv_iconst (v := (-1)) hx hb dX0_keepNames_27 (by decide) ?_
      refine lv_icmp_eq (tgt := 41) hx hb dX0_keepNames_28 (by decide) (fun c6 => ?_) (fun c6 => ?_)
      · have hg := cIf_te c6 hg
        obtain ⟨x7, ex7, hg⟩ := nmd_e hg
        refine lv_iinc (v := x7) (lv' := [(2, .int x7), (3, .int x5), (0, .ref h0), (1, .int v1)]) hx hb dX0_keepNames_41 hl (k := 3) rfl (by rw [ex7]; rfl) (by decide) rfl (fun ls hl => ?_)
        refine lv_goto (tgt := 4) hx hb dX0_keepNames_44 (by decide) ?_
        exact ih v1 x7 σ H locs ls hg hI (lv_sub hl [2, 3, 0] rfl) kk
      · have hg := cIf_fe c6 hg
        refine lv_aload_n hx hb dX0_keepNames_31 rfl (lv_at hl 1 rfl) ?_
        refine og_names S hin hK hI (ix := 39) (by decide +kernel) dX0_keepNames_32 ?_
        refine lv_iload_n hx hb dX0_keepNames_35 rfl (lv_at hl 2 rfl) ?_
        refine lv_iload_n hx hb dX0_keepNames_36 rfl (lv_at hl 0 rfl) ?_
        obtain ⟨c8, hg⟩ := ck_e hg
        obtain ⟨σ9, eσ9, hg⟩ := nmd_e hg
        refine ou_names S hK hI c8 eσ9 dX0_keepNames_37 (fun H locs hI => ?_)
        obtain ⟨x10, ex10, hg⟩ := nmd_e hg
        refine lv_iinc (v := x10) (lv' := [(1, .int x10), (3, .int x5), (0, .ref h0), (2, .int v2)]) hx hb dX0_keepNames_38 hl (k := 2) rfl (by rw [ex10]; rfl) (by decide) rfl (fun ls hl => ?_)
        obtain ⟨x11, ex11, hg⟩ := nmd_e hg
        refine lv_iinc (v := x11) (lv' := [(2, .int x11), (1, .int x10), (3, .int x5), (0, .ref h0)]) hx hb dX0_keepNames_41 hl (k := 3) rfl (by rw [ex11]; rfl) (by decide) rfl (fun ls hl => ?_)
        refine lv_goto (tgt := 4) hx hb dX0_keepNames_44 (by decide) ?_
        exact ih x10 x11 σ9 H locs ls hg hI (lv_sub hl [3, 1, 0] rfl) kk
set_option maxHeartbeats 4000000 in
set_option maxRecDepth 100000 in
theorem kX0_keepNames (l : Launch) (G : gT) (h0 : Nat) (h : oH) (sz F : Nat) (σ : oS) (σr : oS) (hg : fX0_keepNames F σ = some σr) : Met l yX0_keepNames wsX0_keepNames rX0_keepNames (oPre G h0 h σ sz []) (oQv G h0 h σr (oA G h0 h σ sz)) 0 0 (oA G h0 h σ sz) := by
  refine oMet (Qc := oQv G h0 h σr) (by decide +kernel) rfl rfl (Nat.le_of_ble_eq_true rfl) ?_
  intro p e s m args below meth c A S hr hlocks hK hA H locs hI ls hl
  have hl : lv_has ls 4 [(0, .ref h0)] := hl
  have hin : ∀ w ∈ wsX00, w ∈ wsX0_keepNames := in_ws
  have hx := S.1
  have hb := S.2.1
  have hts := S.2.2.2.2
  have hown := S.2.2.2.1
  unfold fX0_keepNames at hg
  refine lv_iconst (v := 0) hx hb dX0_keepNames_0 (by decide) ?_
  refine lv_istore_n (lv' := [(1, .int 0), (0, .ref h0)]) hx hb dX0_keepNames_1 rfl hl (by decide) rfl (fun ls hl => ?_)
  refine lv_iconst (v := 0) hx hb dX0_keepNames_2 (by decide) ?_
  refine lv_istore_n (lv' := [(2, .int 0), (1, .int 0), (0, .ref h0)]) hx hb dX0_keepNames_3 rfl hl (by decide) rfl (fun ls hl => ?_)
  refine lX0_keepNames_4 S hr hlocks hin hK hA  F 0 0 σ H locs ls hg hI (lv_sub hl [2, 1, 0] rfl) (fun w12 w13 σ14 H locs ls hg hI hl => ?_)
  refine lv_aload_n hx hb dX0_keepNames_47 rfl (lv_at hl 0 rfl) ?_
  refine lv_iload_n hx hb dX0_keepNames_48 rfl (lv_at hl 1 rfl) ?_
  obtain ⟨σ15, eσ15, hg⟩ := nmd_e hg
  refine op_nameCount S hin hK hI (ix := 42) (by decide +kernel) eσ15 dX0_keepNames_49 (fun H locs hI => ?_)
  exact oe_v S hr hlocks hK hI hg dX0_keepNames_52
-- OwnMemory.lengthAt
abbrev rX0_lengthAt : Room := { frames := 1, cells := 0, slots := 0, locals := 21 }
theorem nX0_lengthAt : yX0_lengthAt.cls = RX0 ∧ yX0_lengthAt.cls ≠ "java/lang/invoke/MethodHandle" ∧ yX0_lengthAt.cls ≠ "java/lang/invoke/VarHandle" ∧ (parseMethodDescriptor yX0_lengthAt.desc).map (fun d => d.parameters.length) = some 1 := by decide +kernel
noncomputable def fX0_lengthAt (F : Nat) (σ : oS) (p1 : Int32) : Option (Int32 × oS) := bnd (fX0_linksAt F σ p1) (fun r2 σ1 => ck (vp_in ((p1 + 3) + r2) (o_lw σ1)) (nmd (o_fw σ1 ((p1 + 3) + r2).toNatClampNeg) (fun x4 => some (x4, σ1))))
set_option maxHeartbeats 4000000 in
set_option maxRecDepth 100000 in
theorem kX0_lengthAt (l : Launch) (G : gT) (h0 : Nat) (h : oH) (sz F : Nat) (σ : oS) (p1 : Int32) (r : Int32) (σr : oS) (hg : fX0_lengthAt F σ p1 = some (r, σr)) : Met l yX0_lengthAt wsX0_lengthAt rX0_lengthAt (oPre G h0 h σ sz [.int p1]) (oQi G h0 h r σr (oA G h0 h σ sz)) 0 0 (oA G h0 h σ sz) := by
  refine oMet (Qc := oQi G h0 h r σr) (by decide +kernel) rfl rfl (Nat.le_of_ble_eq_true rfl) ?_
  intro p e s m args below meth c A S hr hlocks hK hA H locs hI ls hl
  have hl : lv_has ls 2 [(0, .ref h0), (1, .int p1)] := hl
  have hin : ∀ w ∈ wsX00, w ∈ wsX0_lengthAt := in_ws
  have hx := S.1
  have hb := S.2.1
  have hts := S.2.2.2.2
  have hown := S.2.2.2.1
  unfold fX0_lengthAt at hg
  refine lv_aload_n hx hb dX0_lengthAt_0 rfl (lv_at hl 0 rfl) ?_
  refine og_words S hin hK hI (ix := 23) (by decide +kernel) dX0_lengthAt_1 ?_
  refine lv_iload_n hx hb dX0_lengthAt_4 rfl (lv_at hl 1 rfl) ?_
  refine lv_iconst (v := 3) hx hb dX0_lengthAt_5 (by decide) ?_
  refine lv_iadd hx hb dX0_lengthAt_6 ?_
  refine lv_aload_n hx hb dX0_lengthAt_7 rfl (lv_at hl 0 rfl) ?_
  refine lv_iload_n hx hb dX0_lengthAt_8 rfl (lv_at hl 1 rfl) ?_
  obtain ⟨r2, σ1, er2, hg⟩ := bnd_e hg
  refine oc_i S hK hA hI (As := [.int p1]) (rest := [.int (p1 + 3), .ref h.1]) (kX0_linksAt l G h0 h H.size F σ p1  r2 σ1 er2) (cwV 1 hts gX0_lengthAt_X0_linksAt rfl rfl rfl nX0_linksAt ⟨Nat.le_of_ble_eq_true rfl, Nat.le_of_ble_eq_true rfl⟩) rfl hl.1 rfl (Nat.le_of_ble_eq_true rfl) dX0_lengthAt_9 ⟨Nat.le_refl _, Nat.le_refl _⟩ (fun H locs hI => ?_)
  refine lv_iadd hx hb dX0_lengthAt_12 ?_
  obtain ⟨c3, hg⟩ := ck_e hg
  obtain ⟨x4, ex4, hg⟩ := nmd_e hg
  refine or_words S hK hI c3 ex4 dX0_lengthAt_13 ?_
  exact oe_i S hr hlocks hK hI hg dX0_lengthAt_14
-- OwnMemory.putLength
abbrev rX0_putLength : Room := { frames := 1, cells := 0, slots := 0, locals := 21 }
theorem nX0_putLength : yX0_putLength.cls = RX0 ∧ yX0_putLength.cls ≠ "java/lang/invoke/MethodHandle" ∧ yX0_putLength.cls ≠ "java/lang/invoke/VarHandle" ∧ (parseMethodDescriptor yX0_putLength.desc).map (fun d => d.parameters.length) = some 2 := by decide +kernel
noncomputable def fX0_putLength (F : Nat) (σ : oS) (p1 : Int32) (p2 : Int32) : Option oS := bnd (fX0_linksAt F σ p1) (fun r2 σ1 => ck (vp_in ((p1 + 3) + r2) (o_lw σ1)) (nmd (o_s_fw σ1 (upd (o_fw σ1) ((p1 + 3) + r2).toNatClampNeg p2)) (fun σ4 => some σ4)))
set_option maxHeartbeats 4000000 in
set_option maxRecDepth 100000 in
theorem kX0_putLength (l : Launch) (G : gT) (h0 : Nat) (h : oH) (sz F : Nat) (σ : oS) (p1 : Int32) (p2 : Int32) (σr : oS) (hg : fX0_putLength F σ p1 p2 = some σr) : Met l yX0_putLength wsX0_putLength rX0_putLength (oPre G h0 h σ sz [.int p1, .int p2]) (oQv G h0 h σr (oA G h0 h σ sz)) 0 0 (oA G h0 h σ sz) := by
  refine oMet (Qc := oQv G h0 h σr) (by decide +kernel) rfl rfl (Nat.le_of_ble_eq_true rfl) ?_
  intro p e s m args below meth c A S hr hlocks hK hA H locs hI ls hl
  have hl : lv_has ls 3 [(0, .ref h0), (1, .int p1), (2, .int p2)] := hl
  have hin : ∀ w ∈ wsX00, w ∈ wsX0_putLength := in_ws
  have hx := S.1
  have hb := S.2.1
  have hts := S.2.2.2.2
  have hown := S.2.2.2.1
  unfold fX0_putLength at hg
  refine lv_aload_n hx hb dX0_putLength_0 rfl (lv_at hl 0 rfl) ?_
  refine og_words S hin hK hI (ix := 23) (by decide +kernel) dX0_putLength_1 ?_
  refine lv_iload_n hx hb dX0_putLength_4 rfl (lv_at hl 1 rfl) ?_
  refine lv_iconst (v := 3) hx hb dX0_putLength_5 (by decide) ?_
  refine lv_iadd hx hb dX0_putLength_6 ?_
  refine lv_aload_n hx hb dX0_putLength_7 rfl (lv_at hl 0 rfl) ?_
  refine lv_iload_n hx hb dX0_putLength_8 rfl (lv_at hl 1 rfl) ?_
  obtain ⟨r2, σ1, er2, hg⟩ := bnd_e hg
  refine oc_i S hK hA hI (As := [.int p1]) (rest := [.int (p1 + 3), .ref h.1]) (kX0_linksAt l G h0 h H.size F σ p1  r2 σ1 er2) (cwV 1 hts gX0_putLength_X0_linksAt rfl rfl rfl nX0_linksAt ⟨Nat.le_of_ble_eq_true rfl, Nat.le_of_ble_eq_true rfl⟩) rfl hl.1 rfl (Nat.le_of_ble_eq_true rfl) dX0_putLength_9 ⟨Nat.le_refl _, Nat.le_refl _⟩ (fun H locs hI => ?_)
  refine lv_iadd hx hb dX0_putLength_12 ?_
  refine lv_iload_n hx hb dX0_putLength_13 rfl (lv_at hl 2 rfl) ?_
  obtain ⟨c3, hg⟩ := ck_e hg
  obtain ⟨σ4, eσ4, hg⟩ := nmd_e hg
  refine ou_words S hK hI c3 eσ4 dX0_putLength_14 (fun H locs hI => ?_)
  exact oe_v S hr hlocks hK hI hg dX0_putLength_15
-- OwnMemory.lengthIn
abbrev rX0_lengthIn : Room := { frames := 2, cells := 0, slots := 0, locals := 42 }
theorem nX0_lengthIn : yX0_lengthIn.cls = RX0 ∧ yX0_lengthIn.cls ≠ "java/lang/invoke/MethodHandle" ∧ yX0_lengthIn.cls ≠ "java/lang/invoke/VarHandle" ∧ (parseMethodDescriptor yX0_lengthIn.desc).map (fun d => d.parameters.length) = some 1 := by decide +kernel
noncomputable def fX0_lengthIn (F : Nat) (σ : oS) (p1 : Int32) : Option (Int32 × oS) := ck (vp_in p1 24) (nmd (o_fr σ p1.toNatClampNeg) (fun x2 => bnd (fX0_lengthAt F σ x2) (fun r4 σ3 => some (r4, σ3))))
set_option maxHeartbeats 4000000 in
set_option maxRecDepth 100000 in
theorem kX0_lengthIn (l : Launch) (G : gT) (h0 : Nat) (h : oH) (sz F : Nat) (σ : oS) (p1 : Int32) (r : Int32) (σr : oS) (hg : fX0_lengthIn F σ p1 = some (r, σr)) : Met l yX0_lengthIn wsX0_lengthIn rX0_lengthIn (oPre G h0 h σ sz [.int p1]) (oQi G h0 h r σr (oA G h0 h σ sz)) 0 0 (oA G h0 h σ sz) := by
  refine oMet (Qc := oQi G h0 h r σr) (by decide +kernel) rfl rfl (Nat.le_of_ble_eq_true rfl) ?_
  intro p e s m args below meth c A S hr hlocks hK hA H locs hI ls hl
  have hl : lv_has ls 2 [(0, .ref h0), (1, .int p1)] := hl
  have hin : ∀ w ∈ wsX00, w ∈ wsX0_lengthIn := in_ws
  have hx := S.1
  have hb := S.2.1
  have hts := S.2.2.2.2
  have hown := S.2.2.2.1
  unfold fX0_lengthIn at hg
  refine lv_aload_n hx hb dX0_lengthIn_0 rfl (lv_at hl 0 rfl) ?_
  refine lv_aload_n hx hb dX0_lengthIn_1 rfl (lv_at hl 0 rfl) ?_
  refine og_roots S hin hK hI (ix := 30) (by decide +kernel) dX0_lengthIn_2 ?_
  refine lv_iload_n hx hb dX0_lengthIn_5 rfl (lv_at hl 1 rfl) ?_
  obtain ⟨c1, hg⟩ := ck_e hg
  obtain ⟨x2, ex2, hg⟩ := nmd_e hg
  refine or_roots S hK hI c1 ex2 dX0_lengthIn_6 ?_
  obtain ⟨r4, σ3, er4, hg⟩ := bnd_e hg
  refine oc_i S hK hA hI (As := [.int x2]) (rest := []) (kX0_lengthAt l G h0 h H.size F σ x2  r4 σ3 er4) (cwV 1 hts gX0_lengthIn_X0_lengthAt rfl rfl rfl nX0_lengthAt ⟨Nat.le_of_ble_eq_true rfl, Nat.le_of_ble_eq_true rfl⟩) rfl hl.1 rfl (Nat.le_of_ble_eq_true rfl) dX0_lengthIn_7 ⟨Nat.le_refl _, Nat.le_refl _⟩ (fun H locs hI => ?_)
  exact oe_i S hr hlocks hK hI hg dX0_lengthIn_10
-- OwnMemory.flatOf
abbrev rX0_flatOf : Room := { frames := 1, cells := 0, slots := 0, locals := 21 }
theorem nX0_flatOf : yX0_flatOf.cls = RX0 ∧ yX0_flatOf.cls ≠ "java/lang/invoke/MethodHandle" ∧ yX0_flatOf.cls ≠ "java/lang/invoke/VarHandle" ∧ (parseMethodDescriptor yX0_flatOf.desc).map (fun d => d.parameters.length) = some 1 := by decide +kernel
noncomputable def fX0_flatOf (F : Nat) (σ : oS) (p1 : Int32) : Option (Int32 × oS) := bnd (fX0_kindAt F σ p1) (fun r2 σ1 => cIf (r2 = 4) (ck (vp_in (p1 + 3) (o_lw σ1)) (nmd (o_fw σ1 (p1 + 3).toNatClampNeg) (fun x5 => some (x5, σ1)))) (some (p1, σ1)))
set_option maxHeartbeats 4000000 in
set_option maxRecDepth 100000 in
theorem kX0_flatOf (l : Launch) (G : gT) (h0 : Nat) (h : oH) (sz F : Nat) (σ : oS) (p1 : Int32) (r : Int32) (σr : oS) (hg : fX0_flatOf F σ p1 = some (r, σr)) : Met l yX0_flatOf wsX0_flatOf rX0_flatOf (oPre G h0 h σ sz [.int p1]) (oQi G h0 h r σr (oA G h0 h σ sz)) 0 0 (oA G h0 h σ sz) := by
  refine oMet (Qc := oQi G h0 h r σr) (by decide +kernel) rfl rfl (Nat.le_of_ble_eq_true rfl) ?_
  intro p e s m args below meth c A S hr hlocks hK hA H locs hI ls hl
  have hl : lv_has ls 2 [(0, .ref h0), (1, .int p1)] := hl
  have hin : ∀ w ∈ wsX00, w ∈ wsX0_flatOf := in_ws
  have hx := S.1
  have hb := S.2.1
  have hts := S.2.2.2.2
  have hown := S.2.2.2.1
  unfold fX0_flatOf at hg
  refine lv_aload_n hx hb dX0_flatOf_0 rfl (lv_at hl 0 rfl) ?_
  refine lv_iload_n hx hb dX0_flatOf_1 rfl (lv_at hl 1 rfl) ?_
  obtain ⟨r2, σ1, er2, hg⟩ := bnd_e hg
  refine oc_i S hK hA hI (As := [.int p1]) (rest := []) (kX0_kindAt l G h0 h H.size F σ p1  r2 σ1 er2) (cwV 1 hts gX0_flatOf_X0_kindAt rfl rfl rfl nX0_kindAt ⟨Nat.le_of_ble_eq_true rfl, Nat.le_of_ble_eq_true rfl⟩) rfl hl.1 rfl (Nat.le_of_ble_eq_true rfl) dX0_flatOf_2 ⟨Nat.le_refl _, Nat.le_refl _⟩ (fun H locs hI => ?_)
  refine lv_iconst (v := 4) hx hb dX0_flatOf_5 (by decide) ?_
  refine lv_icmp_ne (tgt := 20) hx hb dX0_flatOf_6 (by decide) (fun c3 => ?_) (fun c3 => ?_)
  · have hg := cIf_fe c3 hg
    refine lv_iload_n hx hb dX0_flatOf_20 rfl (lv_at hl 1 rfl) ?_
    exact oe_i S hr hlocks hK hI hg dX0_flatOf_21
  · have hg := cIf_te c3 hg
    refine lv_aload_n hx hb dX0_flatOf_9 rfl (lv_at hl 0 rfl) ?_
    refine og_words S hin hK hI (ix := 23) (by decide +kernel) dX0_flatOf_10 ?_
    refine lv_iload_n hx hb dX0_flatOf_13 rfl (lv_at hl 1 rfl) ?_
    refine lv_iconst (v := 3) hx hb dX0_flatOf_14 (by decide) ?_
    refine lv_iadd hx hb dX0_flatOf_15 ?_
    obtain ⟨c4, hg⟩ := ck_e hg
    obtain ⟨x5, ex5, hg⟩ := nmd_e hg
    refine or_words S hK hI c4 ex5 dX0_flatOf_16 ?_
    refine lv_goto (tgt := 21) hx hb dX0_flatOf_17 (by decide) ?_
    exact oe_i S hr hlocks hK hI hg dX0_flatOf_21
-- OwnMemory.unitAt
abbrev rX0_unitAt : Room := { frames := 0, cells := 0, slots := 0, locals := 0 }
theorem nX0_unitAt : yX0_unitAt.cls = RX0 ∧ yX0_unitAt.cls ≠ "java/lang/invoke/MethodHandle" ∧ yX0_unitAt.cls ≠ "java/lang/invoke/VarHandle" ∧ (parseMethodDescriptor yX0_unitAt.desc).map (fun d => d.parameters.length) = some 2 := by decide +kernel
noncomputable def fX0_unitAt (F : Nat) (σ : oS) (p1 : Int32) (p2 : Int32) : Option (Int32 × oS) := ck (vp_in ((p1 + 4) + (p2 / 2)) (o_lw σ)) (nmd (o_fw σ ((p1 + 4) + (p2 / 2)).toNatClampNeg) (fun x2 => some (((x2.toUInt32 >>> ((16 * (p2 - p2 / 2 * 2)).toUInt32 &&& Int32.toUInt32 31)).toInt32 &&& 65535), σ)))
set_option maxHeartbeats 4000000 in
set_option maxRecDepth 100000 in
theorem kX0_unitAt (l : Launch) (G : gT) (h0 : Nat) (h : oH) (sz F : Nat) (σ : oS) (p1 : Int32) (p2 : Int32) (r : Int32) (σr : oS) (hg : fX0_unitAt F σ p1 p2 = some (r, σr)) : Met l yX0_unitAt wsX0_unitAt rX0_unitAt (oPre G h0 h σ sz [.int p1, .int p2]) (oQi G h0 h r σr (oA G h0 h σ sz)) 0 0 (oA G h0 h σ sz) := by
  refine oMet (Qc := oQi G h0 h r σr) (by decide +kernel) rfl rfl (Nat.le_of_ble_eq_true rfl) ?_
  intro p e s m args below meth c A S hr hlocks hK hA H locs hI ls hl
  have hl : lv_has ls 3 [(0, .ref h0), (1, .int p1), (2, .int p2)] := hl
  have hin : ∀ w ∈ wsX00, w ∈ wsX0_unitAt := in_ws
  have hx := S.1
  have hb := S.2.1
  have hts := S.2.2.2.2
  have hown := S.2.2.2.1
  unfold fX0_unitAt at hg
  refine lv_aload_n hx hb dX0_unitAt_0 rfl (lv_at hl 0 rfl) ?_
  refine og_words S hin hK hI (ix := 23) (by decide +kernel) dX0_unitAt_1 ?_
  refine lv_iload_n hx hb dX0_unitAt_4 rfl (lv_at hl 1 rfl) ?_
  refine lv_iconst (v := 4) hx hb dX0_unitAt_5 (by decide) ?_
  refine lv_iadd hx hb dX0_unitAt_6 ?_
  refine lv_iload_n hx hb dX0_unitAt_7 rfl (lv_at hl 2 rfl) ?_
  refine lv_iconst (v := 2) hx hb dX0_unitAt_8 (by decide) ?_
  refine lv_idiv hx hb dX0_unitAt_9 (by decide) ?_
  refine lv_iadd hx hb dX0_unitAt_10 ?_
  obtain ⟨c1, hg⟩ := ck_e hg
  obtain ⟨x2, ex2, hg⟩ := nmd_e hg
  refine or_words S hK hI c1 ex2 dX0_unitAt_11 ?_
  refine lv_bipush (v := 16) hx hb dX0_unitAt_12 (by decide) ?_
  refine lv_iload_n hx hb dX0_unitAt_14 rfl (lv_at hl 2 rfl) ?_
  refine lv_iconst (v := 2) hx hb dX0_unitAt_15 (by decide) ?_
  refine lv_irem hx hb dX0_unitAt_16 (by decide) ?_
  refine lv_imul hx hb dX0_unitAt_17 ?_
  refine lv_iushr (v := (x2.toUInt32 >>> ((16 * (p2 - p2 / 2 * 2)).toUInt32 &&& Int32.toUInt32 31)).toInt32) hx hb dX0_unitAt_18 rfl ?_
  refine lv_ldc (v := 65535) hx hb hown (hts (.constant RX0 107 (65535)) (by decide +kernel)) dX0_unitAt_19 ?_
  refine lv_iand hx hb dX0_unitAt_21 ?_
  exact oe_i S hr hlocks hK hI hg dX0_unitAt_22
-- OwnMemory.putUnit
abbrev rX0_putUnit : Room := { frames := 0, cells := 0, slots := 0, locals := 0 }
theorem nX0_putUnit : yX0_putUnit.cls = RX0 ∧ yX0_putUnit.cls ≠ "java/lang/invoke/MethodHandle" ∧ yX0_putUnit.cls ≠ "java/lang/invoke/VarHandle" ∧ (parseMethodDescriptor yX0_putUnit.desc).map (fun d => d.parameters.length) = some 3 := by decide +kernel
noncomputable def fX0_putUnit (F : Nat) (σ : oS) (p1 : Int32) (p2 : Int32) (p3 : Int32) : Option oS := ck (vp_in ((p1 + 4) + (p2 / 2)) (o_lw σ)) (nmd (o_fw σ ((p1 + 4) + (p2 / 2)).toNatClampNeg) (fun x2 => ck (vp_in ((p1 + 4) + (p2 / 2)) (o_lw σ)) (nmd (o_s_fw σ (upd (o_fw σ) ((p1 + 4) + (p2 / 2)).toNatClampNeg (x2 ||| (p3 <<< ((16 * (p2 - p2 / 2 * 2)) &&& 31))))) (fun σ4 => some σ4))))
set_option maxHeartbeats 4000000 in
set_option maxRecDepth 100000 in
theorem kX0_putUnit (l : Launch) (G : gT) (h0 : Nat) (h : oH) (sz F : Nat) (σ : oS) (p1 : Int32) (p2 : Int32) (p3 : Int32) (σr : oS) (hg : fX0_putUnit F σ p1 p2 p3 = some σr) : Met l yX0_putUnit wsX0_putUnit rX0_putUnit (oPre G h0 h σ sz [.int p1, .int p2, .int p3]) (oQv G h0 h σr (oA G h0 h σ sz)) 0 0 (oA G h0 h σ sz) := by
  refine oMet (Qc := oQv G h0 h σr) (by decide +kernel) rfl rfl (Nat.le_of_ble_eq_true rfl) ?_
  intro p e s m args below meth c A S hr hlocks hK hA H locs hI ls hl
  have hl : lv_has ls 4 [(0, .ref h0), (1, .int p1), (2, .int p2), (3, .int p3)] := hl
  have hin : ∀ w ∈ wsX00, w ∈ wsX0_putUnit := in_ws
  have hx := S.1
  have hb := S.2.1
  have hts := S.2.2.2.2
  have hown := S.2.2.2.1
  unfold fX0_putUnit at hg
  refine lv_aload_n hx hb dX0_putUnit_0 rfl (lv_at hl 0 rfl) ?_
  refine og_words S hin hK hI (ix := 23) (by decide +kernel) dX0_putUnit_1 ?_
  refine lv_iload_n hx hb dX0_putUnit_4 rfl (lv_at hl 1 rfl) ?_
  refine lv_iconst (v := 4) hx hb dX0_putUnit_5 (by decide) ?_
  refine lv_iadd hx hb dX0_putUnit_6 ?_
  refine lv_iload_n hx hb dX0_putUnit_7 rfl (lv_at hl 2 rfl) ?_
  refine lv_iconst (v := 2) hx hb dX0_putUnit_8 (by decide) ?_
  refine lv_idiv hx hb dX0_putUnit_9 (by decide) ?_
  refine lv_iadd hx hb dX0_putUnit_10 ?_
  refine lv_dup2_11 hx hb dX0_putUnit_11 rfl rfl ?_
  obtain ⟨c1, hg⟩ := ck_e hg
  obtain ⟨x2, ex2, hg⟩ := nmd_e hg
  refine or_words S hK hI c1 ex2 dX0_putUnit_12 ?_
  refine lv_iload_n hx hb dX0_putUnit_13 rfl (lv_at hl 3 rfl) ?_
  refine lv_bipush (v := 16) hx hb dX0_putUnit_14 (by decide) ?_
  refine lv_iload_n hx hb dX0_putUnit_16 rfl (lv_at hl 2 rfl) ?_
  refine lv_iconst (v := 2) hx hb dX0_putUnit_17 (by decide) ?_
  refine lv_irem hx hb dX0_putUnit_18 (by decide) ?_
  refine lv_imul hx hb dX0_putUnit_19 ?_
  refine lv_ishl hx hb dX0_putUnit_20 ?_
  refine lv_ior hx hb dX0_putUnit_21 ?_
  obtain ⟨c3, hg⟩ := ck_e hg
  obtain ⟨σ4, eσ4, hg⟩ := nmd_e hg
  refine ou_words S hK hI c3 eσ4 dX0_putUnit_22 (fun H locs hI => ?_)
  exact oe_v S hr hlocks hK hI hg dX0_putUnit_23
-- OwnMemory.copyUnits
abbrev rX0_copyUnits : Room := { frames := 1, cells := 0, slots := 0, locals := 23 }
theorem nX0_copyUnits : yX0_copyUnits.cls = RX0 ∧ yX0_copyUnits.cls ≠ "java/lang/invoke/MethodHandle" ∧ yX0_copyUnits.cls ≠ "java/lang/invoke/VarHandle" ∧ (parseMethodDescriptor yX0_copyUnits.desc).map (fun d => d.parameters.length) = some 5 := by decide +kernel
noncomputable def LX0_copyUnits_3 (F : Nat) (K : Int32 → oS → Option oS) (v1 : Int32) (v2 : Int32) (v3 : Int32) (v4 : Int32) (v5 : Int32) : Nat → Int32 → oS → Option oS
  | 0, _, _ => none
  | n + 1, v6, σ => cIf (v3 ≤ v6) (K v6 σ) (bnd (fX0_unitAt F σ v1 v6) (fun r3 σ2 => bnp (fX0_putUnit F σ2 v4 ((v5 + v6) - v2) r3) (fun σ4 => nmd (v6 + 1) (fun x5 => LX0_copyUnits_3 F K v1 v2 v3 v4 v5 n x5 σ4))))
noncomputable def fX0_copyUnits (F : Nat) (σ : oS) (p1 : Int32) (p2 : Int32) (p3 : Int32) (p4 : Int32) (p5 : Int32) : Option oS := LX0_copyUnits_3 F (fun w6 σ7 => some σ7) p1 p2 p3 p4 p5 F p2 σ
set_option maxHeartbeats 4000000 in
set_option maxRecDepth 100000 in
theorem lX0_copyUnits_3 {p : Program} {l : Launch} {e : Env} {s : State} {m : MethodId} {args : Array Value} {below : List Frame} {meth : Method} {c : Code} {A : Nat → Prop} {G : gT} {h0 : Nat} {h : oH} {F : Nat} (S : CallFix p m c cX0_copyUnits 7 s args wsX0_copyUnits RX0) (hr : meth.sig.returnType = none) (hlocks : meth.locks = false) (hin : ∀ w ∈ wsX00, w ∈ wsX0_copyUnits) (hK : gK G s) (hA : ∀ q, s.heap.size ≤ q → A q) {K : Int32 → oS → Option oS} {res : oS} (v1 : Int32) (v2 : Int32) (v3 : Int32) (v4 : Int32) (v5 : Int32) (n : Nat) : ∀ (v6 : Int32) (σ : oS) (H : Heap) (locs : List Loc) (ls : Array Slot), LX0_copyUnits_3 F K v1 v2 v3 v4 v5 n v6 σ = some res → oI s A G h0 h σ H locs → lv_has ls 7 [(0, .ref h0), (1, .int v1), (2, .int v2), (3, .int v3), (4, .int v4), (5, .int v5), (6, .int v6)] → (∀ (v6 : Int32) (σ : oS) (H : Heap) (locs : List Loc) (ls : Array Slot), K v6 σ = some res → oI s A G h0 h σ H locs → lv_has ls 7 [(0, .ref h0), (1, .int v1), (2, .int v2), (3, .int v3), (4, .int v4), (5, .int v5), (6, .int v6)] → W p l e rX0_copyUnits s m args below meth c H locs 0 0 (MQ below (oQv G h0 h res A) args s 0 0 A) (F0 m 35 ls [])) → W p l e rX0_copyUnits s m args below meth c H locs 0 0 (MQ below (oQv G h0 h res A) args s 0 0 A) (F0 m 3 ls []) := by
  have hx := S.1
  have hb := S.2.1
  have hts := S.2.2.2.2
  have hown := S.2.2.2.1
  induction n with
  | zero => intro v6 σ H locs ls hg; rw [LX0_copyUnits_3] at hg; cases hg
  | succ n ih =>
    intro v6 σ H locs ls hg hI hl kk
    rw [LX0_copyUnits_3] at hg
    refine lv_iload hx hb dX0_copyUnits_3 (lv_at hl 6 rfl) ?_
    refine lv_iload_n hx hb dX0_copyUnits_5 rfl (lv_at hl 3 rfl) ?_
    refine lv_icmp_ge (tgt := 35) hx hb dX0_copyUnits_6 (by decide) (fun c1 => ?_) (fun c1 => ?_)
    · have hg := cIf_te c1 hg
      exact kk v6 σ H locs ls hg hI (lv_sub hl [0, 1, 2, 3, 4, 5, 6] rfl)
    · have hg := cIf_fe c1 hg
      refine lv_aload_n hx hb dX0_copyUnits_9 rfl (lv_at hl 0 rfl) ?_
      refine lv_iload hx hb dX0_copyUnits_10 (lv_at hl 4 rfl) ?_
      refine lv_iload hx hb dX0_copyUnits_12 (lv_at hl 5 rfl) ?_
      refine lv_iload hx hb dX0_copyUnits_14 (lv_at hl 6 rfl) ?_
      refine lv_iadd hx hb dX0_copyUnits_16 ?_
      refine lv_iload_n hx hb dX0_copyUnits_17 rfl (lv_at hl 2 rfl) ?_
      refine lv_isub hx hb dX0_copyUnits_18 ?_
      refine lv_aload_n hx hb dX0_copyUnits_19 rfl (lv_at hl 0 rfl) ?_
      refine lv_iload_n hx hb dX0_copyUnits_20 rfl (lv_at hl 1 rfl) ?_
      refine lv_iload hx hb dX0_copyUnits_21 (lv_at hl 6 rfl) ?_
      obtain ⟨r3, σ2, er3, hg⟩ := bnd_e hg
      refine oc_i S hK hA hI (As := [.int v1, .int v6]) (rest := [.int ((v5 + v6) - v2), .int v4, .ref h0]) (kX0_unitAt l G h0 h H.size F σ v1 v6  r3 σ2 er3) (cwV 2 hts gX0_copyUnits_X0_unitAt rfl rfl rfl nX0_unitAt ⟨Nat.le_of_ble_eq_true rfl, Nat.le_of_ble_eq_true rfl⟩) rfl hl.1 rfl (Nat.le_of_ble_eq_true rfl) dX0_copyUnits_23 ⟨Nat.le_refl _, Nat.le_refl _⟩ (fun H locs hI => ?_)
      obtain ⟨σ4, eσ4, hg⟩ := bnp_e hg
      refine oc_v S hK hA hI (As := [.int v4, .int ((v5 + v6) - v2), .int r3]) (rest := []) (kX0_putUnit l G h0 h H.size F σ2 v4 ((v5 + v6) - v2) r3  σ4 eσ4) (cwV 3 hts gX0_copyUnits_X0_putUnit rfl rfl rfl nX0_putUnit ⟨Nat.le_of_ble_eq_true rfl, Nat.le_of_ble_eq_true rfl⟩) rfl hl.1 rfl (Nat.le_of_ble_eq_true rfl) dX0_copyUnits_26 ⟨Nat.le_refl _, Nat.le_refl _⟩ (fun H locs hI => ?_)
      obtain ⟨x5, ex5, hg⟩ := nmd_e hg
      refine lv_iinc (v := x5) (lv' := [(6, .int x5), (0, .ref h0), (1, .int v1), (2, .int v2), (3, .int v3), (4, .int v4), (5, .int v5)]) hx hb dX0_copyUnits_29 hl (k := 6) rfl (by rw [ex5]; rfl) (by decide) rfl (fun ls hl => ?_)
      refine lv_goto (tgt := 3) hx hb dX0_copyUnits_32 (by decide) ?_
      exact ih x5 σ4 H locs ls hg hI (lv_sub hl [1, 2, 3, 4, 5, 6, 0] rfl) kk
set_option maxHeartbeats 4000000 in
set_option maxRecDepth 100000 in
theorem kX0_copyUnits (l : Launch) (G : gT) (h0 : Nat) (h : oH) (sz F : Nat) (σ : oS) (p1 : Int32) (p2 : Int32) (p3 : Int32) (p4 : Int32) (p5 : Int32) (σr : oS) (hg : fX0_copyUnits F σ p1 p2 p3 p4 p5 = some σr) : Met l yX0_copyUnits wsX0_copyUnits rX0_copyUnits (oPre G h0 h σ sz [.int p1, .int p2, .int p3, .int p4, .int p5]) (oQv G h0 h σr (oA G h0 h σ sz)) 0 0 (oA G h0 h σ sz) := by
  refine oMet (Qc := oQv G h0 h σr) (by decide +kernel) rfl rfl (Nat.le_of_ble_eq_true rfl) ?_
  intro p e s m args below meth c A S hr hlocks hK hA H locs hI ls hl
  have hl : lv_has ls 7 [(0, .ref h0), (1, .int p1), (2, .int p2), (3, .int p3), (4, .int p4), (5, .int p5)] := hl
  have hin : ∀ w ∈ wsX00, w ∈ wsX0_copyUnits := in_ws
  have hx := S.1
  have hb := S.2.1
  have hts := S.2.2.2.2
  have hown := S.2.2.2.1
  unfold fX0_copyUnits at hg
  refine lv_iload_n hx hb dX0_copyUnits_0 rfl (lv_at hl 2 rfl) ?_
  refine lv_istore (lv' := [(6, .int p2), (0, .ref h0), (1, .int p1), (2, .int p2), (3, .int p3), (4, .int p4), (5, .int p5)]) hx hb dX0_copyUnits_1 hl (by decide) rfl (fun ls hl => ?_)
  refine lX0_copyUnits_3 S hr hlocks hin hK hA p1 p2 p3 p4 p5 F p2 σ H locs ls hg hI (lv_sub hl [1, 2, 3, 4, 5, 6, 0] rfl) (fun w6 σ7 H locs ls hg hI hl => ?_)
  exact oe_v S hr hlocks hK hI hg dX0_copyUnits_35
-- OwnMemory.copyAllUnits
abbrev rX0_copyAllUnits : Room := { frames := 2, cells := 0, slots := 0, locals := 49 }
theorem nX0_copyAllUnits : yX0_copyAllUnits.cls = RX0 ∧ yX0_copyAllUnits.cls ≠ "java/lang/invoke/MethodHandle" ∧ yX0_copyAllUnits.cls ≠ "java/lang/invoke/VarHandle" ∧ (parseMethodDescriptor yX0_copyAllUnits.desc).map (fun d => d.parameters.length) = some 2 := by decide +kernel
noncomputable def LX0_copyAllUnits_17 (F : Nat) (K : Int32 → Int32 → Int32 → oS → Option oS) (v1 : Int32) (v2 : Int32) : Nat → Int32 → Int32 → Int32 → oS → Option oS
  | 0, _, _, _, _ => none
  | n + 1, v3, v4, v5, σ => cIf (v5 ≤ 0) (K v3 v4 v5 σ) (cIf (v4 ≤ 0) (K v3 v4 v5 σ) (cIf (4000 ≤ v4) (K v3 v4 v5 σ) (ck (vp_in (v4 - 1) 4000) (nmd (o_fp σ (v4 - 1).toNatClampNeg) (fun x7 => bnd (fX0_kindAt F σ x7) (fun r9 σ8 => cIf (r9 = 3) (ck (vp_in (x7 + 4) (o_lw σ8)) (nmd (o_fw σ8 (x7 + 4).toNatClampNeg) (fun x22 => ck (vp_in (v4 - 1) 4000) (nmd (o_s_fp σ8 (upd (o_fp σ8) (v4 - 1).toNatClampNeg x22)) (fun σ24 => ck (vp_in (x7 + 3) (o_lw σ24)) (nmd (o_fw σ24 (x7 + 3).toNatClampNeg) (fun x26 => ck (vp_in v4 4000) (nmd (o_s_fp σ24 (upd (o_fp σ24) v4.toNatClampNeg x26)) (fun σ28 => nmd (v4 + 1) (fun x29 => nmd (v5 + (-1)) (fun x30 => LX0_copyAllUnits_17 F K v1 v2 n v3 x29 x30 σ28))))))))))) (bnd (fX0_flatOf F σ8 x7) (fun r12 σ11 => bnd (fX0_lengthAt F σ11 x7) (fun r14 σ13 => bnp (fX0_copyUnits F σ13 r12 0 r14 v2 v3) (fun σ15 => bnd (fX0_lengthAt F σ15 x7) (fun r17 σ16 => nmd (v3 + r17) (fun x18 => nmd (v4 + (-1)) (fun x19 => nmd (v5 + (-1)) (fun x20 => LX0_copyAllUnits_17 F K v1 v2 n x18 x19 x20 σ16))))))))))))))
noncomputable def fX0_copyAllUnits (F : Nat) (σ : oS) (p1 : Int32) (p2 : Int32) : Option oS := ck (vp_in 0 4000) (nmd (o_s_fp σ (upd (o_fp σ) (0 : Int32).toNatClampNeg p1)) (fun σ2 => LX0_copyAllUnits_17 F (fun w31 w32 w33 σ34 => some σ34) p1 p2 F 0 1 8000 σ2))
set_option maxHeartbeats 4000000 in
set_option maxRecDepth 100000 in
theorem lX0_copyAllUnits_17 {p : Program} {l : Launch} {e : Env} {s : State} {m : MethodId} {args : Array Value} {below : List Frame} {meth : Method} {c : Code} {A : Nat → Prop} {G : gT} {h0 : Nat} {h : oH} {F : Nat} (S : CallFix p m c cX0_copyAllUnits 7 s args wsX0_copyAllUnits RX0) (hr : meth.sig.returnType = none) (hlocks : meth.locks = false) (hin : ∀ w ∈ wsX00, w ∈ wsX0_copyAllUnits) (hK : gK G s) (hA : ∀ q, s.heap.size ≤ q → A q) {K : Int32 → Int32 → Int32 → oS → Option oS} {res : oS} (v1 : Int32) (v2 : Int32) (n : Nat) : ∀ (v3 : Int32) (v4 : Int32) (v5 : Int32) (σ : oS) (H : Heap) (locs : List Loc) (ls : Array Slot), LX0_copyAllUnits_17 F K v1 v2 n v3 v4 v5 σ = some res → oI s A G h0 h σ H locs → lv_has ls 7 [(0, .ref h0), (1, .int v1), (2, .int v2), (3, .int v3), (4, .int v4), (5, .int v5)] → (∀ (v3 : Int32) (v4 : Int32) (v5 : Int32) (σ : oS) (H : Heap) (locs : List Loc) (ls : Array Slot), K v3 v4 v5 σ = some res → oI s A G h0 h σ H locs → lv_has ls 7 [(0, .ref h0), (1, .int v1), (2, .int v2), (3, .int v3), (4, .int v4), (5, .int v5)] → W p l e rX0_copyAllUnits s m args below meth c H locs 0 0 (MQ below (oQv G h0 h res A) args s 0 0 A) (F0 m 133 ls [])) → W p l e rX0_copyAllUnits s m args below meth c H locs 0 0 (MQ below (oQv G h0 h res A) args s 0 0 A) (F0 m 17 ls []) := by
  have hx := S.1
  have hb := S.2.1
  have hts := S.2.2.2.2
  have hown := S.2.2.2.1
  induction n with
  | zero => intro v3 v4 v5 σ H locs ls hg; rw [LX0_copyAllUnits_17] at hg; cases hg
  | succ n ih =>
    intro v3 v4 v5 σ H locs ls hg hI hl kk
    rw [LX0_copyAllUnits_17] at hg
    refine lv_iload hx hb dX0_copyAllUnits_17 (lv_at hl 5 rfl) ?_
    refine lv_if_le (tgt := 133) hx hb dX0_copyAllUnits_19 (by decide) (fun c3 => ?_) (fun c3 => ?_)
    · have hg := cIf_te c3 hg
      exact kk v3 v4 v5 σ H locs ls hg hI (lv_sub hl [0, 1, 2, 3, 4, 5] rfl)
    · have hg := cIf_fe c3 hg
      refine lv_iload hx hb dX0_copyAllUnits_22 (lv_at hl 4 rfl) ?_
      refine lv_if_le (tgt := 133) hx hb dX0_copyAllUnits_24 (by decide) (fun c4 => ?_) (fun c4 => ?_)
      · have hg := cIf_te c4 hg
        exact kk v3 v4 v5 σ H locs ls hg hI (lv_sub hl [0, 1, 2, 3, 4, 5] rfl)
      · have hg := cIf_fe c4 hg
        refine lv_iload hx hb dX0_copyAllUnits_27 (lv_at hl 4 rfl) ?_
        refine lv_sipush (v := 4000) hx hb dX0_copyAllUnits_29 (by decide) ?_
        refine lv_icmp_ge (tgt := 133) hx hb dX0_copyAllUnits_32 (by decide) (fun c5 => ?_) (fun c5 => ?_)
        · have hg := cIf_te c5 hg
          exact kk v3 v4 v5 σ H locs ls hg hI (lv_sub hl [0, 1, 2, 3, 4, 5] rfl)
        · have hg := cIf_fe c5 hg
          refine lv_aload_n hx hb dX0_copyAllUnits_35 rfl (lv_at hl 0 rfl) ?_
          refine og_pending S hin hK hI (ix := 45) (by decide +kernel) dX0_copyAllUnits_36 ?_
          refine lv_iload hx hb dX0_copyAllUnits_39 (lv_at hl 4 rfl) ?_
          refine lv_iconst (v := 1) hx hb dX0_copyAllUnits_41 (by decide) ?_
          refine lv_isub hx hb dX0_copyAllUnits_42 ?_
          obtain ⟨c6, hg⟩ := ck_e hg
          obtain ⟨x7, ex7, hg⟩ := nmd_e hg
          refine or_pending S hK hI c6 ex7 dX0_copyAllUnits_43 ?_
          refine lv_istore (lv' := [(6, .int x7), (0, .ref h0), (1, .int v1), (2, .int v2), (3, .int v3), (4, .int v4), (5, .int v5)]) hx hb dX0_copyAllUnits_44 hl (by decide) rfl (fun ls hl => ?_)
          refine lv_aload_n hx hb dX0_copyAllUnits_46 rfl (lv_at hl 1 rfl) ?_
          refine lv_iload hx hb dX0_copyAllUnits_47 (lv_at hl 0 rfl) ?_
          obtain ⟨r9, σ8, er9, hg⟩ := bnd_e hg
          refine oc_i S hK hA hI (As := [.int x7]) (rest := []) (kX0_kindAt l G h0 h H.size F σ x7  r9 σ8 er9) (cwV 1 hts gX0_copyAllUnits_X0_kindAt rfl rfl rfl nX0_kindAt ⟨Nat.le_of_ble_eq_true rfl, Nat.le_of_ble_eq_true rfl⟩) rfl hl.1 rfl (Nat.le_of_ble_eq_true rfl) dX0_copyAllUnits_49 ⟨Nat.le_refl _, Nat.le_refl _⟩ (fun H locs hI => ?_)
          refine lv_iconst (v := 3) hx hb dX0_copyAllUnits_52 (by decide) ?_
          refine lv_icmp_ne (tgt := 96) hx hb dX0_copyAllUnits_53 (by decide) (fun c10 => ?_) (fun c10 => ?_)
          · have hg := cIf_fe c10 hg
            refine lv_aload_n hx hb dX0_copyAllUnits_96 rfl (lv_at hl 1 rfl) ?_
            refine lv_aload_n hx hb dX0_copyAllUnits_97 rfl (lv_at hl 1 rfl) ?_
            refine lv_iload hx hb dX0_copyAllUnits_98 (lv_at hl 0 rfl) ?_
            obtain ⟨r12, σ11, er12, hg⟩ := bnd_e hg
            refine oc_i S hK hA hI (As := [.int x7]) (rest := [.ref h0]) (kX0_flatOf l G h0 h H.size F σ8 x7  r12 σ11 er12) (cwV 1 hts gX0_copyAllUnits_X0_flatOf rfl rfl rfl nX0_flatOf ⟨Nat.le_of_ble_eq_true rfl, Nat.le_of_ble_eq_true rfl⟩) rfl hl.1 rfl (Nat.le_of_ble_eq_true rfl) dX0_copyAllUnits_100 ⟨Nat.le_refl _, Nat.le_refl _⟩ (fun H locs hI => ?_)
            refine lv_iconst (v := 0) hx hb dX0_copyAllUnits_103 (by decide) ?_
            refine lv_aload_n hx hb dX0_copyAllUnits_104 rfl (lv_at hl 1 rfl) ?_
            refine lv_iload hx hb dX0_copyAllUnits_105 (lv_at hl 0 rfl) ?_
            obtain ⟨r14, σ13, er14, hg⟩ := bnd_e hg
            refine oc_i S hK hA hI (As := [.int x7]) (rest := [.int 0, .int r12, .ref h0]) (kX0_lengthAt l G h0 h H.size F σ11 x7  r14 σ13 er14) (cwV 1 hts gX0_copyAllUnits_X0_lengthAt rfl rfl rfl nX0_lengthAt ⟨Nat.le_of_ble_eq_true rfl, Nat.le_of_ble_eq_true rfl⟩) rfl hl.1 rfl (Nat.le_of_ble_eq_true rfl) dX0_copyAllUnits_107 ⟨Nat.le_refl _, Nat.le_refl _⟩ (fun H locs hI => ?_)
            refine lv_iload_n hx hb dX0_copyAllUnits_110 rfl (lv_at hl 3 rfl) ?_
            refine lv_iload_n hx hb dX0_copyAllUnits_111 rfl (lv_at hl 4 rfl) ?_
            obtain ⟨σ15, eσ15, hg⟩ := bnp_e hg
            refine oc_v S hK hA hI (As := [.int r12, .int 0, .int r14, .int v2, .int v3]) (rest := []) (kX0_copyUnits l G h0 h H.size F σ13 r12 0 r14 v2 v3  σ15 eσ15) (cwV 5 hts gX0_copyAllUnits_X0_copyUnits rfl rfl rfl nX0_copyUnits ⟨Nat.le_of_ble_eq_true rfl, Nat.le_of_ble_eq_true rfl⟩) rfl hl.1 rfl (Nat.le_of_ble_eq_true rfl) dX0_copyAllUnits_112 ⟨Nat.le_refl _, Nat.le_refl _⟩ (fun H locs hI => ?_)
            refine lv_iload_n hx hb dX0_copyAllUnits_115 rfl (lv_at hl 4 rfl) ?_
            refine lv_aload_n hx hb dX0_copyAllUnits_116 rfl (lv_at hl 1 rfl) ?_
            refine lv_iload hx hb dX0_copyAllUnits_117 (lv_at hl 0 rfl) ?_
            obtain ⟨r17, σ16, er17, hg⟩ := bnd_e hg
            refine oc_i S hK hA hI (As := [.int x7]) (rest := [.int v3]) (kX0_lengthAt l G h0 h H.size F σ15 x7  r17 σ16 er17) (cwV 1 hts gX0_copyAllUnits_X0_lengthAt rfl rfl rfl nX0_lengthAt ⟨Nat.le_of_ble_eq_true rfl, Nat.le_of_ble_eq_true rfl⟩) rfl hl.1 rfl (Nat.le_of_ble_eq_true rfl) dX0_copyAllUnits_119 ⟨Nat.le_refl _, Nat.le_refl _⟩ (fun H locs hI => ?_)
            refine lv_iadd hx hb dX0_copyAllUnits_122 ?_
            obtain ⟨x18, ex18, hg⟩ := nmd_e hg
            refine wn_i ex18 ?_
            refine lv_istore_n (lv' := [(3, .int x18), (6, .int x7), (0, .ref h0), (1, .int v1), (2, .int v2), (4, .int v4), (5, .int v5)]) hx hb dX0_copyAllUnits_123 rfl hl (by decide) rfl (fun ls hl => ?_)
            obtain ⟨x19, ex19, hg⟩ := nmd_e hg
            refine lv_iinc (v := x19) (lv' := [(4, .int x19), (3, .int x18), (6, .int x7), (0, .ref h0), (1, .int v1), (2, .int v2), (5, .int v5)]) hx hb dX0_copyAllUnits_124 hl (k := 5) rfl (by rw [ex19]; rfl) (by decide) rfl (fun ls hl => ?_)
            obtain ⟨x20, ex20, hg⟩ := nmd_e hg
            refine lv_iinc (v := x20) (lv' := [(5, .int x20), (4, .int x19), (3, .int x18), (6, .int x7), (0, .ref h0), (1, .int v1), (2, .int v2)]) hx hb dX0_copyAllUnits_127 hl (k := 6) rfl (by rw [ex20]; rfl) (by decide) rfl (fun ls hl => ?_)
            refine lv_goto (tgt := 17) hx hb dX0_copyAllUnits_130 (by decide) ?_
            exact ih x18 x19 x20 σ16 H locs ls hg hI (lv_sub hl [4, 5, 6, 2, 1, 0] rfl) kk
          · have hg := cIf_te c10 hg
            refine lv_aload_n hx hb dX0_copyAllUnits_56 rfl (lv_at hl 1 rfl) ?_
            refine og_pending S hin hK hI (ix := 45) (by decide +kernel) dX0_copyAllUnits_57 ?_
            refine lv_iload hx hb dX0_copyAllUnits_60 (lv_at hl 5 rfl) ?_
            refine lv_iconst (v := 1) hx hb dX0_copyAllUnits_62 (by decide) ?_
            refine lv_isub hx hb dX0_copyAllUnits_63 ?_
            refine lv_aload_n hx hb dX0_copyAllUnits_64 rfl (lv_at hl 1 rfl) ?_
            refine og_words S hin hK hI (ix := 23) (by decide +kernel) dX0_copyAllUnits_65 ?_
            refine lv_iload hx hb dX0_copyAllUnits_68 (lv_at hl 0 rfl) ?_
            refine lv_iconst (v := 4) hx hb dX0_copyAllUnits_70 (by decide) ?_
            refine lv_iadd hx hb dX0_copyAllUnits_71 ?_
            obtain ⟨c21, hg⟩ := ck_e hg
            obtain ⟨x22, ex22, hg⟩ := nmd_e hg
            refine or_words S hK hI c21 ex22 dX0_copyAllUnits_72 ?_
            obtain ⟨c23, hg⟩ := ck_e hg
            obtain ⟨σ24, eσ24, hg⟩ := nmd_e hg
            refine ou_pending S hK hI c23 eσ24 dX0_copyAllUnits_73 (fun H locs hI => ?_)
            refine lv_aload_n hx hb dX0_copyAllUnits_74 rfl (lv_at hl 1 rfl) ?_
            refine og_pending S hin hK hI (ix := 45) (by decide +kernel) dX0_copyAllUnits_75 ?_
            refine lv_iload hx hb dX0_copyAllUnits_78 (lv_at hl 5 rfl) ?_
            refine lv_aload_n hx hb dX0_copyAllUnits_80 rfl (lv_at hl 1 rfl) ?_
            refine og_words S hin hK hI (ix := 23) (by decide +kernel) dX0_copyAllUnits_81 ?_
            refine lv_iload hx hb dX0_copyAllUnits_84 (lv_at hl 0 rfl) ?_
            refine lv_iconst (v := 3) hx hb dX0_copyAllUnits_86 (by decide) ?_
            refine lv_iadd hx hb dX0_copyAllUnits_87 ?_
            obtain ⟨c25, hg⟩ := ck_e hg
            obtain ⟨x26, ex26, hg⟩ := nmd_e hg
            refine or_words S hK hI c25 ex26 dX0_copyAllUnits_88 ?_
            obtain ⟨c27, hg⟩ := ck_e hg
            obtain ⟨σ28, eσ28, hg⟩ := nmd_e hg
            refine ou_pending S hK hI c27 eσ28 dX0_copyAllUnits_89 (fun H locs hI => ?_)
            obtain ⟨x29, ex29, hg⟩ := nmd_e hg
            refine lv_iinc (v := x29) (lv' := [(4, .int x29), (6, .int x7), (0, .ref h0), (1, .int v1), (2, .int v2), (3, .int v3), (5, .int v5)]) hx hb dX0_copyAllUnits_90 hl (k := 5) rfl (by rw [ex29]; rfl) (by decide) rfl (fun ls hl => ?_)
            refine lv_goto (tgt := 127) hx hb dX0_copyAllUnits_93 (by decide) ?_
            obtain ⟨x30, ex30, hg⟩ := nmd_e hg
            refine lv_iinc (v := x30) (lv' := [(5, .int x30), (4, .int x29), (6, .int x7), (0, .ref h0), (1, .int v1), (2, .int v2), (3, .int v3)]) hx hb dX0_copyAllUnits_127 hl (k := 6) rfl (by rw [ex30]; rfl) (by decide) rfl (fun ls hl => ?_)
            refine lv_goto (tgt := 17) hx hb dX0_copyAllUnits_130 (by decide) ?_
            exact ih v3 x29 x30 σ28 H locs ls hg hI (lv_sub hl [3, 4, 5, 6, 1, 0] rfl) kk
set_option maxHeartbeats 4000000 in
set_option maxRecDepth 100000 in
theorem kX0_copyAllUnits (l : Launch) (G : gT) (h0 : Nat) (h : oH) (sz F : Nat) (σ : oS) (p1 : Int32) (p2 : Int32) (σr : oS) (hg : fX0_copyAllUnits F σ p1 p2 = some σr) : Met l yX0_copyAllUnits wsX0_copyAllUnits rX0_copyAllUnits (oPre G h0 h σ sz [.int p1, .int p2]) (oQv G h0 h σr (oA G h0 h σ sz)) 0 0 (oA G h0 h σ sz) := by
  refine oMet (Qc := oQv G h0 h σr) (by decide +kernel) rfl rfl (Nat.le_of_ble_eq_true rfl) ?_
  intro p e s m args below meth c A S hr hlocks hK hA H locs hI ls hl
  have hl : lv_has ls 7 [(0, .ref h0), (1, .int p1), (2, .int p2)] := hl
  have hin : ∀ w ∈ wsX00, w ∈ wsX0_copyAllUnits := by decide +kernel
  have hx := S.1
  have hb := S.2.1
  have hts := S.2.2.2.2
  have hown := S.2.2.2.1
  unfold fX0_copyAllUnits at hg
  refine lv_iconst (v := 0) hx hb dX0_copyAllUnits_0 (by decide) ?_
  refine lv_istore_n (lv' := [(3, .int 0), (0, .ref h0), (1, .int p1), (2, .int p2)]) hx hb dX0_copyAllUnits_1 rfl hl (by decide) rfl (fun ls hl => ?_)
  refine lv_iconst (v := 1) hx hb dX0_copyAllUnits_2 (by decide) ?_
  refine lv_istore (lv' := [(4, .int 1), (3, .int 0), (0, .ref h0), (1, .int p1), (2, .int p2)]) hx hb dX0_copyAllUnits_3 hl (by decide) rfl (fun ls hl => ?_)
  refine lv_aload_n hx hb dX0_copyAllUnits_5 rfl (lv_at hl 2 rfl) ?_
  refine og_pending S hin hK hI (ix := 45) (by decide +kernel) dX0_copyAllUnits_6 ?_
  refine lv_iconst (v := 0) hx hb dX0_copyAllUnits_9 (by decide) ?_
  refine lv_iload_n hx hb dX0_copyAllUnits_10 rfl (lv_at hl 3 rfl) ?_
  obtain ⟨c1, hg⟩ := ck_e hg
  obtain ⟨σ2, eσ2, hg⟩ := nmd_e hg
  refine ou_pending S hK hI c1 eσ2 dX0_copyAllUnits_11 (fun H locs hI => ?_)
  refine lv_sipush (v := 8000) hx hb dX0_copyAllUnits_12 (by decide) ?_
  refine lv_istore (lv' := [(5, .int 8000), (4, .int 1), (3, .int 0), (0, .ref h0), (1, .int p1), (2, .int p2)]) hx hb dX0_copyAllUnits_15 hl (by decide) rfl (fun ls hl => ?_)
  refine lX0_copyAllUnits_17 S hr hlocks hin hK hA p1 p2 F 0 1 8000 σ2 H locs ls hg hI (lv_sub hl [3, 4, 5, 2, 1, 0] rfl) (fun w31 w32 w33 σ34 H locs ls hg hI hl => ?_)
  exact oe_v S hr hlocks hK hI hg dX0_copyAllUnits_133
-- OwnMemory.hasSameUnits
abbrev rX0_hasSameUnits : Room := { frames := 2, cells := 0, slots := 0, locals := 42 }
theorem nX0_hasSameUnits : yX0_hasSameUnits.cls = RX0 ∧ yX0_hasSameUnits.cls ≠ "java/lang/invoke/MethodHandle" ∧ yX0_hasSameUnits.cls ≠ "java/lang/invoke/VarHandle" ∧ (parseMethodDescriptor yX0_hasSameUnits.desc).map (fun d => d.parameters.length) = some 2 := by decide +kernel
noncomputable def LX0_hasSameUnits_24 (F : Nat) (K : Int32 → oS → Option (Int32 × oS)) (v1 : Int32) (v2 : Int32) (v3 : Int32) : Nat → Int32 → oS → Option (Int32 × oS)
  | 0, _, _ => none
  | n + 1, v4, σ => cIf (v3 ≤ v4) (K v4 σ) (ck (vp_in (v1 + v4) (o_lw σ)) (nmd (o_fw σ (v1 + v4).toNatClampNeg) (fun x10 => ck (vp_in (v2 + v4) (o_lw σ)) (nmd (o_fw σ (v2 + v4).toNatClampNeg) (fun x12 => cIf (x10 = x12) (nmd (v4 + 1) (fun x14 => LX0_hasSameUnits_24 F K v1 v2 v3 n x14 σ)) (some (0, σ)))))))
noncomputable def fX0_hasSameUnits (F : Nat) (σ : oS) (p1 : Int32) (p2 : Int32) : Option (Int32 × oS) := bnd (fX0_lengthAt F σ p1) (fun r2 σ1 => bnd (fX0_lengthAt F σ1 p2) (fun r4 σ3 => cIf (r2 = r4) (bnd (fX0_sizeAt F σ3 p1) (fun r7 σ6 => LX0_hasSameUnits_24 F (fun w15 σ16 => some (1, σ16)) p1 p2 r7 F 4 σ6)) (some (0, σ3))))
set_option maxHeartbeats 4000000 in
set_option maxRecDepth 100000 in
theorem lX0_hasSameUnits_24 {p : Program} {l : Launch} {e : Env} {s : State} {m : MethodId} {args : Array Value} {below : List Frame} {meth : Method} {c : Code} {A : Nat → Prop} {G : gT} {h0 : Nat} {h : oH} {F : Nat} (S : CallFix p m c cX0_hasSameUnits 5 s args wsX0_hasSameUnits RX0) (hr : meth.sig.returnType = some .boolean) (hlocks : meth.locks = false) (hin : ∀ w ∈ wsX00, w ∈ wsX0_hasSameUnits) (hK : gK G s) (hA : ∀ q, s.heap.size ≤ q → A q) {K : Int32 → oS → Option (Int32 × oS)} {res : (Int32 × oS)} (v1 : Int32) (v2 : Int32) (v3 : Int32) (n : Nat) : ∀ (v4 : Int32) (σ : oS) (H : Heap) (locs : List Loc) (ls : Array Slot), LX0_hasSameUnits_24 F K v1 v2 v3 n v4 σ = some res → oI s A G h0 h σ H locs → lv_has ls 5 [(0, .ref h0), (1, .int v1), (2, .int v2), (3, .int v3), (4, .int v4)] → (∀ (v4 : Int32) (σ : oS) (H : Heap) (locs : List Loc) (ls : Array Slot), K v4 σ = some res → oI s A G h0 h σ H locs → lv_has ls 5 [(0, .ref h0), (1, .int v1), (2, .int v2), (3, .int v3), (4, .int v4)] → W p l e rX0_hasSameUnits s m args below meth c H locs 0 0 (MQ below (oQi G h0 h res.1 res.2 A) args s 0 0 A) (F0 m 59 ls [])) → W p l e rX0_hasSameUnits s m args below meth c H locs 0 0 (MQ below (oQi G h0 h res.1 res.2 A) args s 0 0 A) (F0 m 24 ls []) := by
  have hx := S.1
  have hb := S.2.1
  have hts := S.2.2.2.2
  have hown := S.2.2.2.1
  induction n with
  | zero => intro v4 σ H locs ls hg; rw [LX0_hasSameUnits_24] at hg; cases hg
  | succ n ih =>
    intro v4 σ H locs ls hg hI hl kk
    rw [LX0_hasSameUnits_24] at hg
    refine lv_iload hx hb dX0_hasSameUnits_24 (lv_at hl 4 rfl) ?_
    refine lv_iload_n hx hb dX0_hasSameUnits_26 rfl (lv_at hl 3 rfl) ?_
    refine lv_icmp_ge (tgt := 59) hx hb dX0_hasSameUnits_27 (by decide) (fun c8 => ?_) (fun c8 => ?_)
    · have hg := cIf_te c8 hg
      exact kk v4 σ H locs ls hg hI (lv_sub hl [0, 1, 2, 3, 4] rfl)
    · have hg := cIf_fe c8 hg
      refine lv_aload_n hx hb dX0_hasSameUnits_30 rfl (lv_at hl 0 rfl) ?_
      refine og_words S hin hK hI (ix := 23) (by decide +kernel) dX0_hasSameUnits_31 ?_
      refine lv_iload_n hx hb dX0_hasSameUnits_34 rfl (lv_at hl 1 rfl) ?_
      refine lv_iload hx hb dX0_hasSameUnits_35 (lv_at hl 4 rfl) ?_
      refine lv_iadd hx hb dX0_hasSameUnits_37 ?_
      obtain ⟨c9, hg⟩ := ck_e hg
      obtain ⟨x10, ex10, hg⟩ := nmd_e hg
      refine or_words S hK hI c9 ex10 dX0_hasSameUnits_38 ?_
      refine lv_aload_n hx hb dX0_hasSameUnits_39 rfl (lv_at hl 0 rfl) ?_
      refine og_words S hin hK hI (ix := 23) (by decide +kernel) dX0_hasSameUnits_40 ?_
      refine lv_iload_n hx hb dX0_hasSameUnits_43 rfl (lv_at hl 2 rfl) ?_
      refine lv_iload hx hb dX0_hasSameUnits_44 (lv_at hl 4 rfl) ?_
      refine lv_iadd hx hb dX0_hasSameUnits_46 ?_
      obtain ⟨c11, hg⟩ := ck_e hg
      obtain ⟨x12, ex12, hg⟩ := nmd_e hg
      refine or_words S hK hI c11 ex12 dX0_hasSameUnits_47 ?_
      refine lv_icmp_eq (tgt := 53) hx hb dX0_hasSameUnits_48 (by decide) (fun c13 => ?_) (fun c13 => ?_)
      · have hg := cIf_te c13 hg
        obtain ⟨x14, ex14, hg⟩ := nmd_e hg
        refine lv_iinc (v := x14) (lv' := [(4, .int x14), (0, .ref h0), (1, .int v1), (2, .int v2), (3, .int v3)]) hx hb dX0_hasSameUnits_53 hl (k := 4) rfl (by rw [ex14]; rfl) (by decide) rfl (fun ls hl => ?_)
        refine lv_goto (tgt := 24) hx hb dX0_hasSameUnits_56 (by decide) ?_
        exact ih x14 σ H locs ls hg hI (lv_sub hl [1, 2, 3, 4, 0] rfl) kk
      · have hg := cIf_fe c13 hg
        refine lv_iconst (v := 0) hx hb dX0_hasSameUnits_51 (by decide) ?_
        exact oe_z S hr hlocks hK hI rfl hg dX0_hasSameUnits_52
set_option maxHeartbeats 4000000 in
set_option maxRecDepth 100000 in
theorem kX0_hasSameUnits (l : Launch) (G : gT) (h0 : Nat) (h : oH) (sz F : Nat) (σ : oS) (p1 : Int32) (p2 : Int32) (r : Int32) (σr : oS) (hg : fX0_hasSameUnits F σ p1 p2 = some (r, σr)) : Met l yX0_hasSameUnits wsX0_hasSameUnits rX0_hasSameUnits (oPre G h0 h σ sz [.int p1, .int p2]) (oQi G h0 h r σr (oA G h0 h σ sz)) 0 0 (oA G h0 h σ sz) := by
  refine oMet (Qc := oQi G h0 h r σr) (by decide +kernel) rfl rfl (Nat.le_of_ble_eq_true rfl) ?_
  intro p e s m args below meth c A S hr hlocks hK hA H locs hI ls hl
  have hl : lv_has ls 5 [(0, .ref h0), (1, .int p1), (2, .int p2)] := hl
  have hin : ∀ w ∈ wsX00, w ∈ wsX0_hasSameUnits := in_ws
  have hx := S.1
  have hb := S.2.1
  have hts := S.2.2.2.2
  have hown := S.2.2.2.1
  unfold fX0_hasSameUnits at hg
  refine lv_aload_n hx hb dX0_hasSameUnits_0 rfl (lv_at hl 0 rfl) ?_
  refine lv_iload_n hx hb dX0_hasSameUnits_1 rfl (lv_at hl 1 rfl) ?_
  obtain ⟨r2, σ1, er2, hg⟩ := bnd_e hg
  refine oc_i S hK hA hI (As := [.int p1]) (rest := []) (kX0_lengthAt l G h0 h H.size F σ p1  r2 σ1 er2) (cwV 1 hts gX0_hasSameUnits_X0_lengthAt rfl rfl rfl nX0_lengthAt ⟨Nat.le_of_ble_eq_true rfl, Nat.le_of_ble_eq_true rfl⟩) rfl hl.1 rfl (Nat.le_of_ble_eq_true rfl) dX0_hasSameUnits_2 ⟨Nat.le_refl _, Nat.le_refl _⟩ (fun H locs hI => ?_)
  refine lv_aload_n hx hb dX0_hasSameUnits_5 rfl (lv_at hl 0 rfl) ?_
  refine lv_iload_n hx hb dX0_hasSameUnits_6 rfl (lv_at hl 2 rfl) ?_
  obtain ⟨r4, σ3, er4, hg⟩ := bnd_e hg
  refine oc_i S hK hA hI (As := [.int p2]) (rest := [.int r2]) (kX0_lengthAt l G h0 h H.size F σ1 p2  r4 σ3 er4) (cwV 1 hts gX0_hasSameUnits_X0_lengthAt rfl rfl rfl nX0_lengthAt ⟨Nat.le_of_ble_eq_true rfl, Nat.le_of_ble_eq_true rfl⟩) rfl hl.1 rfl (Nat.le_of_ble_eq_true rfl) dX0_hasSameUnits_7 ⟨Nat.le_refl _, Nat.le_refl _⟩ (fun H locs hI => ?_)
  refine lv_icmp_eq (tgt := 15) hx hb dX0_hasSameUnits_10 (by decide) (fun c5 => ?_) (fun c5 => ?_)
  · have hg := cIf_te c5 hg
    refine lv_aload_n hx hb dX0_hasSameUnits_15 rfl (lv_at hl 0 rfl) ?_
    refine lv_iload_n hx hb dX0_hasSameUnits_16 rfl (lv_at hl 1 rfl) ?_
    obtain ⟨r7, σ6, er7, hg⟩ := bnd_e hg
    refine oc_i S hK hA hI (As := [.int p1]) (rest := []) (kX0_sizeAt l G h0 h H.size F σ3 p1  r7 σ6 er7) (cwV 1 hts gX0_hasSameUnits_X0_sizeAt rfl rfl rfl nX0_sizeAt ⟨Nat.le_of_ble_eq_true rfl, Nat.le_of_ble_eq_true rfl⟩) rfl hl.1 rfl (Nat.le_of_ble_eq_true rfl) dX0_hasSameUnits_17 ⟨Nat.le_refl _, Nat.le_refl _⟩ (fun H locs hI => ?_)
    refine lv_istore_n (lv' := [(3, .int r7), (0, .ref h0), (1, .int p1), (2, .int p2)]) hx hb dX0_hasSameUnits_20 rfl hl (by decide) rfl (fun ls hl => ?_)
    refine lv_iconst (v := 4) hx hb dX0_hasSameUnits_21 (by decide) ?_
    refine lv_istore (lv' := [(4, .int 4), (3, .int r7), (0, .ref h0), (1, .int p1), (2, .int p2)]) hx hb dX0_hasSameUnits_22 hl (by decide) rfl (fun ls hl => ?_)
    refine lX0_hasSameUnits_24 S hr hlocks hin hK hA p1 p2 r7 F 4 σ6 H locs ls hg hI (lv_sub hl [2, 3, 4, 1, 0] rfl) (fun w15 σ16 H locs ls hg hI hl => ?_)
    refine lv_iconst (v := 1) hx hb dX0_hasSameUnits_59 (by decide) ?_
    exact oe_z S hr hlocks hK hI rfl hg dX0_hasSameUnits_60
  · have hg := cIf_fe c5 hg
    refine lv_iconst (v := 0) hx hb dX0_hasSameUnits_13 (by decide) ?_
    exact oe_z S hr hlocks hK hI rfl hg dX0_hasSameUnits_14
-- OwnMemory.findName
abbrev rX0_findName : Room := { frames := 3, cells := 0, slots := 0, locals := 66 }
theorem nX0_findName : yX0_findName.cls = RX0 ∧ yX0_findName.cls ≠ "java/lang/invoke/MethodHandle" ∧ yX0_findName.cls ≠ "java/lang/invoke/VarHandle" ∧ (parseMethodDescriptor yX0_findName.desc).map (fun d => d.parameters.length) = some 1 := by decide +kernel
noncomputable def LX0_findName_2 (F : Nat) (K : Int32 → oS → Option (Int32 × oS)) (v1 : Int32) : Nat → Int32 → oS → Option (Int32 × oS)
  | 0, _, _ => none
  | n + 1, v2, σ => cIf ((o_nc σ) ≤ v2) (K v2 σ) (ck (vp_in v2 (o_ln σ)) (nmd (o_fn σ v2.toNatClampNeg) (fun x3 => bnd (fX0_hasSameUnits F σ x3 v1) (fun r5 σ4 => cIf (r5 = 0) (nmd (v2 + 1) (fun x7 => LX0_findName_2 F K v1 n x7 σ4)) (ck (vp_in v2 (o_ln σ4)) (nmd (o_fn σ4 v2.toNatClampNeg) (fun x9 => some (x9, σ4))))))))
noncomputable def fX0_findName (F : Nat) (σ : oS) (p1 : Int32) : Option (Int32 × oS) := LX0_findName_2 F (fun w10 σ11 => some ((-1), σ11)) p1 F 0 σ
set_option maxHeartbeats 4000000 in
set_option maxRecDepth 100000 in
theorem lX0_findName_2 {p : Program} {l : Launch} {e : Env} {s : State} {m : MethodId} {args : Array Value} {below : List Frame} {meth : Method} {c : Code} {A : Nat → Prop} {G : gT} {h0 : Nat} {h : oH} {F : Nat} (S : CallFix p m c cX0_findName 3 s args wsX0_findName RX0) (hr : meth.sig.returnType = some .int) (hlocks : meth.locks = false) (hin : ∀ w ∈ wsX00, w ∈ wsX0_findName) (hK : gK G s) (hA : ∀ q, s.heap.size ≤ q → A q) {K : Int32 → oS → Option (Int32 × oS)} {res : (Int32 × oS)} (v1 : Int32) (n : Nat) : ∀ (v2 : Int32) (σ : oS) (H : Heap) (locs : List Loc) (ls : Array Slot), LX0_findName_2 F K v1 n v2 σ = some res → oI s A G h0 h σ H locs → lv_has ls 3 [(0, .ref h0), (1, .int v1), (2, .int v2)] → (∀ (v2 : Int32) (σ : oS) (H : Heap) (locs : List Loc) (ls : Array Slot), K v2 σ = some res → oI s A G h0 h σ H locs → lv_has ls 3 [(0, .ref h0), (1, .int v1), (2, .int v2)] → W p l e rX0_findName s m args below meth c H locs 0 0 (MQ below (oQi G h0 h res.1 res.2 A) args s 0 0 A) (F0 m 37 ls [])) → W p l e rX0_findName s m args below meth c H locs 0 0 (MQ below (oQi G h0 h res.1 res.2 A) args s 0 0 A) (F0 m 2 ls []) := by
  have hx := S.1
  have hb := S.2.1
  have hts := S.2.2.2.2
  have hown := S.2.2.2.1
  induction n with
  | zero => intro v2 σ H locs ls hg; rw [LX0_findName_2] at hg; cases hg
  | succ n ih =>
    intro v2 σ H locs ls hg hI hl kk
    rw [LX0_findName_2] at hg
    refine lv_iload_n hx hb dX0_findName_2 rfl (lv_at hl 2 rfl) ?_
    refine lv_aload_n hx hb dX0_findName_3 rfl (lv_at hl 0 rfl) ?_
    refine og_nameCount S hin hK hI (ix := 42) (by decide +kernel) dX0_findName_4 ?_
    refine lv_icmp_ge (tgt := 37) hx hb dX0_findName_7 (by decide) (fun c1 => ?_) (fun c1 => ?_)
    · have hg := cIf_te c1 hg
      exact kk v2 σ H locs ls hg hI (lv_sub hl [0, 1, 2] rfl)
    · have hg := cIf_fe c1 hg
      refine lv_aload_n hx hb dX0_findName_10 rfl (lv_at hl 0 rfl) ?_
      refine lv_aload_n hx hb dX0_findName_11 rfl (lv_at hl 0 rfl) ?_
      refine og_names S hin hK hI (ix := 39) (by decide +kernel) dX0_findName_12 ?_
      refine lv_iload_n hx hb dX0_findName_15 rfl (lv_at hl 2 rfl) ?_
      obtain ⟨c2, hg⟩ := ck_e hg
      obtain ⟨x3, ex3, hg⟩ := nmd_e hg
      refine or_names S hK hI c2 ex3 dX0_findName_16 ?_
      refine lv_iload_n hx hb dX0_findName_17 rfl (lv_at hl 1 rfl) ?_
      obtain ⟨r5, σ4, er5, hg⟩ := bnd_e hg
      refine oc_i S hK hA hI (As := [.int x3, .int v1]) (rest := []) (kX0_hasSameUnits l G h0 h H.size F σ x3 v1  r5 σ4 er5) (cwV 2 hts gX0_findName_X0_hasSameUnits rfl rfl rfl nX0_hasSameUnits ⟨Nat.le_of_ble_eq_true rfl, Nat.le_of_ble_eq_true rfl⟩) rfl hl.1 rfl (Nat.le_of_ble_eq_true rfl) dX0_findName_18 ⟨Nat.le_refl _, Nat.le_refl _⟩ (fun H locs hI => ?_)
      refine lv_if_eq (tgt := 31) hx hb dX0_findName_21 (by decide) (fun c6 => ?_) (fun c6 => ?_)
      · have hg := cIf_te c6 hg
        obtain ⟨x7, ex7, hg⟩ := nmd_e hg
        refine lv_iinc (v := x7) (lv' := [(2, .int x7), (0, .ref h0), (1, .int v1)]) hx hb dX0_findName_31 hl (k := 2) rfl (by rw [ex7]; rfl) (by decide) rfl (fun ls hl => ?_)
        refine lv_goto (tgt := 2) hx hb dX0_findName_34 (by decide) ?_
        exact ih x7 σ4 H locs ls hg hI (lv_sub hl [1, 2, 0] rfl) kk
      · have hg := cIf_fe c6 hg
        refine lv_aload_n hx hb dX0_findName_24 rfl (lv_at hl 0 rfl) ?_
        refine og_names S hin hK hI (ix := 39) (by decide +kernel) dX0_findName_25 ?_
        refine lv_iload_n hx hb dX0_findName_28 rfl (lv_at hl 2 rfl) ?_
        obtain ⟨c8, hg⟩ := ck_e hg
        obtain ⟨x9, ex9, hg⟩ := nmd_e hg
        refine or_names S hK hI c8 ex9 dX0_findName_29 ?_
        exact oe_i S hr hlocks hK hI hg dX0_findName_30
set_option maxHeartbeats 4000000 in
set_option maxRecDepth 100000 in
theorem kX0_findName (l : Launch) (G : gT) (h0 : Nat) (h : oH) (sz F : Nat) (σ : oS) (p1 : Int32) (r : Int32) (σr : oS) (hg : fX0_findName F σ p1 = some (r, σr)) : Met l yX0_findName wsX0_findName rX0_findName (oPre G h0 h σ sz [.int p1]) (oQi G h0 h r σr (oA G h0 h σ sz)) 0 0 (oA G h0 h σ sz) := by
  refine oMet (Qc := oQi G h0 h r σr) (by decide +kernel) rfl rfl (Nat.le_of_ble_eq_true rfl) ?_
  intro p e s m args below meth c A S hr hlocks hK hA H locs hI ls hl
  have hl : lv_has ls 3 [(0, .ref h0), (1, .int p1)] := hl
  have hin : ∀ w ∈ wsX00, w ∈ wsX0_findName := in_ws
  have hx := S.1
  have hb := S.2.1
  have hts := S.2.2.2.2
  have hown := S.2.2.2.1
  unfold fX0_findName at hg
  refine lv_iconst (v := 0) hx hb dX0_findName_0 (by decide) ?_
  refine lv_istore_n (lv' := [(2, .int 0), (0, .ref h0), (1, .int p1)]) hx hb dX0_findName_1 rfl hl (by decide) rfl (fun ls hl => ?_)
  refine lX0_findName_2 S hr hlocks hin hK hA p1 F 0 σ H locs ls hg hI (lv_sub hl [1, 2, 0] rfl) (fun w10 σ11 H locs ls hg hI hl => ?_)
  refine lv_iconst (v := (-1)) hx hb dX0_findName_37 (by decide) ?_
  exact oe_i S hr hlocks hK hI hg dX0_findName_38
-- OwnMemory.isStressed
abbrev rX0_isStressed : Room := { frames := 0, cells := 0, slots := 0, locals := 0 }
theorem nX0_isStressed : yX0_isStressed.cls = RX0 ∧ yX0_isStressed.cls ≠ "java/lang/invoke/MethodHandle" ∧ yX0_isStressed.cls ≠ "java/lang/invoke/VarHandle" ∧ (parseMethodDescriptor yX0_isStressed.desc).map (fun d => d.parameters.length) = some 0 := by decide +kernel
noncomputable def fX0_isStressed (F : Nat) (σ : oS) : Option (Int32 × oS) := cIf ((o_st σ) ≤ 0) (some (0, σ)) (ck (¬ (o_st σ) = 0) (cIf ((((o_md σ) + 1) - ((o_md σ) + 1) / (o_st σ) * (o_st σ)) = 0) (some (1, σ)) (some (0, σ))))
set_option maxHeartbeats 4000000 in
set_option maxRecDepth 100000 in
theorem kX0_isStressed (l : Launch) (G : gT) (h0 : Nat) (h : oH) (sz F : Nat) (σ : oS) (r : Int32) (σr : oS) (hg : fX0_isStressed F σ = some (r, σr)) : Met l yX0_isStressed wsX0_isStressed rX0_isStressed (oPre G h0 h σ sz []) (oQi G h0 h r σr (oA G h0 h σ sz)) 0 0 (oA G h0 h σ sz) := by
  refine oMet (Qc := oQi G h0 h r σr) (by decide +kernel) rfl rfl (Nat.le_of_ble_eq_true rfl) ?_
  intro p e s m args below meth c A S hr hlocks hK hA H locs hI ls hl
  have hl : lv_has ls 1 [(0, .ref h0)] := hl
  have hin : ∀ w ∈ wsX00, w ∈ wsX0_isStressed := in_ws
  have hx := S.1
  have hb := S.2.1
  have hts := S.2.2.2.2
  have hown := S.2.2.2.1
  unfold fX0_isStressed at hg
  refine lv_aload_n hx hb dX0_isStressed_0 rfl (lv_at hl 0 rfl) ?_
  refine og_stressEvery S hin hK hI (ix := 51) (by decide +kernel) dX0_isStressed_1 ?_
  refine lv_if_le (tgt := 25) hx hb dX0_isStressed_4 (by decide) (fun c1 => ?_) (fun c1 => ?_)
  · have hg := cIf_te c1 hg
    refine lv_iconst (v := 0) hx hb dX0_isStressed_25 (by decide) ?_
    exact oe_z S hr hlocks hK hI rfl hg dX0_isStressed_26
  · have hg := cIf_fe c1 hg
    refine lv_aload_n hx hb dX0_isStressed_7 rfl (lv_at hl 0 rfl) ?_
    refine og_made S hin hK hI (ix := 54) (by decide +kernel) dX0_isStressed_8 ?_
    refine lv_iconst (v := 1) hx hb dX0_isStressed_11 (by decide) ?_
    refine lv_iadd hx hb dX0_isStressed_12 ?_
    refine lv_aload_n hx hb dX0_isStressed_13 rfl (lv_at hl 0 rfl) ?_
    refine og_stressEvery S hin hK hI (ix := 51) (by decide +kernel) dX0_isStressed_14 ?_
    obtain ⟨c2, hg⟩ := ck_e hg
    refine lv_irem hx hb dX0_isStressed_17 c2 ?_
    refine lv_if_ne (tgt := 25) hx hb dX0_isStressed_18 (by decide) (fun c3 => ?_) (fun c3 => ?_)
    · have hg := cIf_fe c3 hg
      refine lv_iconst (v := 0) hx hb dX0_isStressed_25 (by decide) ?_
      exact oe_z S hr hlocks hK hI rfl hg dX0_isStressed_26
    · have hg := cIf_te c3 hg
      refine lv_iconst (v := 1) hx hb dX0_isStressed_21 (by decide) ?_
      refine lv_goto (tgt := 26) hx hb dX0_isStressed_22 (by decide) ?_
      exact oe_z S hr hlocks hK hI rfl hg dX0_isStressed_26
end
section
def wsX1_thrown : List Cond := .code yX1_thrown cX1_thrown 1 (some .int) :: ([.fieldLink RX1 73 "OwnMemoryModel" "thrown" "I"] ++ wsX10)
def wsX1_in : List Cond := .code yX1_in cX1_in 3 (some .boolean) :: ([])
def wsX1_isRoot : List Cond := .code yX1_isRoot cX1_isRoot 1 (some .boolean) :: ([.methodLink RX1 76 yX1_in, .static yX1_in, .initialized RX1, .code yX1_in cX1_in 3 (some .boolean)])
def wsX1_says : List Cond := .code yX1_says cX1_says 2 (some .boolean) :: ([.fieldLink RX1 73 "OwnMemoryModel" "thrown" "I"] ++ wsX10)
def wsX1_words : List Cond := .code yX1_words cX1_words 2 (some .int) :: ([.fieldLink RX1 17 "OwnMemoryModel" "kind" "[I", .fieldLink RX1 20 "OwnMemoryModel" "links" "[I", .fieldLink RX1 23 "OwnMemoryModel" "values" "[I", .fieldLink RX1 26 "OwnMemoryModel" "plain" "[I", .fieldLink RX1 44 "OwnMemoryModel" "length" "[I"] ++ wsX10)
def wsX1_come : List Cond := .code yX1_come cX1_come 2 none :: ([.fieldLink RX1 62 "OwnMemoryModel" "there" "[Z", .fieldLink RX1 66 "OwnMemoryModel" "waiting" "[I", .fieldLink RX1 80 "OwnMemoryModel" "wait" "I"] ++ wsX10)
def wsX1_look : List Cond := .code yX1_look cX1_look 4 none :: ([.fieldLink RX1 80 "OwnMemoryModel" "wait" "I", .fieldLink RX1 13 "OwnMemoryModel" "objects" "I", .fieldLink RX1 62 "OwnMemoryModel" "there" "[Z", .fieldLink RX1 9 "OwnMemoryModel" "root" "[I", .fieldLink RX1 66 "OwnMemoryModel" "waiting" "[I", .fieldLink RX1 20 "OwnMemoryModel" "links" "[I", .fieldLink RX1 30 "OwnMemoryModel" "link" "[I", .fieldLink RX1 23 "OwnMemoryModel" "values" "[I", .fieldLink RX1 37 "OwnMemoryModel" "refers" "[I", .fieldLink RX1 17 "OwnMemoryModel" "kind" "[I", .fieldLink RX1 50 "OwnMemoryModel" "a" "[I", .fieldLink RX1 53 "OwnMemoryModel" "b" "[I", .fieldLink RX1 59 "OwnMemoryModel" "spread" "[I", .methodLink RX1 83 yX1_come, .instanceMethod yX1_come, .selects RX1 yX1_come yX1_come, .initialized RX1, .code yX1_come cX1_come 2 none] ++ wsX10)
def wsX1_taken_r1 : List Cond := [Cond.fieldLink RX1 80 "OwnMemoryModel" "wait" "I", Cond.fieldLink RX1 66 "OwnMemoryModel" "waiting" "[I", Cond.methodLink RX1 87 yX1_look, Cond.instanceMethod yX1_look, Cond.selects RX1 yX1_look yX1_look, Cond.initialized RX1, Cond.code yX1_look cX1_look 4 none, Cond.fieldLink RX1 13 "OwnMemoryModel" "objects" "I", Cond.fieldLink RX1 62 "OwnMemoryModel" "there" "[Z", Cond.fieldLink RX1 9 "OwnMemoryModel" "root" "[I", Cond.fieldLink RX1 20 "OwnMemoryModel" "links" "[I", Cond.fieldLink RX1 30 "OwnMemoryModel" "link" "[I", Cond.fieldLink RX1 23 "OwnMemoryModel" "values" "[I", Cond.fieldLink RX1 37 "OwnMemoryModel" "refers" "[I", Cond.fieldLink RX1 17 "OwnMemoryModel" "kind" "[I", Cond.fieldLink RX1 50 "OwnMemoryModel" "a" "[I", Cond.fieldLink RX1 53 "OwnMemoryModel" "b" "[I", Cond.fieldLink RX1 59 "OwnMemoryModel" "spread" "[I", Cond.methodLink RX1 83 yX1_come, Cond.instanceMethod yX1_come, Cond.selects RX1 yX1_come yX1_come, Cond.code yX1_come cX1_come 2 none, Cond.methodLink RX1 90 yX1_words, Cond.instanceMethod yX1_words]
def wsX1_taken_r2 : List Cond := [Cond.selects RX1 yX1_words yX1_words, Cond.code yX1_words cX1_words 2 (some .int), Cond.fieldLink RX1 26 "OwnMemoryModel" "plain" "[I", Cond.fieldLink RX1 44 "OwnMemoryModel" "length" "[I"]
def wsX1_taken : List Cond := .code yX1_taken cX1_taken 3 (some .int) :: ((wsX1_taken_r1 ++ wsX1_taken_r2) ++ wsX10)
def wsX1_make_r1 : List Cond := [Cond.fieldLink RX1 17 "OwnMemoryModel" "kind" "[I", Cond.fieldLink RX1 13 "OwnMemoryModel" "objects" "I", Cond.fieldLink RX1 44 "OwnMemoryModel" "length" "[I", Cond.fieldLink RX1 47 "OwnMemoryModel" "madeOf" "[I", Cond.fieldLink RX1 70 "OwnMemoryModel" "limit" "I", Cond.fieldLink RX1 20 "OwnMemoryModel" "links" "[I", Cond.fieldLink RX1 23 "OwnMemoryModel" "values" "[I", Cond.fieldLink RX1 26 "OwnMemoryModel" "plain" "[I", Cond.methodLink RX1 94 yX1_taken, Cond.instanceMethod yX1_taken, Cond.selects RX1 yX1_taken yX1_taken, Cond.initialized RX1, Cond.code yX1_taken cX1_taken 3 (some .int), Cond.fieldLink RX1 80 "OwnMemoryModel" "wait" "I", Cond.fieldLink RX1 66 "OwnMemoryModel" "waiting" "[I", Cond.methodLink RX1 87 yX1_look, Cond.instanceMethod yX1_look, Cond.selects RX1 yX1_look yX1_look, Cond.code yX1_look cX1_look 4 none, Cond.fieldLink RX1 62 "OwnMemoryModel" "there" "[Z", Cond.fieldLink RX1 9 "OwnMemoryModel" "root" "[I", Cond.fieldLink RX1 30 "OwnMemoryModel" "link" "[I", Cond.fieldLink RX1 37 "OwnMemoryModel" "refers" "[I", Cond.fieldLink RX1 50 "OwnMemoryModel" "a" "[I"]
def wsX1_make_r2 : List Cond := [Cond.fieldLink RX1 53 "OwnMemoryModel" "b" "[I", Cond.fieldLink RX1 59 "OwnMemoryModel" "spread" "[I", Cond.methodLink RX1 83 yX1_come, Cond.instanceMethod yX1_come, Cond.selects RX1 yX1_come yX1_come, Cond.code yX1_come cX1_come 2 none, Cond.methodLink RX1 90 yX1_words, Cond.instanceMethod yX1_words, Cond.selects RX1 yX1_words yX1_words, Cond.code yX1_words cX1_words 2 (some .int)]
def wsX1_make : List Cond := .code yX1_make cX1_make 4 (some .int) :: ((wsX1_make_r1 ++ wsX1_make_r2) ++ wsX10)
def wsX1_collect_r1 : List Cond := [Cond.fieldLink RX1 73 "OwnMemoryModel" "thrown" "I", Cond.methodLink RX1 94 yX1_taken, Cond.instanceMethod yX1_taken, Cond.selects RX1 yX1_taken yX1_taken, Cond.initialized RX1, Cond.code yX1_taken cX1_taken 3 (some .int), Cond.fieldLink RX1 80 "OwnMemoryModel" "wait" "I", Cond.fieldLink RX1 66 "OwnMemoryModel" "waiting" "[I", Cond.methodLink RX1 87 yX1_look, Cond.instanceMethod yX1_look, Cond.selects RX1 yX1_look yX1_look, Cond.code yX1_look cX1_look 4 none, Cond.fieldLink RX1 13 "OwnMemoryModel" "objects" "I", Cond.fieldLink RX1 62 "OwnMemoryModel" "there" "[Z", Cond.fieldLink RX1 9 "OwnMemoryModel" "root" "[I", Cond.fieldLink RX1 20 "OwnMemoryModel" "links" "[I", Cond.fieldLink RX1 30 "OwnMemoryModel" "link" "[I", Cond.fieldLink RX1 23 "OwnMemoryModel" "values" "[I", Cond.fieldLink RX1 37 "OwnMemoryModel" "refers" "[I", Cond.fieldLink RX1 17 "OwnMemoryModel" "kind" "[I", Cond.fieldLink RX1 50 "OwnMemoryModel" "a" "[I", Cond.fieldLink RX1 53 "OwnMemoryModel" "b" "[I", Cond.fieldLink RX1 59 "OwnMemoryModel" "spread" "[I", Cond.methodLink RX1 83 yX1_come]
def wsX1_collect_r2 : List Cond := [Cond.instanceMethod yX1_come, Cond.selects RX1 yX1_come yX1_come, Cond.code yX1_come cX1_come 2 none, Cond.methodLink RX1 90 yX1_words, Cond.instanceMethod yX1_words, Cond.selects RX1 yX1_words yX1_words, Cond.code yX1_words cX1_words 2 (some .int), Cond.fieldLink RX1 26 "OwnMemoryModel" "plain" "[I", Cond.fieldLink RX1 44 "OwnMemoryModel" "length" "[I"]
def wsX1_collect : List Cond := .code yX1_collect cX1_collect 1 (some .int) :: ((wsX1_collect_r1 ++ wsX1_collect_r2) ++ wsX10)
def wsX1_stress : List Cond := .code yX1_stress cX1_stress 2 none :: ([.fieldLink RX1 73 "OwnMemoryModel" "thrown" "I"] ++ wsX10)
def wsX1_take_r1 : List Cond := [Cond.fieldLink RX1 20 "OwnMemoryModel" "links" "[I", Cond.fieldLink RX1 13 "OwnMemoryModel" "objects" "I", Cond.fieldLink RX1 23 "OwnMemoryModel" "values" "[I", Cond.fieldLink RX1 26 "OwnMemoryModel" "plain" "[I", Cond.fieldLink RX1 73 "OwnMemoryModel" "thrown" "I", Cond.fieldLink RX1 9 "OwnMemoryModel" "root" "[I", Cond.methodLink RX1 98 yX1_isRoot, Cond.static yX1_isRoot, Cond.initialized RX1, Cond.code yX1_isRoot cX1_isRoot 1 (some .boolean), Cond.methodLink RX1 76 yX1_in, Cond.static yX1_in, Cond.code yX1_in cX1_in 3 (some .boolean), Cond.methodLink RX1 102 yX1_says, Cond.instanceMethod yX1_says, Cond.selects RX1 yX1_says yX1_says, Cond.code yX1_says cX1_says 2 (some .boolean), Cond.methodLink RX1 106 yX1_make, Cond.instanceMethod yX1_make, Cond.selects RX1 yX1_make yX1_make, Cond.code yX1_make cX1_make 4 (some .int), Cond.fieldLink RX1 17 "OwnMemoryModel" "kind" "[I", Cond.fieldLink RX1 44 "OwnMemoryModel" "length" "[I", Cond.fieldLink RX1 47 "OwnMemoryModel" "madeOf" "[I"]
def wsX1_take_r2 : List Cond := [Cond.fieldLink RX1 70 "OwnMemoryModel" "limit" "I", Cond.methodLink RX1 94 yX1_taken, Cond.instanceMethod yX1_taken, Cond.selects RX1 yX1_taken yX1_taken, Cond.code yX1_taken cX1_taken 3 (some .int), Cond.fieldLink RX1 80 "OwnMemoryModel" "wait" "I", Cond.fieldLink RX1 66 "OwnMemoryModel" "waiting" "[I", Cond.methodLink RX1 87 yX1_look, Cond.instanceMethod yX1_look, Cond.selects RX1 yX1_look yX1_look, Cond.code yX1_look cX1_look 4 none, Cond.fieldLink RX1 62 "OwnMemoryModel" "there" "[Z", Cond.fieldLink RX1 30 "OwnMemoryModel" "link" "[I", Cond.fieldLink RX1 37 "OwnMemoryModel" "refers" "[I", Cond.fieldLink RX1 50 "OwnMemoryModel" "a" "[I", Cond.fieldLink RX1 53 "OwnMemoryModel" "b" "[I", Cond.fieldLink RX1 59 "OwnMemoryModel" "spread" "[I", Cond.methodLink RX1 83 yX1_come, Cond.instanceMethod yX1_come, Cond.selects RX1 yX1_come yX1_come, Cond.code yX1_come cX1_come 2 none, Cond.methodLink RX1 90 yX1_words, Cond.instanceMethod yX1_words, Cond.selects RX1 yX1_words yX1_words]
def wsX1_take_r3 : List Cond := [Cond.code yX1_words cX1_words 2 (some .int)]
def wsX1_take : List Cond := .code yX1_take cX1_take 6 none :: ((wsX1_take_r1 ++ (wsX1_take_r2 ++ wsX1_take_r3)) ++ wsX10)
def wsX1_copy : List Cond := .code yX1_copy cX1_copy 3 none :: ([.fieldLink RX1 9 "OwnMemoryModel" "root" "[I", .methodLink RX1 98 yX1_isRoot, .static yX1_isRoot, .initialized RX1, .code yX1_isRoot cX1_isRoot 1 (some .boolean), .methodLink RX1 76 yX1_in, .static yX1_in, .code yX1_in cX1_in 3 (some .boolean), .methodLink RX1 102 yX1_says, .instanceMethod yX1_says, .selects RX1 yX1_says yX1_says, .code yX1_says cX1_says 2 (some .boolean), .fieldLink RX1 73 "OwnMemoryModel" "thrown" "I"] ++ wsX10)
def wsX1_drop : List Cond := .code yX1_drop cX1_drop 2 none :: ([.fieldLink RX1 9 "OwnMemoryModel" "root" "[I", .methodLink RX1 98 yX1_isRoot, .static yX1_isRoot, .initialized RX1, .code yX1_isRoot cX1_isRoot 1 (some .boolean), .methodLink RX1 76 yX1_in, .static yX1_in, .code yX1_in cX1_in 3 (some .boolean), .methodLink RX1 102 yX1_says, .instanceMethod yX1_says, .selects RX1 yX1_says yX1_says, .code yX1_says cX1_says 2 (some .boolean), .fieldLink RX1 73 "OwnMemoryModel" "thrown" "I"] ++ wsX10)
def wsX1_kind : List Cond := .code yX1_kind cX1_kind 2 (some .int) :: ([.fieldLink RX1 17 "OwnMemoryModel" "kind" "[I", .fieldLink RX1 9 "OwnMemoryModel" "root" "[I", .methodLink RX1 98 yX1_isRoot, .static yX1_isRoot, .initialized RX1, .code yX1_isRoot cX1_isRoot 1 (some .boolean), .methodLink RX1 76 yX1_in, .static yX1_in, .code yX1_in cX1_in 3 (some .boolean), .methodLink RX1 102 yX1_says, .instanceMethod yX1_says, .selects RX1 yX1_says yX1_says, .code yX1_says cX1_says 2 (some .boolean), .fieldLink RX1 73 "OwnMemoryModel" "thrown" "I"] ++ wsX10)
def wsX1_same : List Cond := .code yX1_same cX1_same 3 (some .boolean) :: ([.fieldLink RX1 9 "OwnMemoryModel" "root" "[I", .methodLink RX1 98 yX1_isRoot, .static yX1_isRoot, .initialized RX1, .code yX1_isRoot cX1_isRoot 1 (some .boolean), .methodLink RX1 76 yX1_in, .static yX1_in, .code yX1_in cX1_in 3 (some .boolean), .methodLink RX1 102 yX1_says, .instanceMethod yX1_says, .selects RX1 yX1_says yX1_says, .code yX1_says cX1_says 2 (some .boolean), .fieldLink RX1 73 "OwnMemoryModel" "thrown" "I"] ++ wsX10)
def wsX1_isBlock : List Cond := .code yX1_isBlock cX1_isBlock 2 (some .boolean) :: ([.fieldLink RX1 17 "OwnMemoryModel" "kind" "[I", .fieldLink RX1 9 "OwnMemoryModel" "root" "[I", .methodLink RX1 98 yX1_isRoot, .static yX1_isRoot, .initialized RX1, .code yX1_isRoot cX1_isRoot 1 (some .boolean), .methodLink RX1 76 yX1_in, .static yX1_in, .code yX1_in cX1_in 3 (some .boolean)] ++ wsX10)
def wsX1_hasLink : List Cond := .code yX1_hasLink cX1_hasLink 3 (some .boolean) :: ([.fieldLink RX1 20 "OwnMemoryModel" "links" "[I", .fieldLink RX1 9 "OwnMemoryModel" "root" "[I", .methodLink RX1 110 yX1_isBlock, .instanceMethod yX1_isBlock, .selects RX1 yX1_isBlock yX1_isBlock, .initialized RX1, .code yX1_isBlock cX1_isBlock 2 (some .boolean), .fieldLink RX1 17 "OwnMemoryModel" "kind" "[I", .methodLink RX1 98 yX1_isRoot, .static yX1_isRoot, .code yX1_isRoot cX1_isRoot 1 (some .boolean), .methodLink RX1 76 yX1_in, .static yX1_in, .code yX1_in cX1_in 3 (some .boolean)] ++ wsX10)
def wsX1_hasValue : List Cond := .code yX1_hasValue cX1_hasValue 3 (some .boolean) :: ([.fieldLink RX1 23 "OwnMemoryModel" "values" "[I", .fieldLink RX1 9 "OwnMemoryModel" "root" "[I", .methodLink RX1 110 yX1_isBlock, .instanceMethod yX1_isBlock, .selects RX1 yX1_isBlock yX1_isBlock, .initialized RX1, .code yX1_isBlock cX1_isBlock 2 (some .boolean), .fieldLink RX1 17 "OwnMemoryModel" "kind" "[I", .methodLink RX1 98 yX1_isRoot, .static yX1_isRoot, .code yX1_isRoot cX1_isRoot 1 (some .boolean), .methodLink RX1 76 yX1_in, .static yX1_in, .code yX1_in cX1_in 3 (some .boolean)] ++ wsX10)
def wsX1_hasWord : List Cond := .code yX1_hasWord cX1_hasWord 3 (some .boolean) :: ([.fieldLink RX1 26 "OwnMemoryModel" "plain" "[I", .fieldLink RX1 9 "OwnMemoryModel" "root" "[I", .methodLink RX1 110 yX1_isBlock, .instanceMethod yX1_isBlock, .selects RX1 yX1_isBlock yX1_isBlock, .initialized RX1, .code yX1_isBlock cX1_isBlock 2 (some .boolean), .fieldLink RX1 17 "OwnMemoryModel" "kind" "[I", .methodLink RX1 98 yX1_isRoot, .static yX1_isRoot, .code yX1_isRoot cX1_isRoot 1 (some .boolean), .methodLink RX1 76 yX1_in, .static yX1_in, .code yX1_in cX1_in 3 (some .boolean)] ++ wsX10)
def wsX1_tie : List Cond := .code yX1_tie cX1_tie 4 none :: ([.fieldLink RX1 30 "OwnMemoryModel" "link" "[I", .fieldLink RX1 9 "OwnMemoryModel" "root" "[I", .methodLink RX1 113 yX1_hasLink, .instanceMethod yX1_hasLink, .selects RX1 yX1_hasLink yX1_hasLink, .initialized RX1, .code yX1_hasLink cX1_hasLink 3 (some .boolean), .fieldLink RX1 20 "OwnMemoryModel" "links" "[I", .methodLink RX1 110 yX1_isBlock, .instanceMethod yX1_isBlock, .selects RX1 yX1_isBlock yX1_isBlock, .code yX1_isBlock cX1_isBlock 2 (some .boolean), .fieldLink RX1 17 "OwnMemoryModel" "kind" "[I", .methodLink RX1 98 yX1_isRoot, .static yX1_isRoot, .code yX1_isRoot cX1_isRoot 1 (some .boolean), .methodLink RX1 76 yX1_in, .static yX1_in, .code yX1_in cX1_in 3 (some .boolean), .methodLink RX1 102 yX1_says, .instanceMethod yX1_says, .selects RX1 yX1_says yX1_says, .code yX1_says cX1_says 2 (some .boolean), .fieldLink RX1 73 "OwnMemoryModel" "thrown" "I"] ++ wsX10)
def wsX1_lead : List Cond := .code yX1_lead cX1_lead 4 none :: ([.fieldLink RX1 9 "OwnMemoryModel" "root" "[I", .fieldLink RX1 30 "OwnMemoryModel" "link" "[I", .methodLink RX1 113 yX1_hasLink, .instanceMethod yX1_hasLink, .selects RX1 yX1_hasLink yX1_hasLink, .initialized RX1, .code yX1_hasLink cX1_hasLink 3 (some .boolean), .fieldLink RX1 20 "OwnMemoryModel" "links" "[I", .methodLink RX1 110 yX1_isBlock, .instanceMethod yX1_isBlock, .selects RX1 yX1_isBlock yX1_isBlock, .code yX1_isBlock cX1_isBlock 2 (some .boolean), .fieldLink RX1 17 "OwnMemoryModel" "kind" "[I", .methodLink RX1 98 yX1_isRoot, .static yX1_isRoot, .code yX1_isRoot cX1_isRoot 1 (some .boolean), .methodLink RX1 76 yX1_in, .static yX1_in, .code yX1_in cX1_in 3 (some .boolean), .methodLink RX1 102 yX1_says, .instanceMethod yX1_says, .selects RX1 yX1_says yX1_says, .code yX1_says cX1_says 2 (some .boolean), .fieldLink RX1 73 "OwnMemoryModel" "thrown" "I"] ++ wsX10)
def wsX1_number_r1 : List Cond := [Cond.constantLong RX1 120 (65530), Cond.fieldLink RX1 33 "OwnMemoryModel" "number" "[J", Cond.fieldLink RX1 9 "OwnMemoryModel" "root" "[I", Cond.fieldLink RX1 37 "OwnMemoryModel" "refers" "[I", Cond.methodLink RX1 117 yX1_hasValue, Cond.instanceMethod yX1_hasValue, Cond.selects RX1 yX1_hasValue yX1_hasValue, Cond.initialized RX1, Cond.code yX1_hasValue cX1_hasValue 3 (some .boolean), Cond.fieldLink RX1 23 "OwnMemoryModel" "values" "[I", Cond.methodLink RX1 110 yX1_isBlock, Cond.instanceMethod yX1_isBlock, Cond.selects RX1 yX1_isBlock yX1_isBlock, Cond.code yX1_isBlock cX1_isBlock 2 (some .boolean), Cond.fieldLink RX1 17 "OwnMemoryModel" "kind" "[I", Cond.methodLink RX1 98 yX1_isRoot, Cond.static yX1_isRoot, Cond.code yX1_isRoot cX1_isRoot 1 (some .boolean), Cond.methodLink RX1 76 yX1_in, Cond.static yX1_in, Cond.code yX1_in cX1_in 3 (some .boolean), Cond.methodLink RX1 102 yX1_says, Cond.instanceMethod yX1_says, Cond.selects RX1 yX1_says yX1_says]
def wsX1_number_r2 : List Cond := [Cond.code yX1_says cX1_says 2 (some .boolean), Cond.fieldLink RX1 73 "OwnMemoryModel" "thrown" "I"]
def wsX1_number : List Cond := .code yX1_number cX1_number 5 none :: ((wsX1_number_r1 ++ wsX1_number_r2) ++ wsX10)
def wsX1_refer : List Cond := .code yX1_refer cX1_refer 5 none :: ([.fieldLink RX1 9 "OwnMemoryModel" "root" "[I", .fieldLink RX1 37 "OwnMemoryModel" "refers" "[I", .methodLink RX1 117 yX1_hasValue, .instanceMethod yX1_hasValue, .selects RX1 yX1_hasValue yX1_hasValue, .initialized RX1, .code yX1_hasValue cX1_hasValue 3 (some .boolean), .fieldLink RX1 23 "OwnMemoryModel" "values" "[I", .methodLink RX1 110 yX1_isBlock, .instanceMethod yX1_isBlock, .selects RX1 yX1_isBlock yX1_isBlock, .code yX1_isBlock cX1_isBlock 2 (some .boolean), .fieldLink RX1 17 "OwnMemoryModel" "kind" "[I", .methodLink RX1 98 yX1_isRoot, .static yX1_isRoot, .code yX1_isRoot cX1_isRoot 1 (some .boolean), .methodLink RX1 76 yX1_in, .static yX1_in, .code yX1_in cX1_in 3 (some .boolean), .methodLink RX1 102 yX1_says, .instanceMethod yX1_says, .selects RX1 yX1_says yX1_says, .code yX1_says cX1_says 2 (some .boolean), .fieldLink RX1 73 "OwnMemoryModel" "thrown" "I"] ++ wsX10)
def wsX1_bits_r1 : List Cond := [Cond.fieldLink RX1 37 "OwnMemoryModel" "refers" "[I", Cond.fieldLink RX1 9 "OwnMemoryModel" "root" "[I", Cond.fieldLink RX1 33 "OwnMemoryModel" "number" "[J", Cond.methodLink RX1 117 yX1_hasValue, Cond.instanceMethod yX1_hasValue, Cond.selects RX1 yX1_hasValue yX1_hasValue, Cond.initialized RX1, Cond.code yX1_hasValue cX1_hasValue 3 (some .boolean), Cond.fieldLink RX1 23 "OwnMemoryModel" "values" "[I", Cond.methodLink RX1 110 yX1_isBlock, Cond.instanceMethod yX1_isBlock, Cond.selects RX1 yX1_isBlock yX1_isBlock, Cond.code yX1_isBlock cX1_isBlock 2 (some .boolean), Cond.fieldLink RX1 17 "OwnMemoryModel" "kind" "[I", Cond.methodLink RX1 98 yX1_isRoot, Cond.static yX1_isRoot, Cond.code yX1_isRoot cX1_isRoot 1 (some .boolean), Cond.methodLink RX1 76 yX1_in, Cond.static yX1_in, Cond.code yX1_in cX1_in 3 (some .boolean), Cond.methodLink RX1 102 yX1_says, Cond.instanceMethod yX1_says, Cond.selects RX1 yX1_says yX1_says, Cond.code yX1_says cX1_says 2 (some .boolean)]
def wsX1_bits_r2 : List Cond := [Cond.fieldLink RX1 73 "OwnMemoryModel" "thrown" "I"]
def wsX1_bits : List Cond := .code yX1_bits cX1_bits 4 (some .long) :: ((wsX1_bits_r1 ++ wsX1_bits_r2) ++ wsX10)
def wsX1_follow : List Cond := .code yX1_follow cX1_follow 5 (some .boolean) :: ([.fieldLink RX1 37 "OwnMemoryModel" "refers" "[I", .fieldLink RX1 9 "OwnMemoryModel" "root" "[I", .methodLink RX1 117 yX1_hasValue, .instanceMethod yX1_hasValue, .selects RX1 yX1_hasValue yX1_hasValue, .initialized RX1, .code yX1_hasValue cX1_hasValue 3 (some .boolean), .fieldLink RX1 23 "OwnMemoryModel" "values" "[I", .methodLink RX1 110 yX1_isBlock, .instanceMethod yX1_isBlock, .selects RX1 yX1_isBlock yX1_isBlock, .code yX1_isBlock cX1_isBlock 2 (some .boolean), .fieldLink RX1 17 "OwnMemoryModel" "kind" "[I", .methodLink RX1 98 yX1_isRoot, .static yX1_isRoot, .code yX1_isRoot cX1_isRoot 1 (some .boolean), .methodLink RX1 76 yX1_in, .static yX1_in, .code yX1_in cX1_in 3 (some .boolean), .methodLink RX1 102 yX1_says, .instanceMethod yX1_says, .selects RX1 yX1_says yX1_says, .code yX1_says cX1_says 2 (some .boolean), .fieldLink RX1 73 "OwnMemoryModel" "thrown" "I"] ++ wsX10)
def wsX1_set : List Cond := .code yX1_set cX1_set 4 none :: ([.fieldLink RX1 41 "OwnMemoryModel" "word" "[I", .fieldLink RX1 9 "OwnMemoryModel" "root" "[I", .methodLink RX1 122 yX1_hasWord, .instanceMethod yX1_hasWord, .selects RX1 yX1_hasWord yX1_hasWord, .initialized RX1, .code yX1_hasWord cX1_hasWord 3 (some .boolean), .fieldLink RX1 26 "OwnMemoryModel" "plain" "[I", .methodLink RX1 110 yX1_isBlock, .instanceMethod yX1_isBlock, .selects RX1 yX1_isBlock yX1_isBlock, .code yX1_isBlock cX1_isBlock 2 (some .boolean), .fieldLink RX1 17 "OwnMemoryModel" "kind" "[I", .methodLink RX1 98 yX1_isRoot, .static yX1_isRoot, .code yX1_isRoot cX1_isRoot 1 (some .boolean), .methodLink RX1 76 yX1_in, .static yX1_in, .code yX1_in cX1_in 3 (some .boolean), .methodLink RX1 102 yX1_says, .instanceMethod yX1_says, .selects RX1 yX1_says yX1_says, .code yX1_says cX1_says 2 (some .boolean), .fieldLink RX1 73 "OwnMemoryModel" "thrown" "I"] ++ wsX10)
def wsX1_get : List Cond := .code yX1_get cX1_get 3 (some .int) :: ([.fieldLink RX1 41 "OwnMemoryModel" "word" "[I", .fieldLink RX1 9 "OwnMemoryModel" "root" "[I", .methodLink RX1 122 yX1_hasWord, .instanceMethod yX1_hasWord, .selects RX1 yX1_hasWord yX1_hasWord, .initialized RX1, .code yX1_hasWord cX1_hasWord 3 (some .boolean), .fieldLink RX1 26 "OwnMemoryModel" "plain" "[I", .methodLink RX1 110 yX1_isBlock, .instanceMethod yX1_isBlock, .selects RX1 yX1_isBlock yX1_isBlock, .code yX1_isBlock cX1_isBlock 2 (some .boolean), .fieldLink RX1 17 "OwnMemoryModel" "kind" "[I", .methodLink RX1 98 yX1_isRoot, .static yX1_isRoot, .code yX1_isRoot cX1_isRoot 1 (some .boolean), .methodLink RX1 76 yX1_in, .static yX1_in, .code yX1_in cX1_in 3 (some .boolean), .methodLink RX1 102 yX1_says, .instanceMethod yX1_says, .selects RX1 yX1_says yX1_says, .code yX1_says cX1_says 2 (some .boolean), .fieldLink RX1 73 "OwnMemoryModel" "thrown" "I"] ++ wsX10)
def wsX1_isText : List Cond := .code yX1_isText cX1_isText 2 (some .boolean) :: ([.fieldLink RX1 17 "OwnMemoryModel" "kind" "[I", .fieldLink RX1 9 "OwnMemoryModel" "root" "[I", .methodLink RX1 98 yX1_isRoot, .static yX1_isRoot, .initialized RX1, .code yX1_isRoot cX1_isRoot 1 (some .boolean), .methodLink RX1 76 yX1_in, .static yX1_in, .code yX1_in cX1_in 3 (some .boolean)] ++ wsX10)
def wsX1_unitOf : List Cond := .code yX1_unitOf cX1_unitOf 5 (some .int) :: ([.fieldLink RX1 47 "OwnMemoryModel" "madeOf" "[I", .fieldLink RX1 53 "OwnMemoryModel" "b" "[I", .fieldLink RX1 50 "OwnMemoryModel" "a" "[I", .fieldLink RX1 44 "OwnMemoryModel" "length" "[I", .fieldLink RX1 56 "OwnMemoryModel" "units" "[J", .constantLong RX1 125 (65535)] ++ wsX10)
def wsX1_goOver_r1 : List Cond := [Cond.fieldLink RX1 17 "OwnMemoryModel" "kind" "[I", Cond.fieldLink RX1 44 "OwnMemoryModel" "length" "[I", Cond.fieldLink RX1 50 "OwnMemoryModel" "a" "[I", Cond.fieldLink RX1 53 "OwnMemoryModel" "b" "[I", Cond.fieldLink RX1 59 "OwnMemoryModel" "spread" "[I", Cond.methodLink RX1 106 yX1_make, Cond.instanceMethod yX1_make, Cond.selects RX1 yX1_make yX1_make, Cond.initialized RX1, Cond.code yX1_make cX1_make 4 (some .int), Cond.fieldLink RX1 13 "OwnMemoryModel" "objects" "I", Cond.fieldLink RX1 47 "OwnMemoryModel" "madeOf" "[I", Cond.fieldLink RX1 70 "OwnMemoryModel" "limit" "I", Cond.fieldLink RX1 20 "OwnMemoryModel" "links" "[I", Cond.fieldLink RX1 23 "OwnMemoryModel" "values" "[I", Cond.fieldLink RX1 26 "OwnMemoryModel" "plain" "[I", Cond.methodLink RX1 94 yX1_taken, Cond.instanceMethod yX1_taken, Cond.selects RX1 yX1_taken yX1_taken, Cond.code yX1_taken cX1_taken 3 (some .int), Cond.fieldLink RX1 80 "OwnMemoryModel" "wait" "I", Cond.fieldLink RX1 66 "OwnMemoryModel" "waiting" "[I", Cond.methodLink RX1 87 yX1_look, Cond.instanceMethod yX1_look]
def wsX1_goOver_r2 : List Cond := [Cond.selects RX1 yX1_look yX1_look, Cond.code yX1_look cX1_look 4 none, Cond.fieldLink RX1 62 "OwnMemoryModel" "there" "[Z", Cond.fieldLink RX1 9 "OwnMemoryModel" "root" "[I", Cond.fieldLink RX1 30 "OwnMemoryModel" "link" "[I", Cond.fieldLink RX1 37 "OwnMemoryModel" "refers" "[I", Cond.methodLink RX1 83 yX1_come, Cond.instanceMethod yX1_come, Cond.selects RX1 yX1_come yX1_come, Cond.code yX1_come cX1_come 2 none, Cond.methodLink RX1 90 yX1_words, Cond.instanceMethod yX1_words, Cond.selects RX1 yX1_words yX1_words, Cond.code yX1_words cX1_words 2 (some .int)]
def wsX1_goOver : List Cond := .code yX1_goOver cX1_goOver 3 (some .boolean) :: ((wsX1_goOver_r1 ++ wsX1_goOver_r2) ++ wsX10)
def wsX1_full : List Cond := .code yX1_full cX1_full 2 (some .int) :: ([.fieldLink RX1 73 "OwnMemoryModel" "thrown" "I"] ++ wsX10)
def wsX1_text_r1 : List Cond := [Cond.fieldLink RX1 56 "OwnMemoryModel" "units" "[J", Cond.fieldLink RX1 9 "OwnMemoryModel" "root" "[I", Cond.methodLink RX1 98 yX1_isRoot, Cond.static yX1_isRoot, Cond.initialized RX1, Cond.code yX1_isRoot cX1_isRoot 1 (some .boolean), Cond.methodLink RX1 76 yX1_in, Cond.static yX1_in, Cond.code yX1_in cX1_in 3 (some .boolean), Cond.methodLink RX1 102 yX1_says, Cond.instanceMethod yX1_says, Cond.selects RX1 yX1_says yX1_says, Cond.code yX1_says cX1_says 2 (some .boolean), Cond.fieldLink RX1 73 "OwnMemoryModel" "thrown" "I", Cond.methodLink RX1 106 yX1_make, Cond.instanceMethod yX1_make, Cond.selects RX1 yX1_make yX1_make, Cond.code yX1_make cX1_make 4 (some .int), Cond.fieldLink RX1 17 "OwnMemoryModel" "kind" "[I", Cond.fieldLink RX1 13 "OwnMemoryModel" "objects" "I", Cond.fieldLink RX1 44 "OwnMemoryModel" "length" "[I", Cond.fieldLink RX1 47 "OwnMemoryModel" "madeOf" "[I", Cond.fieldLink RX1 70 "OwnMemoryModel" "limit" "I", Cond.fieldLink RX1 20 "OwnMemoryModel" "links" "[I"]
def wsX1_text_r2 : List Cond := [Cond.fieldLink RX1 23 "OwnMemoryModel" "values" "[I", Cond.fieldLink RX1 26 "OwnMemoryModel" "plain" "[I", Cond.methodLink RX1 94 yX1_taken, Cond.instanceMethod yX1_taken, Cond.selects RX1 yX1_taken yX1_taken, Cond.code yX1_taken cX1_taken 3 (some .int), Cond.fieldLink RX1 80 "OwnMemoryModel" "wait" "I", Cond.fieldLink RX1 66 "OwnMemoryModel" "waiting" "[I", Cond.methodLink RX1 87 yX1_look, Cond.instanceMethod yX1_look, Cond.selects RX1 yX1_look yX1_look, Cond.code yX1_look cX1_look 4 none, Cond.fieldLink RX1 62 "OwnMemoryModel" "there" "[Z", Cond.fieldLink RX1 30 "OwnMemoryModel" "link" "[I", Cond.fieldLink RX1 37 "OwnMemoryModel" "refers" "[I", Cond.fieldLink RX1 50 "OwnMemoryModel" "a" "[I", Cond.fieldLink RX1 53 "OwnMemoryModel" "b" "[I", Cond.fieldLink RX1 59 "OwnMemoryModel" "spread" "[I", Cond.methodLink RX1 83 yX1_come, Cond.instanceMethod yX1_come, Cond.selects RX1 yX1_come yX1_come, Cond.code yX1_come cX1_come 2 none, Cond.methodLink RX1 90 yX1_words, Cond.instanceMethod yX1_words]
def wsX1_text_r3 : List Cond := [Cond.selects RX1 yX1_words yX1_words, Cond.code yX1_words cX1_words 2 (some .int), Cond.methodLink RX1 127 yX1_full, Cond.instanceMethod yX1_full, Cond.selects RX1 yX1_full yX1_full, Cond.code yX1_full cX1_full 2 (some .int)]
def wsX1_text : List Cond := .code yX1_text cX1_text 6 none :: ((wsX1_text_r1 ++ (wsX1_text_r2 ++ wsX1_text_r3)) ++ wsX10)
def wsX1_join_r1 : List Cond := [Cond.fieldLink RX1 9 "OwnMemoryModel" "root" "[I", Cond.fieldLink RX1 44 "OwnMemoryModel" "length" "[I", Cond.fieldLink RX1 50 "OwnMemoryModel" "a" "[I", Cond.fieldLink RX1 53 "OwnMemoryModel" "b" "[I", Cond.methodLink RX1 98 yX1_isRoot, Cond.static yX1_isRoot, Cond.initialized RX1, Cond.code yX1_isRoot cX1_isRoot 1 (some .boolean), Cond.methodLink RX1 76 yX1_in, Cond.static yX1_in, Cond.code yX1_in cX1_in 3 (some .boolean), Cond.methodLink RX1 130 yX1_isText, Cond.instanceMethod yX1_isText, Cond.selects RX1 yX1_isText yX1_isText, Cond.code yX1_isText cX1_isText 2 (some .boolean), Cond.fieldLink RX1 17 "OwnMemoryModel" "kind" "[I", Cond.methodLink RX1 102 yX1_says, Cond.instanceMethod yX1_says, Cond.selects RX1 yX1_says yX1_says, Cond.code yX1_says cX1_says 2 (some .boolean), Cond.fieldLink RX1 73 "OwnMemoryModel" "thrown" "I", Cond.methodLink RX1 106 yX1_make, Cond.instanceMethod yX1_make, Cond.selects RX1 yX1_make yX1_make]
def wsX1_join_r2 : List Cond := [Cond.code yX1_make cX1_make 4 (some .int), Cond.fieldLink RX1 13 "OwnMemoryModel" "objects" "I", Cond.fieldLink RX1 47 "OwnMemoryModel" "madeOf" "[I", Cond.fieldLink RX1 70 "OwnMemoryModel" "limit" "I", Cond.fieldLink RX1 20 "OwnMemoryModel" "links" "[I", Cond.fieldLink RX1 23 "OwnMemoryModel" "values" "[I", Cond.fieldLink RX1 26 "OwnMemoryModel" "plain" "[I", Cond.methodLink RX1 94 yX1_taken, Cond.instanceMethod yX1_taken, Cond.selects RX1 yX1_taken yX1_taken, Cond.code yX1_taken cX1_taken 3 (some .int), Cond.fieldLink RX1 80 "OwnMemoryModel" "wait" "I", Cond.fieldLink RX1 66 "OwnMemoryModel" "waiting" "[I", Cond.methodLink RX1 87 yX1_look, Cond.instanceMethod yX1_look, Cond.selects RX1 yX1_look yX1_look, Cond.code yX1_look cX1_look 4 none, Cond.fieldLink RX1 62 "OwnMemoryModel" "there" "[Z", Cond.fieldLink RX1 30 "OwnMemoryModel" "link" "[I", Cond.fieldLink RX1 37 "OwnMemoryModel" "refers" "[I", Cond.fieldLink RX1 59 "OwnMemoryModel" "spread" "[I", Cond.methodLink RX1 83 yX1_come, Cond.instanceMethod yX1_come, Cond.selects RX1 yX1_come yX1_come]
def wsX1_join_r3 : List Cond := [Cond.code yX1_come cX1_come 2 none, Cond.methodLink RX1 90 yX1_words, Cond.instanceMethod yX1_words, Cond.selects RX1 yX1_words yX1_words, Cond.code yX1_words cX1_words 2 (some .int), Cond.methodLink RX1 127 yX1_full, Cond.instanceMethod yX1_full, Cond.selects RX1 yX1_full yX1_full, Cond.code yX1_full cX1_full 2 (some .int)]
def wsX1_join : List Cond := .code yX1_join cX1_join 8 none :: ((wsX1_join_r1 ++ (wsX1_join_r2 ++ wsX1_join_r3)) ++ wsX10)
def wsX1_partOf_r1 : List Cond := [Cond.fieldLink RX1 50 "OwnMemoryModel" "a" "[I", Cond.fieldLink RX1 53 "OwnMemoryModel" "b" "[I", Cond.methodLink RX1 133 yX1_goOver, Cond.instanceMethod yX1_goOver, Cond.selects RX1 yX1_goOver yX1_goOver, Cond.initialized RX1, Cond.code yX1_goOver cX1_goOver 3 (some .boolean), Cond.fieldLink RX1 17 "OwnMemoryModel" "kind" "[I", Cond.fieldLink RX1 44 "OwnMemoryModel" "length" "[I", Cond.fieldLink RX1 59 "OwnMemoryModel" "spread" "[I", Cond.methodLink RX1 106 yX1_make, Cond.instanceMethod yX1_make, Cond.selects RX1 yX1_make yX1_make, Cond.code yX1_make cX1_make 4 (some .int), Cond.fieldLink RX1 13 "OwnMemoryModel" "objects" "I", Cond.fieldLink RX1 47 "OwnMemoryModel" "madeOf" "[I", Cond.fieldLink RX1 70 "OwnMemoryModel" "limit" "I", Cond.fieldLink RX1 20 "OwnMemoryModel" "links" "[I", Cond.fieldLink RX1 23 "OwnMemoryModel" "values" "[I", Cond.fieldLink RX1 26 "OwnMemoryModel" "plain" "[I", Cond.methodLink RX1 94 yX1_taken, Cond.instanceMethod yX1_taken, Cond.selects RX1 yX1_taken yX1_taken, Cond.code yX1_taken cX1_taken 3 (some .int)]
def wsX1_partOf_r2 : List Cond := [Cond.fieldLink RX1 80 "OwnMemoryModel" "wait" "I", Cond.fieldLink RX1 66 "OwnMemoryModel" "waiting" "[I", Cond.methodLink RX1 87 yX1_look, Cond.instanceMethod yX1_look, Cond.selects RX1 yX1_look yX1_look, Cond.code yX1_look cX1_look 4 none, Cond.fieldLink RX1 62 "OwnMemoryModel" "there" "[Z", Cond.fieldLink RX1 9 "OwnMemoryModel" "root" "[I", Cond.fieldLink RX1 30 "OwnMemoryModel" "link" "[I", Cond.fieldLink RX1 37 "OwnMemoryModel" "refers" "[I", Cond.methodLink RX1 83 yX1_come, Cond.instanceMethod yX1_come, Cond.selects RX1 yX1_come yX1_come, Cond.code yX1_come cX1_come 2 none, Cond.methodLink RX1 90 yX1_words, Cond.instanceMethod yX1_words, Cond.selects RX1 yX1_words yX1_words, Cond.code yX1_words cX1_words 2 (some .int)]
def wsX1_partOf : List Cond := .code yX1_partOf cX1_partOf 6 (some .int) :: ((wsX1_partOf_r1 ++ wsX1_partOf_r2) ++ wsX10)
def wsX1_part_r1 : List Cond := [Cond.fieldLink RX1 44 "OwnMemoryModel" "length" "[I", Cond.fieldLink RX1 9 "OwnMemoryModel" "root" "[I", Cond.methodLink RX1 98 yX1_isRoot, Cond.static yX1_isRoot, Cond.initialized RX1, Cond.code yX1_isRoot cX1_isRoot 1 (some .boolean), Cond.methodLink RX1 76 yX1_in, Cond.static yX1_in, Cond.code yX1_in cX1_in 3 (some .boolean), Cond.methodLink RX1 130 yX1_isText, Cond.instanceMethod yX1_isText, Cond.selects RX1 yX1_isText yX1_isText, Cond.code yX1_isText cX1_isText 2 (some .boolean), Cond.fieldLink RX1 17 "OwnMemoryModel" "kind" "[I", Cond.methodLink RX1 102 yX1_says, Cond.instanceMethod yX1_says, Cond.selects RX1 yX1_says yX1_says, Cond.code yX1_says cX1_says 2 (some .boolean), Cond.fieldLink RX1 73 "OwnMemoryModel" "thrown" "I", Cond.methodLink RX1 136 yX1_partOf, Cond.instanceMethod yX1_partOf, Cond.selects RX1 yX1_partOf yX1_partOf, Cond.code yX1_partOf cX1_partOf 6 (some .int), Cond.fieldLink RX1 50 "OwnMemoryModel" "a" "[I"]
def wsX1_part_r2 : List Cond := [Cond.fieldLink RX1 53 "OwnMemoryModel" "b" "[I", Cond.methodLink RX1 133 yX1_goOver, Cond.instanceMethod yX1_goOver, Cond.selects RX1 yX1_goOver yX1_goOver, Cond.code yX1_goOver cX1_goOver 3 (some .boolean), Cond.fieldLink RX1 59 "OwnMemoryModel" "spread" "[I", Cond.methodLink RX1 106 yX1_make, Cond.instanceMethod yX1_make, Cond.selects RX1 yX1_make yX1_make, Cond.code yX1_make cX1_make 4 (some .int), Cond.fieldLink RX1 13 "OwnMemoryModel" "objects" "I", Cond.fieldLink RX1 47 "OwnMemoryModel" "madeOf" "[I", Cond.fieldLink RX1 70 "OwnMemoryModel" "limit" "I", Cond.fieldLink RX1 20 "OwnMemoryModel" "links" "[I", Cond.fieldLink RX1 23 "OwnMemoryModel" "values" "[I", Cond.fieldLink RX1 26 "OwnMemoryModel" "plain" "[I", Cond.methodLink RX1 94 yX1_taken, Cond.instanceMethod yX1_taken, Cond.selects RX1 yX1_taken yX1_taken, Cond.code yX1_taken cX1_taken 3 (some .int), Cond.fieldLink RX1 80 "OwnMemoryModel" "wait" "I", Cond.fieldLink RX1 66 "OwnMemoryModel" "waiting" "[I", Cond.methodLink RX1 87 yX1_look, Cond.instanceMethod yX1_look]
def wsX1_part_r3 : List Cond := [Cond.selects RX1 yX1_look yX1_look, Cond.code yX1_look cX1_look 4 none, Cond.fieldLink RX1 62 "OwnMemoryModel" "there" "[Z", Cond.fieldLink RX1 30 "OwnMemoryModel" "link" "[I", Cond.fieldLink RX1 37 "OwnMemoryModel" "refers" "[I", Cond.methodLink RX1 83 yX1_come, Cond.instanceMethod yX1_come, Cond.selects RX1 yX1_come yX1_come, Cond.code yX1_come cX1_come 2 none, Cond.methodLink RX1 90 yX1_words, Cond.instanceMethod yX1_words, Cond.selects RX1 yX1_words yX1_words, Cond.code yX1_words cX1_words 2 (some .int), Cond.methodLink RX1 127 yX1_full, Cond.instanceMethod yX1_full, Cond.selects RX1 yX1_full yX1_full, Cond.code yX1_full cX1_full 2 (some .int)]
def wsX1_part : List Cond := .code yX1_part cX1_part 7 none :: ((wsX1_part_r1 ++ (wsX1_part_r2 ++ wsX1_part_r3)) ++ wsX10)
def wsX1_length : List Cond := .code yX1_length cX1_length 2 (some .int) :: ([.fieldLink RX1 44 "OwnMemoryModel" "length" "[I", .fieldLink RX1 9 "OwnMemoryModel" "root" "[I", .methodLink RX1 130 yX1_isText, .instanceMethod yX1_isText, .selects RX1 yX1_isText yX1_isText, .initialized RX1, .code yX1_isText cX1_isText 2 (some .boolean), .fieldLink RX1 17 "OwnMemoryModel" "kind" "[I", .methodLink RX1 98 yX1_isRoot, .static yX1_isRoot, .code yX1_isRoot cX1_isRoot 1 (some .boolean), .methodLink RX1 76 yX1_in, .static yX1_in, .code yX1_in cX1_in 3 (some .boolean), .methodLink RX1 102 yX1_says, .instanceMethod yX1_says, .selects RX1 yX1_says yX1_says, .code yX1_says cX1_says 2 (some .boolean), .fieldLink RX1 73 "OwnMemoryModel" "thrown" "I"] ++ wsX10)
def wsX1_unit_r1 : List Cond := [Cond.fieldLink RX1 44 "OwnMemoryModel" "length" "[I", Cond.fieldLink RX1 9 "OwnMemoryModel" "root" "[I", Cond.fieldLink RX1 73 "OwnMemoryModel" "thrown" "I", Cond.methodLink RX1 130 yX1_isText, Cond.instanceMethod yX1_isText, Cond.selects RX1 yX1_isText yX1_isText, Cond.initialized RX1, Cond.code yX1_isText cX1_isText 2 (some .boolean), Cond.fieldLink RX1 17 "OwnMemoryModel" "kind" "[I", Cond.methodLink RX1 98 yX1_isRoot, Cond.static yX1_isRoot, Cond.code yX1_isRoot cX1_isRoot 1 (some .boolean), Cond.methodLink RX1 76 yX1_in, Cond.static yX1_in, Cond.code yX1_in cX1_in 3 (some .boolean), Cond.methodLink RX1 102 yX1_says, Cond.instanceMethod yX1_says, Cond.selects RX1 yX1_says yX1_says, Cond.code yX1_says cX1_says 2 (some .boolean), Cond.methodLink RX1 133 yX1_goOver, Cond.instanceMethod yX1_goOver, Cond.selects RX1 yX1_goOver yX1_goOver, Cond.code yX1_goOver cX1_goOver 3 (some .boolean), Cond.fieldLink RX1 50 "OwnMemoryModel" "a" "[I"]
def wsX1_unit_r2 : List Cond := [Cond.fieldLink RX1 53 "OwnMemoryModel" "b" "[I", Cond.fieldLink RX1 59 "OwnMemoryModel" "spread" "[I", Cond.methodLink RX1 106 yX1_make, Cond.instanceMethod yX1_make, Cond.selects RX1 yX1_make yX1_make, Cond.code yX1_make cX1_make 4 (some .int), Cond.fieldLink RX1 13 "OwnMemoryModel" "objects" "I", Cond.fieldLink RX1 47 "OwnMemoryModel" "madeOf" "[I", Cond.fieldLink RX1 70 "OwnMemoryModel" "limit" "I", Cond.fieldLink RX1 20 "OwnMemoryModel" "links" "[I", Cond.fieldLink RX1 23 "OwnMemoryModel" "values" "[I", Cond.fieldLink RX1 26 "OwnMemoryModel" "plain" "[I", Cond.methodLink RX1 94 yX1_taken, Cond.instanceMethod yX1_taken, Cond.selects RX1 yX1_taken yX1_taken, Cond.code yX1_taken cX1_taken 3 (some .int), Cond.fieldLink RX1 80 "OwnMemoryModel" "wait" "I", Cond.fieldLink RX1 66 "OwnMemoryModel" "waiting" "[I", Cond.methodLink RX1 87 yX1_look, Cond.instanceMethod yX1_look, Cond.selects RX1 yX1_look yX1_look, Cond.code yX1_look cX1_look 4 none, Cond.fieldLink RX1 62 "OwnMemoryModel" "there" "[Z", Cond.fieldLink RX1 30 "OwnMemoryModel" "link" "[I"]
def wsX1_unit_r3 : List Cond := [Cond.fieldLink RX1 37 "OwnMemoryModel" "refers" "[I", Cond.methodLink RX1 83 yX1_come, Cond.instanceMethod yX1_come, Cond.selects RX1 yX1_come yX1_come, Cond.code yX1_come cX1_come 2 none, Cond.methodLink RX1 90 yX1_words, Cond.instanceMethod yX1_words, Cond.selects RX1 yX1_words yX1_words, Cond.code yX1_words cX1_words 2 (some .int), Cond.methodLink RX1 140 yX1_unitOf, Cond.instanceMethod yX1_unitOf, Cond.selects RX1 yX1_unitOf yX1_unitOf, Cond.code yX1_unitOf cX1_unitOf 5 (some .int), Cond.fieldLink RX1 56 "OwnMemoryModel" "units" "[J", Cond.constantLong RX1 125 (65535)]
def wsX1_unit : List Cond := .code yX1_unit cX1_unit 4 (some .int) :: ((wsX1_unit_r1 ++ (wsX1_unit_r2 ++ wsX1_unit_r3)) ++ wsX10)
def wsX1_order : List Cond := .code yX1_order cX1_order 7 (some .int) :: ([.fieldLink RX1 44 "OwnMemoryModel" "length" "[I", .methodLink RX1 140 yX1_unitOf, .instanceMethod yX1_unitOf, .selects RX1 yX1_unitOf yX1_unitOf, .initialized RX1, .code yX1_unitOf cX1_unitOf 5 (some .int), .fieldLink RX1 47 "OwnMemoryModel" "madeOf" "[I", .fieldLink RX1 53 "OwnMemoryModel" "b" "[I", .fieldLink RX1 50 "OwnMemoryModel" "a" "[I", .fieldLink RX1 56 "OwnMemoryModel" "units" "[J", .constantLong RX1 125 (65535)] ++ wsX10)
def wsX1_compare_r1 : List Cond := [Cond.fieldLink RX1 9 "OwnMemoryModel" "root" "[I", Cond.fieldLink RX1 73 "OwnMemoryModel" "thrown" "I", Cond.methodLink RX1 130 yX1_isText, Cond.instanceMethod yX1_isText, Cond.selects RX1 yX1_isText yX1_isText, Cond.initialized RX1, Cond.code yX1_isText cX1_isText 2 (some .boolean), Cond.fieldLink RX1 17 "OwnMemoryModel" "kind" "[I", Cond.methodLink RX1 98 yX1_isRoot, Cond.static yX1_isRoot, Cond.code yX1_isRoot cX1_isRoot 1 (some .boolean), Cond.methodLink RX1 76 yX1_in, Cond.static yX1_in, Cond.code yX1_in cX1_in 3 (some .boolean), Cond.methodLink RX1 102 yX1_says, Cond.instanceMethod yX1_says, Cond.selects RX1 yX1_says yX1_says, Cond.code yX1_says cX1_says 2 (some .boolean), Cond.methodLink RX1 133 yX1_goOver, Cond.instanceMethod yX1_goOver, Cond.selects RX1 yX1_goOver yX1_goOver, Cond.code yX1_goOver cX1_goOver 3 (some .boolean), Cond.fieldLink RX1 44 "OwnMemoryModel" "length" "[I", Cond.fieldLink RX1 50 "OwnMemoryModel" "a" "[I"]
def wsX1_compare_r2 : List Cond := [Cond.fieldLink RX1 53 "OwnMemoryModel" "b" "[I", Cond.fieldLink RX1 59 "OwnMemoryModel" "spread" "[I", Cond.methodLink RX1 106 yX1_make, Cond.instanceMethod yX1_make, Cond.selects RX1 yX1_make yX1_make, Cond.code yX1_make cX1_make 4 (some .int), Cond.fieldLink RX1 13 "OwnMemoryModel" "objects" "I", Cond.fieldLink RX1 47 "OwnMemoryModel" "madeOf" "[I", Cond.fieldLink RX1 70 "OwnMemoryModel" "limit" "I", Cond.fieldLink RX1 20 "OwnMemoryModel" "links" "[I", Cond.fieldLink RX1 23 "OwnMemoryModel" "values" "[I", Cond.fieldLink RX1 26 "OwnMemoryModel" "plain" "[I", Cond.methodLink RX1 94 yX1_taken, Cond.instanceMethod yX1_taken, Cond.selects RX1 yX1_taken yX1_taken, Cond.code yX1_taken cX1_taken 3 (some .int), Cond.fieldLink RX1 80 "OwnMemoryModel" "wait" "I", Cond.fieldLink RX1 66 "OwnMemoryModel" "waiting" "[I", Cond.methodLink RX1 87 yX1_look, Cond.instanceMethod yX1_look, Cond.selects RX1 yX1_look yX1_look, Cond.code yX1_look cX1_look 4 none, Cond.fieldLink RX1 62 "OwnMemoryModel" "there" "[Z", Cond.fieldLink RX1 30 "OwnMemoryModel" "link" "[I"]
def wsX1_compare_r3 : List Cond := [Cond.fieldLink RX1 37 "OwnMemoryModel" "refers" "[I", Cond.methodLink RX1 83 yX1_come, Cond.instanceMethod yX1_come, Cond.selects RX1 yX1_come yX1_come, Cond.code yX1_come cX1_come 2 none, Cond.methodLink RX1 90 yX1_words, Cond.instanceMethod yX1_words, Cond.selects RX1 yX1_words yX1_words, Cond.code yX1_words cX1_words 2 (some .int), Cond.methodLink RX1 144 yX1_order, Cond.instanceMethod yX1_order, Cond.selects RX1 yX1_order yX1_order, Cond.code yX1_order cX1_order 7 (some .int), Cond.methodLink RX1 140 yX1_unitOf, Cond.instanceMethod yX1_unitOf, Cond.selects RX1 yX1_unitOf yX1_unitOf, Cond.code yX1_unitOf cX1_unitOf 5 (some .int), Cond.fieldLink RX1 56 "OwnMemoryModel" "units" "[J", Cond.constantLong RX1 125 (65535)]
def wsX1_compare : List Cond := .code yX1_compare cX1_compare 3 (some .int) :: ((wsX1_compare_r1 ++ (wsX1_compare_r2 ++ wsX1_compare_r3)) ++ wsX10)
def wsX1_find_r1 : List Cond := [Cond.fieldLink RX1 13 "OwnMemoryModel" "objects" "I", Cond.fieldLink RX1 62 "OwnMemoryModel" "there" "[Z", Cond.fieldLink RX1 17 "OwnMemoryModel" "kind" "[I", Cond.fieldLink RX1 44 "OwnMemoryModel" "length" "[I", Cond.methodLink RX1 87 yX1_look, Cond.instanceMethod yX1_look, Cond.selects RX1 yX1_look yX1_look, Cond.initialized RX1, Cond.code yX1_look cX1_look 4 none, Cond.fieldLink RX1 80 "OwnMemoryModel" "wait" "I", Cond.fieldLink RX1 9 "OwnMemoryModel" "root" "[I", Cond.fieldLink RX1 66 "OwnMemoryModel" "waiting" "[I", Cond.fieldLink RX1 20 "OwnMemoryModel" "links" "[I", Cond.fieldLink RX1 30 "OwnMemoryModel" "link" "[I", Cond.fieldLink RX1 23 "OwnMemoryModel" "values" "[I", Cond.fieldLink RX1 37 "OwnMemoryModel" "refers" "[I", Cond.fieldLink RX1 50 "OwnMemoryModel" "a" "[I", Cond.fieldLink RX1 53 "OwnMemoryModel" "b" "[I", Cond.fieldLink RX1 59 "OwnMemoryModel" "spread" "[I", Cond.methodLink RX1 83 yX1_come, Cond.instanceMethod yX1_come, Cond.selects RX1 yX1_come yX1_come, Cond.code yX1_come cX1_come 2 none, Cond.methodLink RX1 144 yX1_order]
def wsX1_find_r2 : List Cond := [Cond.instanceMethod yX1_order, Cond.selects RX1 yX1_order yX1_order, Cond.code yX1_order cX1_order 7 (some .int), Cond.methodLink RX1 140 yX1_unitOf, Cond.instanceMethod yX1_unitOf, Cond.selects RX1 yX1_unitOf yX1_unitOf, Cond.code yX1_unitOf cX1_unitOf 5 (some .int), Cond.fieldLink RX1 47 "OwnMemoryModel" "madeOf" "[I", Cond.fieldLink RX1 56 "OwnMemoryModel" "units" "[J", Cond.constantLong RX1 125 (65535)]
def wsX1_find : List Cond := .code yX1_find cX1_find 3 (some .int) :: ((wsX1_find_r1 ++ wsX1_find_r2) ++ wsX10)
def wsX1_name_r1 : List Cond := [Cond.fieldLink RX1 9 "OwnMemoryModel" "root" "[I", Cond.fieldLink RX1 17 "OwnMemoryModel" "kind" "[I", Cond.fieldLink RX1 44 "OwnMemoryModel" "length" "[I", Cond.methodLink RX1 98 yX1_isRoot, Cond.static yX1_isRoot, Cond.initialized RX1, Cond.code yX1_isRoot cX1_isRoot 1 (some .boolean), Cond.methodLink RX1 76 yX1_in, Cond.static yX1_in, Cond.code yX1_in cX1_in 3 (some .boolean), Cond.methodLink RX1 130 yX1_isText, Cond.instanceMethod yX1_isText, Cond.selects RX1 yX1_isText yX1_isText, Cond.code yX1_isText cX1_isText 2 (some .boolean), Cond.methodLink RX1 102 yX1_says, Cond.instanceMethod yX1_says, Cond.selects RX1 yX1_says yX1_says, Cond.code yX1_says cX1_says 2 (some .boolean), Cond.fieldLink RX1 73 "OwnMemoryModel" "thrown" "I", Cond.methodLink RX1 133 yX1_goOver, Cond.instanceMethod yX1_goOver, Cond.selects RX1 yX1_goOver yX1_goOver, Cond.code yX1_goOver cX1_goOver 3 (some .boolean), Cond.fieldLink RX1 50 "OwnMemoryModel" "a" "[I"]
def wsX1_name_r2 : List Cond := [Cond.fieldLink RX1 53 "OwnMemoryModel" "b" "[I", Cond.fieldLink RX1 59 "OwnMemoryModel" "spread" "[I", Cond.methodLink RX1 106 yX1_make, Cond.instanceMethod yX1_make, Cond.selects RX1 yX1_make yX1_make, Cond.code yX1_make cX1_make 4 (some .int), Cond.fieldLink RX1 13 "OwnMemoryModel" "objects" "I", Cond.fieldLink RX1 47 "OwnMemoryModel" "madeOf" "[I", Cond.fieldLink RX1 70 "OwnMemoryModel" "limit" "I", Cond.fieldLink RX1 20 "OwnMemoryModel" "links" "[I", Cond.fieldLink RX1 23 "OwnMemoryModel" "values" "[I", Cond.fieldLink RX1 26 "OwnMemoryModel" "plain" "[I", Cond.methodLink RX1 94 yX1_taken, Cond.instanceMethod yX1_taken, Cond.selects RX1 yX1_taken yX1_taken, Cond.code yX1_taken cX1_taken 3 (some .int), Cond.fieldLink RX1 80 "OwnMemoryModel" "wait" "I", Cond.fieldLink RX1 66 "OwnMemoryModel" "waiting" "[I", Cond.methodLink RX1 87 yX1_look, Cond.instanceMethod yX1_look, Cond.selects RX1 yX1_look yX1_look, Cond.code yX1_look cX1_look 4 none, Cond.fieldLink RX1 62 "OwnMemoryModel" "there" "[Z", Cond.fieldLink RX1 30 "OwnMemoryModel" "link" "[I"]
def wsX1_name_r3 : List Cond := [Cond.fieldLink RX1 37 "OwnMemoryModel" "refers" "[I", Cond.methodLink RX1 83 yX1_come, Cond.instanceMethod yX1_come, Cond.selects RX1 yX1_come yX1_come, Cond.code yX1_come cX1_come 2 none, Cond.methodLink RX1 90 yX1_words, Cond.instanceMethod yX1_words, Cond.selects RX1 yX1_words yX1_words, Cond.code yX1_words cX1_words 2 (some .int), Cond.methodLink RX1 147 yX1_find, Cond.instanceMethod yX1_find, Cond.selects RX1 yX1_find yX1_find, Cond.code yX1_find cX1_find 3 (some .int), Cond.methodLink RX1 144 yX1_order, Cond.instanceMethod yX1_order, Cond.selects RX1 yX1_order yX1_order, Cond.code yX1_order cX1_order 7 (some .int), Cond.methodLink RX1 140 yX1_unitOf, Cond.instanceMethod yX1_unitOf, Cond.selects RX1 yX1_unitOf yX1_unitOf, Cond.code yX1_unitOf cX1_unitOf 5 (some .int), Cond.fieldLink RX1 56 "OwnMemoryModel" "units" "[J", Cond.constantLong RX1 125 (65535), Cond.methodLink RX1 136 yX1_partOf]
def wsX1_name_r4 : List Cond := [Cond.instanceMethod yX1_partOf, Cond.selects RX1 yX1_partOf yX1_partOf, Cond.code yX1_partOf cX1_partOf 6 (some .int), Cond.methodLink RX1 127 yX1_full, Cond.instanceMethod yX1_full, Cond.selects RX1 yX1_full yX1_full, Cond.code yX1_full cX1_full 2 (some .int)]
def wsX1_name : List Cond := .code yX1_name cX1_name 5 none :: ((wsX1_name_r1 ++ (wsX1_name_r2 ++ (wsX1_name_r3 ++ wsX1_name_r4))) ++ wsX10)
theorem dX1_thrown_0 : decode cX1_thrown 0 = .ok (.aload_n 0, 1) := by decide +kernel
theorem dX1_thrown_1 : decode cX1_thrown 1 = .ok (.getfield 73, 3) := by decide +kernel
theorem dX1_thrown_4 : decode cX1_thrown 4 = .ok (.ireturn, 1) := by decide +kernel
theorem dX1_in_0 : decode cX1_in 0 = .ok (.iload_n 0, 1) := by decide +kernel
theorem dX1_in_1 : decode cX1_in 1 = .ok (.iload_n 1, 1) := by decide +kernel
theorem dX1_in_2 : decode cX1_in 2 = .ok (.if_icmp .lt 12, 3) := by decide +kernel
theorem dX1_in_5 : decode cX1_in 5 = .ok (.iload_n 0, 1) := by decide +kernel
theorem dX1_in_6 : decode cX1_in 6 = .ok (.iload_n 2, 1) := by decide +kernel
theorem dX1_in_7 : decode cX1_in 7 = .ok (.if_icmp .gt 7, 3) := by decide +kernel
theorem dX1_in_10 : decode cX1_in 10 = .ok (.iconst 1, 1) := by decide +kernel
theorem dX1_in_11 : decode cX1_in 11 = .ok (.goto 4, 3) := by decide +kernel
theorem dX1_in_14 : decode cX1_in 14 = .ok (.iconst 0, 1) := by decide +kernel
theorem dX1_in_15 : decode cX1_in 15 = .ok (.ireturn, 1) := by decide +kernel
set_option maxRecDepth 20000 in
theorem ggX1_isRoot_X1_in : GoodIn wsX1_isRoot wsX1_in := goodIn_r _ [4] (by decide +kernel) (by decide +kernel)
set_option maxRecDepth 20000 in
theorem gX1_isRoot_X1_in : GoodIn wsX1_isRoot (va_wsS RX1 76 yX1_in wsX1_in) := goodIn_app (goodIn_of _ (by decide +kernel)) ggX1_isRoot_X1_in
theorem dX1_isRoot_0 : decode cX1_isRoot 0 = .ok (.iload_n 0, 1) := by decide +kernel
theorem dX1_isRoot_1 : decode cX1_isRoot 1 = .ok (.iconst 0, 1) := by decide +kernel
theorem dX1_isRoot_2 : decode cX1_isRoot 2 = .ok (.bipush 23, 2) := by decide +kernel
theorem dX1_isRoot_4 : decode cX1_isRoot 4 = .ok (.invokestatic 76, 3) := by decide +kernel
theorem dX1_isRoot_7 : decode cX1_isRoot 7 = .ok (.ireturn, 1) := by decide +kernel
theorem dX1_says_0 : decode cX1_says 0 = .ok (.aload_n 0, 1) := by decide +kernel
theorem dX1_says_1 : decode cX1_says 1 = .ok (.iload_n 1, 1) := by decide +kernel
theorem dX1_says_2 : decode cX1_says 2 = .ok (.ifCond .eq 7, 3) := by decide +kernel
theorem dX1_says_5 : decode cX1_says 5 = .ok (.iconst 0, 1) := by decide +kernel
theorem dX1_says_6 : decode cX1_says 6 = .ok (.goto 4, 3) := by decide +kernel
theorem dX1_says_9 : decode cX1_says 9 = .ok (.iconst 1, 1) := by decide +kernel
theorem dX1_says_10 : decode cX1_says 10 = .ok (.putfield 73, 3) := by decide +kernel
theorem dX1_says_13 : decode cX1_says 13 = .ok (.iload_n 1, 1) := by decide +kernel
theorem dX1_says_14 : decode cX1_says 14 = .ok (.ireturn, 1) := by decide +kernel
theorem dX1_words_0 : decode cX1_words 0 = .ok (.aload_n 0, 1) := by decide +kernel
theorem dX1_words_1 : decode cX1_words 1 = .ok (.getfield 17, 3) := by decide +kernel
theorem dX1_words_4 : decode cX1_words 4 = .ok (.iload_n 1, 1) := by decide +kernel
theorem dX1_words_5 : decode cX1_words 5 = .ok (.iaload, 1) := by decide +kernel
theorem dX1_words_6 : decode cX1_words 6 = .ok (.iconst 1, 1) := by decide +kernel
theorem dX1_words_7 : decode cX1_words 7 = .ok (.if_icmp .ne 28, 3) := by decide +kernel
theorem dX1_words_10 : decode cX1_words 10 = .ok (.iconst 3, 1) := by decide +kernel
theorem dX1_words_11 : decode cX1_words 11 = .ok (.aload_n 0, 1) := by decide +kernel
theorem dX1_words_12 : decode cX1_words 12 = .ok (.getfield 20, 3) := by decide +kernel
theorem dX1_words_15 : decode cX1_words 15 = .ok (.iload_n 1, 1) := by decide +kernel
theorem dX1_words_16 : decode cX1_words 16 = .ok (.iaload, 1) := by decide +kernel
theorem dX1_words_17 : decode cX1_words 17 = .ok (.iadd, 1) := by decide +kernel
theorem dX1_words_18 : decode cX1_words 18 = .ok (.iconst 2, 1) := by decide +kernel
theorem dX1_words_19 : decode cX1_words 19 = .ok (.aload_n 0, 1) := by decide +kernel
theorem dX1_words_20 : decode cX1_words 20 = .ok (.getfield 23, 3) := by decide +kernel
theorem dX1_words_23 : decode cX1_words 23 = .ok (.iload_n 1, 1) := by decide +kernel
theorem dX1_words_24 : decode cX1_words 24 = .ok (.iaload, 1) := by decide +kernel
theorem dX1_words_25 : decode cX1_words 25 = .ok (.imul, 1) := by decide +kernel
theorem dX1_words_26 : decode cX1_words 26 = .ok (.iadd, 1) := by decide +kernel
theorem dX1_words_27 : decode cX1_words 27 = .ok (.aload_n 0, 1) := by decide +kernel
theorem dX1_words_28 : decode cX1_words 28 = .ok (.getfield 26, 3) := by decide +kernel
theorem dX1_words_31 : decode cX1_words 31 = .ok (.iload_n 1, 1) := by decide +kernel
theorem dX1_words_32 : decode cX1_words 32 = .ok (.iaload, 1) := by decide +kernel
theorem dX1_words_33 : decode cX1_words 33 = .ok (.iadd, 1) := by decide +kernel
theorem dX1_words_34 : decode cX1_words 34 = .ok (.ireturn, 1) := by decide +kernel
theorem dX1_words_35 : decode cX1_words 35 = .ok (.aload_n 0, 1) := by decide +kernel
theorem dX1_words_36 : decode cX1_words 36 = .ok (.getfield 17, 3) := by decide +kernel
theorem dX1_words_39 : decode cX1_words 39 = .ok (.iload_n 1, 1) := by decide +kernel
theorem dX1_words_40 : decode cX1_words 40 = .ok (.iaload, 1) := by decide +kernel
theorem dX1_words_41 : decode cX1_words 41 = .ok (.iconst 2, 1) := by decide +kernel
theorem dX1_words_42 : decode cX1_words 42 = .ok (.if_icmp .eq 13, 3) := by decide +kernel
theorem dX1_words_45 : decode cX1_words 45 = .ok (.aload_n 0, 1) := by decide +kernel
theorem dX1_words_46 : decode cX1_words 46 = .ok (.getfield 17, 3) := by decide +kernel
theorem dX1_words_49 : decode cX1_words 49 = .ok (.iload_n 1, 1) := by decide +kernel
theorem dX1_words_50 : decode cX1_words 50 = .ok (.iaload, 1) := by decide +kernel
theorem dX1_words_51 : decode cX1_words 51 = .ok (.iconst 5, 1) := by decide +kernel
theorem dX1_words_52 : decode cX1_words 52 = .ok (.if_icmp .ne 18, 3) := by decide +kernel
theorem dX1_words_55 : decode cX1_words 55 = .ok (.iconst 4, 1) := by decide +kernel
theorem dX1_words_56 : decode cX1_words 56 = .ok (.aload_n 0, 1) := by decide +kernel
theorem dX1_words_57 : decode cX1_words 57 = .ok (.getfield 44, 3) := by decide +kernel
theorem dX1_words_60 : decode cX1_words 60 = .ok (.iload_n 1, 1) := by decide +kernel
theorem dX1_words_61 : decode cX1_words 61 = .ok (.iaload, 1) := by decide +kernel
theorem dX1_words_62 : decode cX1_words 62 = .ok (.iconst 1, 1) := by decide +kernel
theorem dX1_words_63 : decode cX1_words 63 = .ok (.iadd, 1) := by decide +kernel
theorem dX1_words_64 : decode cX1_words 64 = .ok (.iconst 2, 1) := by decide +kernel
theorem dX1_words_65 : decode cX1_words 65 = .ok (.idiv, 1) := by decide +kernel
theorem dX1_words_66 : decode cX1_words 66 = .ok (.iadd, 1) := by decide +kernel
theorem dX1_words_67 : decode cX1_words 67 = .ok (.goto 5, 3) := by decide +kernel
theorem dX1_words_70 : decode cX1_words 70 = .ok (.bipush 6, 2) := by decide +kernel
theorem dX1_words_72 : decode cX1_words 72 = .ok (.ireturn, 1) := by decide +kernel
theorem dX1_come_0 : decode cX1_come 0 = .ok (.iload_n 1, 1) := by decide +kernel
theorem dX1_come_1 : decode cX1_come 1 = .ok (.ifCond .eq 12, 3) := by decide +kernel
theorem dX1_come_4 : decode cX1_come 4 = .ok (.aload_n 0, 1) := by decide +kernel
theorem dX1_come_5 : decode cX1_come 5 = .ok (.getfield 62, 3) := by decide +kernel
theorem dX1_come_8 : decode cX1_come 8 = .ok (.iload_n 1, 1) := by decide +kernel
theorem dX1_come_9 : decode cX1_come 9 = .ok (.baload, 1) := by decide +kernel
theorem dX1_come_10 : decode cX1_come 10 = .ok (.ifCond .eq 4, 3) := by decide +kernel
theorem dX1_come_13 : decode cX1_come 13 = .ok (.return_, 1) := by decide +kernel
theorem dX1_come_14 : decode cX1_come 14 = .ok (.aload_n 0, 1) := by decide +kernel
theorem dX1_come_15 : decode cX1_come 15 = .ok (.getfield 62, 3) := by decide +kernel
theorem dX1_come_18 : decode cX1_come 18 = .ok (.iload_n 1, 1) := by decide +kernel
theorem dX1_come_19 : decode cX1_come 19 = .ok (.iconst 1, 1) := by decide +kernel
theorem dX1_come_20 : decode cX1_come 20 = .ok (.bastore, 1) := by decide +kernel
theorem dX1_come_21 : decode cX1_come 21 = .ok (.aload_n 0, 1) := by decide +kernel
theorem dX1_come_22 : decode cX1_come 22 = .ok (.getfield 66, 3) := by decide +kernel
theorem dX1_come_25 : decode cX1_come 25 = .ok (.aload_n 0, 1) := by decide +kernel
theorem dX1_come_26 : decode cX1_come 26 = .ok (.getfield 80, 3) := by decide +kernel
theorem dX1_come_29 : decode cX1_come 29 = .ok (.iload_n 1, 1) := by decide +kernel
theorem dX1_come_30 : decode cX1_come 30 = .ok (.iastore, 1) := by decide +kernel
theorem dX1_come_31 : decode cX1_come 31 = .ok (.aload_n 0, 1) := by decide +kernel
theorem dX1_come_32 : decode cX1_come 32 = .ok (.dup, 1) := by decide +kernel
theorem dX1_come_33 : decode cX1_come 33 = .ok (.getfield 80, 3) := by decide +kernel
theorem dX1_come_36 : decode cX1_come 36 = .ok (.iconst 1, 1) := by decide +kernel
theorem dX1_come_37 : decode cX1_come 37 = .ok (.iadd, 1) := by decide +kernel
theorem dX1_come_38 : decode cX1_come 38 = .ok (.putfield 80, 3) := by decide +kernel
theorem dX1_come_41 : decode cX1_come 41 = .ok (.return_, 1) := by decide +kernel
set_option maxRecDepth 20000 in
theorem ggX1_look_X1_come : GoodIn wsX1_look wsX1_come := goodIn_r _ [18, 3, 5, 1, 19, 20, 21, 22, 23, 24, 25, 26, 27, 28, 29, 30, 31, 32, 33, 34, 35, 36, 37, 38, 39] (by decide +kernel) (by decide +kernel)
set_option maxRecDepth 20000 in
theorem gX1_look_X1_come : GoodIn wsX1_look (wsV RX1 83 RX1 yX1_come wsX1_come) := goodIn_app (goodIn_of _ (by decide +kernel)) ggX1_look_X1_come
theorem dX1_look_0 : decode cX1_look 0 = .ok (.aload_n 0, 1) := by decide +kernel
theorem dX1_look_1 : decode cX1_look 1 = .ok (.iconst 0, 1) := by decide +kernel
theorem dX1_look_2 : decode cX1_look 2 = .ok (.putfield 80, 3) := by decide +kernel
theorem dX1_look_5 : decode cX1_look 5 = .ok (.iconst 0, 1) := by decide +kernel
theorem dX1_look_6 : decode cX1_look 6 = .ok (.istore_n 1, 1) := by decide +kernel
theorem dX1_look_7 : decode cX1_look 7 = .ok (.iload_n 1, 1) := by decide +kernel
theorem dX1_look_8 : decode cX1_look 8 = .ok (.aload_n 0, 1) := by decide +kernel
theorem dX1_look_9 : decode cX1_look 9 = .ok (.getfield 13, 3) := by decide +kernel
theorem dX1_look_12 : decode cX1_look 12 = .ok (.if_icmp .ge 16, 3) := by decide +kernel
theorem dX1_look_15 : decode cX1_look 15 = .ok (.aload_n 0, 1) := by decide +kernel
theorem dX1_look_16 : decode cX1_look 16 = .ok (.getfield 62, 3) := by decide +kernel
theorem dX1_look_19 : decode cX1_look 19 = .ok (.iload_n 1, 1) := by decide +kernel
theorem dX1_look_20 : decode cX1_look 20 = .ok (.iconst 0, 1) := by decide +kernel
theorem dX1_look_21 : decode cX1_look 21 = .ok (.bastore, 1) := by decide +kernel
theorem dX1_look_22 : decode cX1_look 22 = .ok (.iinc 1 1, 3) := by decide +kernel
theorem dX1_look_25 : decode cX1_look 25 = .ok (.goto (-18), 3) := by decide +kernel
theorem dX1_look_28 : decode cX1_look 28 = .ok (.iconst 0, 1) := by decide +kernel
theorem dX1_look_29 : decode cX1_look 29 = .ok (.istore_n 1, 1) := by decide +kernel
theorem dX1_look_30 : decode cX1_look 30 = .ok (.iload_n 1, 1) := by decide +kernel
theorem dX1_look_31 : decode cX1_look 31 = .ok (.bipush 24, 2) := by decide +kernel
theorem dX1_look_33 : decode cX1_look 33 = .ok (.if_icmp .ge 19, 3) := by decide +kernel
theorem dX1_look_36 : decode cX1_look 36 = .ok (.aload_n 0, 1) := by decide +kernel
theorem dX1_look_37 : decode cX1_look 37 = .ok (.aload_n 0, 1) := by decide +kernel
theorem dX1_look_38 : decode cX1_look 38 = .ok (.getfield 9, 3) := by decide +kernel
theorem dX1_look_41 : decode cX1_look 41 = .ok (.iload_n 1, 1) := by decide +kernel
theorem dX1_look_42 : decode cX1_look 42 = .ok (.iaload, 1) := by decide +kernel
theorem dX1_look_43 : decode cX1_look 43 = .ok (.invokevirtual 83, 3) := by decide +kernel
theorem dX1_look_46 : decode cX1_look 46 = .ok (.iinc 1 1, 3) := by decide +kernel
theorem dX1_look_49 : decode cX1_look 49 = .ok (.goto (-19), 3) := by decide +kernel
theorem dX1_look_52 : decode cX1_look 52 = .ok (.iconst 0, 1) := by decide +kernel
theorem dX1_look_53 : decode cX1_look 53 = .ok (.istore_n 1, 1) := by decide +kernel
theorem dX1_look_54 : decode cX1_look 54 = .ok (.iload_n 1, 1) := by decide +kernel
theorem dX1_look_55 : decode cX1_look 55 = .ok (.aload_n 0, 1) := by decide +kernel
theorem dX1_look_56 : decode cX1_look 56 = .ok (.getfield 80, 3) := by decide +kernel
theorem dX1_look_59 : decode cX1_look 59 = .ok (.if_icmp .ge 148, 3) := by decide +kernel
theorem dX1_look_62 : decode cX1_look 62 = .ok (.aload_n 0, 1) := by decide +kernel
theorem dX1_look_63 : decode cX1_look 63 = .ok (.getfield 66, 3) := by decide +kernel
theorem dX1_look_66 : decode cX1_look 66 = .ok (.iload_n 1, 1) := by decide +kernel
theorem dX1_look_67 : decode cX1_look 67 = .ok (.iaload, 1) := by decide +kernel
theorem dX1_look_68 : decode cX1_look 68 = .ok (.istore_n 2, 1) := by decide +kernel
theorem dX1_look_69 : decode cX1_look 69 = .ok (.bipush 8, 2) := by decide +kernel
theorem dX1_look_71 : decode cX1_look 71 = .ok (.iload_n 2, 1) := by decide +kernel
theorem dX1_look_72 : decode cX1_look 72 = .ok (.imul, 1) := by decide +kernel
theorem dX1_look_73 : decode cX1_look 73 = .ok (.istore_n 3, 1) := by decide +kernel
theorem dX1_look_74 : decode cX1_look 74 = .ok (.iload_n 3, 1) := by decide +kernel
theorem dX1_look_75 : decode cX1_look 75 = .ok (.bipush 8, 2) := by decide +kernel
theorem dX1_look_77 : decode cX1_look 77 = .ok (.iload_n 2, 1) := by decide +kernel
theorem dX1_look_78 : decode cX1_look 78 = .ok (.imul, 1) := by decide +kernel
theorem dX1_look_79 : decode cX1_look 79 = .ok (.aload_n 0, 1) := by decide +kernel
theorem dX1_look_80 : decode cX1_look 80 = .ok (.getfield 20, 3) := by decide +kernel
theorem dX1_look_83 : decode cX1_look 83 = .ok (.iload_n 2, 1) := by decide +kernel
theorem dX1_look_84 : decode cX1_look 84 = .ok (.iaload, 1) := by decide +kernel
theorem dX1_look_85 : decode cX1_look 85 = .ok (.iadd, 1) := by decide +kernel
theorem dX1_look_86 : decode cX1_look 86 = .ok (.if_icmp .ge 19, 3) := by decide +kernel
theorem dX1_look_89 : decode cX1_look 89 = .ok (.aload_n 0, 1) := by decide +kernel
theorem dX1_look_90 : decode cX1_look 90 = .ok (.aload_n 0, 1) := by decide +kernel
theorem dX1_look_91 : decode cX1_look 91 = .ok (.getfield 30, 3) := by decide +kernel
theorem dX1_look_94 : decode cX1_look 94 = .ok (.iload_n 3, 1) := by decide +kernel
theorem dX1_look_95 : decode cX1_look 95 = .ok (.iaload, 1) := by decide +kernel
theorem dX1_look_96 : decode cX1_look 96 = .ok (.invokevirtual 83, 3) := by decide +kernel
theorem dX1_look_99 : decode cX1_look 99 = .ok (.iinc 3 1, 3) := by decide +kernel
theorem dX1_look_102 : decode cX1_look 102 = .ok (.goto (-28), 3) := by decide +kernel
theorem dX1_look_105 : decode cX1_look 105 = .ok (.bipush 8, 2) := by decide +kernel
theorem dX1_look_107 : decode cX1_look 107 = .ok (.iload_n 2, 1) := by decide +kernel
theorem dX1_look_108 : decode cX1_look 108 = .ok (.imul, 1) := by decide +kernel
theorem dX1_look_109 : decode cX1_look 109 = .ok (.istore_n 3, 1) := by decide +kernel
theorem dX1_look_110 : decode cX1_look 110 = .ok (.iload_n 3, 1) := by decide +kernel
theorem dX1_look_111 : decode cX1_look 111 = .ok (.bipush 8, 2) := by decide +kernel
theorem dX1_look_113 : decode cX1_look 113 = .ok (.iload_n 2, 1) := by decide +kernel
theorem dX1_look_114 : decode cX1_look 114 = .ok (.imul, 1) := by decide +kernel
theorem dX1_look_115 : decode cX1_look 115 = .ok (.aload_n 0, 1) := by decide +kernel
theorem dX1_look_116 : decode cX1_look 116 = .ok (.getfield 23, 3) := by decide +kernel
theorem dX1_look_119 : decode cX1_look 119 = .ok (.iload_n 2, 1) := by decide +kernel
theorem dX1_look_120 : decode cX1_look 120 = .ok (.iaload, 1) := by decide +kernel
theorem dX1_look_121 : decode cX1_look 121 = .ok (.iadd, 1) := by decide +kernel
theorem dX1_look_122 : decode cX1_look 122 = .ok (.if_icmp .ge 19, 3) := by decide +kernel
theorem dX1_look_125 : decode cX1_look 125 = .ok (.aload_n 0, 1) := by decide +kernel
theorem dX1_look_126 : decode cX1_look 126 = .ok (.aload_n 0, 1) := by decide +kernel
theorem dX1_look_127 : decode cX1_look 127 = .ok (.getfield 37, 3) := by decide +kernel
theorem dX1_look_130 : decode cX1_look 130 = .ok (.iload_n 3, 1) := by decide +kernel
theorem dX1_look_131 : decode cX1_look 131 = .ok (.iaload, 1) := by decide +kernel
theorem dX1_look_132 : decode cX1_look 132 = .ok (.invokevirtual 83, 3) := by decide +kernel
theorem dX1_look_135 : decode cX1_look 135 = .ok (.iinc 3 1, 3) := by decide +kernel
theorem dX1_look_138 : decode cX1_look 138 = .ok (.goto (-28), 3) := by decide +kernel
theorem dX1_look_141 : decode cX1_look 141 = .ok (.aload_n 0, 1) := by decide +kernel
theorem dX1_look_142 : decode cX1_look 142 = .ok (.getfield 17, 3) := by decide +kernel
theorem dX1_look_145 : decode cX1_look 145 = .ok (.iload_n 2, 1) := by decide +kernel
theorem dX1_look_146 : decode cX1_look 146 = .ok (.iaload, 1) := by decide +kernel
theorem dX1_look_147 : decode cX1_look 147 = .ok (.iconst 3, 1) := by decide +kernel
theorem dX1_look_148 : decode cX1_look 148 = .ok (.if_icmp .ne 13, 3) := by decide +kernel
theorem dX1_look_151 : decode cX1_look 151 = .ok (.aload_n 0, 1) := by decide +kernel
theorem dX1_look_152 : decode cX1_look 152 = .ok (.aload_n 0, 1) := by decide +kernel
theorem dX1_look_153 : decode cX1_look 153 = .ok (.getfield 50, 3) := by decide +kernel
theorem dX1_look_156 : decode cX1_look 156 = .ok (.iload_n 2, 1) := by decide +kernel
theorem dX1_look_157 : decode cX1_look 157 = .ok (.iaload, 1) := by decide +kernel
theorem dX1_look_158 : decode cX1_look 158 = .ok (.invokevirtual 83, 3) := by decide +kernel
theorem dX1_look_161 : decode cX1_look 161 = .ok (.aload_n 0, 1) := by decide +kernel
theorem dX1_look_162 : decode cX1_look 162 = .ok (.getfield 17, 3) := by decide +kernel
theorem dX1_look_165 : decode cX1_look 165 = .ok (.iload_n 2, 1) := by decide +kernel
theorem dX1_look_166 : decode cX1_look 166 = .ok (.iaload, 1) := by decide +kernel
theorem dX1_look_167 : decode cX1_look 167 = .ok (.iconst 3, 1) := by decide +kernel
theorem dX1_look_168 : decode cX1_look 168 = .ok (.if_icmp .ne 13, 3) := by decide +kernel
theorem dX1_look_171 : decode cX1_look 171 = .ok (.aload_n 0, 1) := by decide +kernel
theorem dX1_look_172 : decode cX1_look 172 = .ok (.aload_n 0, 1) := by decide +kernel
theorem dX1_look_173 : decode cX1_look 173 = .ok (.getfield 53, 3) := by decide +kernel
theorem dX1_look_176 : decode cX1_look 176 = .ok (.iload_n 2, 1) := by decide +kernel
theorem dX1_look_177 : decode cX1_look 177 = .ok (.iaload, 1) := by decide +kernel
theorem dX1_look_178 : decode cX1_look 178 = .ok (.invokevirtual 83, 3) := by decide +kernel
theorem dX1_look_181 : decode cX1_look 181 = .ok (.aload_n 0, 1) := by decide +kernel
theorem dX1_look_182 : decode cX1_look 182 = .ok (.getfield 17, 3) := by decide +kernel
theorem dX1_look_185 : decode cX1_look 185 = .ok (.iload_n 2, 1) := by decide +kernel
theorem dX1_look_186 : decode cX1_look 186 = .ok (.iaload, 1) := by decide +kernel
theorem dX1_look_187 : decode cX1_look 187 = .ok (.iconst 4, 1) := by decide +kernel
theorem dX1_look_188 : decode cX1_look 188 = .ok (.if_icmp .ne 13, 3) := by decide +kernel
theorem dX1_look_191 : decode cX1_look 191 = .ok (.aload_n 0, 1) := by decide +kernel
theorem dX1_look_192 : decode cX1_look 192 = .ok (.aload_n 0, 1) := by decide +kernel
theorem dX1_look_193 : decode cX1_look 193 = .ok (.getfield 59, 3) := by decide +kernel
theorem dX1_look_196 : decode cX1_look 196 = .ok (.iload_n 2, 1) := by decide +kernel
theorem dX1_look_197 : decode cX1_look 197 = .ok (.iaload, 1) := by decide +kernel
theorem dX1_look_198 : decode cX1_look 198 = .ok (.invokevirtual 83, 3) := by decide +kernel
theorem dX1_look_201 : decode cX1_look 201 = .ok (.iinc 1 1, 3) := by decide +kernel
theorem dX1_look_204 : decode cX1_look 204 = .ok (.goto (-150), 3) := by decide +kernel
theorem dX1_look_207 : decode cX1_look 207 = .ok (.return_, 1) := by decide +kernel
set_option maxRecDepth 20000 in
theorem ggX1_taken_X1_look : GoodIn wsX1_taken wsX1_look := goodIn_r _ [7, 1, 8, 9, 10, 2, 11, 12, 13, 14, 15, 16, 17, 18, 19, 20, 21, 6, 22, 29, 30, 31, 32, 33, 34, 35, 36, 37, 38, 39, 40, 41, 42, 43, 44, 45, 46, 47, 48, 49] (by decide +kernel) (by decide +kernel)
set_option maxRecDepth 20000 in
theorem gX1_taken_X1_look : GoodIn wsX1_taken (wsV RX1 87 RX1 yX1_look wsX1_look) := goodIn_app (goodIn_of _ (by decide +kernel)) ggX1_taken_X1_look
set_option maxRecDepth 20000 in
theorem ggX1_taken_X1_words : GoodIn wsX1_taken wsX1_words := goodIn_r _ [26, 15, 11, 13, 27, 28, 29, 30, 31, 32, 33, 34, 35, 36, 37, 38, 39, 40, 41, 42, 43, 44, 45, 46, 47, 48, 49] (by decide +kernel) (by decide +kernel)
set_option maxRecDepth 20000 in
theorem gX1_taken_X1_words : GoodIn wsX1_taken (wsV RX1 90 RX1 yX1_words wsX1_words) := goodIn_app (goodIn_of _ (by decide +kernel)) ggX1_taken_X1_words
theorem dX1_taken_0 : decode cX1_taken 0 = .ok (.aload_n 0, 1) := by decide +kernel
theorem dX1_taken_1 : decode cX1_taken 1 = .ok (.invokevirtual 87, 3) := by decide +kernel
theorem dX1_taken_4 : decode cX1_taken 4 = .ok (.iconst 0, 1) := by decide +kernel
theorem dX1_taken_5 : decode cX1_taken 5 = .ok (.istore_n 1, 1) := by decide +kernel
theorem dX1_taken_6 : decode cX1_taken 6 = .ok (.iconst 0, 1) := by decide +kernel
theorem dX1_taken_7 : decode cX1_taken 7 = .ok (.istore_n 2, 1) := by decide +kernel
theorem dX1_taken_8 : decode cX1_taken 8 = .ok (.iload_n 2, 1) := by decide +kernel
theorem dX1_taken_9 : decode cX1_taken 9 = .ok (.aload_n 0, 1) := by decide +kernel
theorem dX1_taken_10 : decode cX1_taken 10 = .ok (.getfield 80, 3) := by decide +kernel
theorem dX1_taken_13 : decode cX1_taken 13 = .ok (.if_icmp .ge 22, 3) := by decide +kernel
theorem dX1_taken_16 : decode cX1_taken 16 = .ok (.iload_n 1, 1) := by decide +kernel
theorem dX1_taken_17 : decode cX1_taken 17 = .ok (.aload_n 0, 1) := by decide +kernel
theorem dX1_taken_18 : decode cX1_taken 18 = .ok (.aload_n 0, 1) := by decide +kernel
theorem dX1_taken_19 : decode cX1_taken 19 = .ok (.getfield 66, 3) := by decide +kernel
theorem dX1_taken_22 : decode cX1_taken 22 = .ok (.iload_n 2, 1) := by decide +kernel
theorem dX1_taken_23 : decode cX1_taken 23 = .ok (.iaload, 1) := by decide +kernel
theorem dX1_taken_24 : decode cX1_taken 24 = .ok (.invokevirtual 90, 3) := by decide +kernel
theorem dX1_taken_27 : decode cX1_taken 27 = .ok (.iadd, 1) := by decide +kernel
theorem dX1_taken_28 : decode cX1_taken 28 = .ok (.istore_n 1, 1) := by decide +kernel
theorem dX1_taken_29 : decode cX1_taken 29 = .ok (.iinc 2 1, 3) := by decide +kernel
theorem dX1_taken_32 : decode cX1_taken 32 = .ok (.goto (-24), 3) := by decide +kernel
theorem dX1_taken_35 : decode cX1_taken 35 = .ok (.iload_n 1, 1) := by decide +kernel
theorem dX1_taken_36 : decode cX1_taken 36 = .ok (.ireturn, 1) := by decide +kernel
set_option maxRecDepth 20000 in
theorem ggX1_make_X1_taken : GoodIn wsX1_make wsX1_taken := goodIn_r _ [13, 14, 15, 16, 17, 18, 12, 19, 2, 20, 21, 6, 22, 7, 23, 1, 24, 25, 26, 27, 28, 29, 30, 31, 32, 33, 34, 8, 3, 35, 36, 37, 38, 39, 40, 41, 42, 43, 44, 45, 46, 47, 48, 49, 50, 51, 52, 53, 54, 55] (by decide +kernel) (by decide +kernel)
set_option maxRecDepth 20000 in
theorem gX1_make_X1_taken : GoodIn wsX1_make (wsV RX1 94 RX1 yX1_taken wsX1_taken) := goodIn_app (goodIn_of _ (by decide +kernel)) ggX1_make_X1_taken
set_option maxRecDepth 20000 in
theorem ggX1_make_X1_words : GoodIn wsX1_make wsX1_words := goodIn_r _ [34, 1, 6, 7, 8, 3, 35, 36, 37, 38, 39, 40, 41, 42, 43, 44, 45, 46, 47, 48, 49, 50, 51, 52, 53, 54, 55] (by decide +kernel) (by decide +kernel)
set_option maxRecDepth 20000 in
theorem gX1_make_X1_words : GoodIn wsX1_make (wsV RX1 90 RX1 yX1_words wsX1_words) := goodIn_app (goodIn_of _ (by decide +kernel)) ggX1_make_X1_words
theorem dX1_make_0 : decode cX1_make 0 = .ok (.aload_n 0, 1) := by decide +kernel
theorem dX1_make_1 : decode cX1_make 1 = .ok (.getfield 17, 3) := by decide +kernel
theorem dX1_make_4 : decode cX1_make 4 = .ok (.aload_n 0, 1) := by decide +kernel
theorem dX1_make_5 : decode cX1_make 5 = .ok (.getfield 13, 3) := by decide +kernel
theorem dX1_make_8 : decode cX1_make 8 = .ok (.iload_n 1, 1) := by decide +kernel
theorem dX1_make_9 : decode cX1_make 9 = .ok (.iastore, 1) := by decide +kernel
theorem dX1_make_10 : decode cX1_make 10 = .ok (.aload_n 0, 1) := by decide +kernel
theorem dX1_make_11 : decode cX1_make 11 = .ok (.getfield 44, 3) := by decide +kernel
theorem dX1_make_14 : decode cX1_make 14 = .ok (.aload_n 0, 1) := by decide +kernel
theorem dX1_make_15 : decode cX1_make 15 = .ok (.getfield 13, 3) := by decide +kernel
theorem dX1_make_18 : decode cX1_make 18 = .ok (.iload_n 2, 1) := by decide +kernel
theorem dX1_make_19 : decode cX1_make 19 = .ok (.iastore, 1) := by decide +kernel
theorem dX1_make_20 : decode cX1_make 20 = .ok (.aload_n 0, 1) := by decide +kernel
theorem dX1_make_21 : decode cX1_make 21 = .ok (.getfield 47, 3) := by decide +kernel
theorem dX1_make_24 : decode cX1_make 24 = .ok (.aload_n 0, 1) := by decide +kernel
theorem dX1_make_25 : decode cX1_make 25 = .ok (.getfield 13, 3) := by decide +kernel
theorem dX1_make_28 : decode cX1_make 28 = .ok (.iload_n 3, 1) := by decide +kernel
theorem dX1_make_29 : decode cX1_make 29 = .ok (.iastore, 1) := by decide +kernel
theorem dX1_make_30 : decode cX1_make 30 = .ok (.aload_n 0, 1) := by decide +kernel
theorem dX1_make_31 : decode cX1_make 31 = .ok (.invokevirtual 94, 3) := by decide +kernel
theorem dX1_make_34 : decode cX1_make 34 = .ok (.aload_n 0, 1) := by decide +kernel
theorem dX1_make_35 : decode cX1_make 35 = .ok (.aload_n 0, 1) := by decide +kernel
theorem dX1_make_36 : decode cX1_make 36 = .ok (.getfield 13, 3) := by decide +kernel
theorem dX1_make_39 : decode cX1_make 39 = .ok (.invokevirtual 90, 3) := by decide +kernel
theorem dX1_make_42 : decode cX1_make 42 = .ok (.iadd, 1) := by decide +kernel
theorem dX1_make_43 : decode cX1_make 43 = .ok (.aload_n 0, 1) := by decide +kernel
theorem dX1_make_44 : decode cX1_make 44 = .ok (.getfield 70, 3) := by decide +kernel
theorem dX1_make_47 : decode cX1_make 47 = .ok (.if_icmp .le 35, 3) := by decide +kernel
theorem dX1_make_50 : decode cX1_make 50 = .ok (.aload_n 0, 1) := by decide +kernel
theorem dX1_make_51 : decode cX1_make 51 = .ok (.getfield 20, 3) := by decide +kernel
theorem dX1_make_54 : decode cX1_make 54 = .ok (.aload_n 0, 1) := by decide +kernel
theorem dX1_make_55 : decode cX1_make 55 = .ok (.getfield 13, 3) := by decide +kernel
theorem dX1_make_58 : decode cX1_make 58 = .ok (.iconst 0, 1) := by decide +kernel
theorem dX1_make_59 : decode cX1_make 59 = .ok (.iastore, 1) := by decide +kernel
theorem dX1_make_60 : decode cX1_make 60 = .ok (.aload_n 0, 1) := by decide +kernel
theorem dX1_make_61 : decode cX1_make 61 = .ok (.getfield 23, 3) := by decide +kernel
theorem dX1_make_64 : decode cX1_make 64 = .ok (.aload_n 0, 1) := by decide +kernel
theorem dX1_make_65 : decode cX1_make 65 = .ok (.getfield 13, 3) := by decide +kernel
theorem dX1_make_68 : decode cX1_make 68 = .ok (.iconst 0, 1) := by decide +kernel
theorem dX1_make_69 : decode cX1_make 69 = .ok (.iastore, 1) := by decide +kernel
theorem dX1_make_70 : decode cX1_make 70 = .ok (.aload_n 0, 1) := by decide +kernel
theorem dX1_make_71 : decode cX1_make 71 = .ok (.getfield 26, 3) := by decide +kernel
theorem dX1_make_74 : decode cX1_make 74 = .ok (.aload_n 0, 1) := by decide +kernel
theorem dX1_make_75 : decode cX1_make 75 = .ok (.getfield 13, 3) := by decide +kernel
theorem dX1_make_78 : decode cX1_make 78 = .ok (.iconst 0, 1) := by decide +kernel
theorem dX1_make_79 : decode cX1_make 79 = .ok (.iastore, 1) := by decide +kernel
theorem dX1_make_80 : decode cX1_make 80 = .ok (.iconst 0, 1) := by decide +kernel
theorem dX1_make_81 : decode cX1_make 81 = .ok (.ireturn, 1) := by decide +kernel
theorem dX1_make_82 : decode cX1_make 82 = .ok (.aload_n 0, 1) := by decide +kernel
theorem dX1_make_83 : decode cX1_make 83 = .ok (.dup, 1) := by decide +kernel
theorem dX1_make_84 : decode cX1_make 84 = .ok (.getfield 13, 3) := by decide +kernel
theorem dX1_make_87 : decode cX1_make 87 = .ok (.iconst 1, 1) := by decide +kernel
theorem dX1_make_88 : decode cX1_make 88 = .ok (.iadd, 1) := by decide +kernel
theorem dX1_make_89 : decode cX1_make 89 = .ok (.putfield 13, 3) := by decide +kernel
theorem dX1_make_92 : decode cX1_make 92 = .ok (.aload_n 0, 1) := by decide +kernel
theorem dX1_make_93 : decode cX1_make 93 = .ok (.getfield 13, 3) := by decide +kernel
theorem dX1_make_96 : decode cX1_make 96 = .ok (.iconst 1, 1) := by decide +kernel
theorem dX1_make_97 : decode cX1_make 97 = .ok (.isub, 1) := by decide +kernel
theorem dX1_make_98 : decode cX1_make 98 = .ok (.ireturn, 1) := by decide +kernel
set_option maxRecDepth 20000 in
theorem ggX1_collect_X1_taken : GoodIn wsX1_collect wsX1_taken := goodIn_r _ [6, 7, 8, 9, 10, 11, 5, 12, 13, 14, 15, 16, 17, 18, 19, 20, 21, 22, 23, 24, 25, 26, 27, 28, 29, 30, 31, 32, 33, 34, 35, 36, 37, 38, 39, 40, 41, 42, 43, 44, 45, 46, 47, 48, 49, 50, 51, 52, 53, 54] (by decide +kernel) (by decide +kernel)
set_option maxRecDepth 20000 in
theorem gX1_collect_X1_taken : GoodIn wsX1_collect (wsV RX1 94 RX1 yX1_taken wsX1_taken) := goodIn_app (goodIn_of _ (by decide +kernel)) ggX1_collect_X1_taken
theorem dX1_collect_0 : decode cX1_collect 0 = .ok (.aload_n 0, 1) := by decide +kernel
theorem dX1_collect_1 : decode cX1_collect 1 = .ok (.iconst 0, 1) := by decide +kernel
theorem dX1_collect_2 : decode cX1_collect 2 = .ok (.putfield 73, 3) := by decide +kernel
theorem dX1_collect_5 : decode cX1_collect 5 = .ok (.aload_n 0, 1) := by decide +kernel
theorem dX1_collect_6 : decode cX1_collect 6 = .ok (.invokevirtual 94, 3) := by decide +kernel
theorem dX1_collect_9 : decode cX1_collect 9 = .ok (.ireturn, 1) := by decide +kernel
theorem dX1_stress_0 : decode cX1_stress 0 = .ok (.aload_n 0, 1) := by decide +kernel
theorem dX1_stress_1 : decode cX1_stress 1 = .ok (.iload_n 1, 1) := by decide +kernel
theorem dX1_stress_2 : decode cX1_stress 2 = .ok (.ifCond .lt 7, 3) := by decide +kernel
theorem dX1_stress_5 : decode cX1_stress 5 = .ok (.iconst 0, 1) := by decide +kernel
theorem dX1_stress_6 : decode cX1_stress 6 = .ok (.goto 4, 3) := by decide +kernel
theorem dX1_stress_9 : decode cX1_stress 9 = .ok (.iconst 1, 1) := by decide +kernel
theorem dX1_stress_10 : decode cX1_stress 10 = .ok (.putfield 73, 3) := by decide +kernel
theorem dX1_stress_13 : decode cX1_stress 13 = .ok (.return_, 1) := by decide +kernel
set_option maxRecDepth 20000 in
theorem ggX1_take_X1_isRoot : GoodIn wsX1_take wsX1_isRoot := goodIn_r _ [10, 11, 12, 9, 13] (by decide +kernel) (by decide +kernel)
set_option maxRecDepth 20000 in
theorem gX1_take_X1_isRoot : GoodIn wsX1_take (va_wsS RX1 98 yX1_isRoot wsX1_isRoot) := goodIn_app (goodIn_of _ (by decide +kernel)) ggX1_take_X1_isRoot
set_option maxRecDepth 20000 in
theorem ggX1_take_X1_in : GoodIn wsX1_take wsX1_in := goodIn_r _ [13] (by decide +kernel) (by decide +kernel)
set_option maxRecDepth 20000 in
theorem gX1_take_X1_in : GoodIn wsX1_take (va_wsS RX1 76 yX1_in wsX1_in) := goodIn_app (goodIn_of _ (by decide +kernel)) ggX1_take_X1_in
set_option maxRecDepth 20000 in
theorem ggX1_take_X1_says : GoodIn wsX1_take wsX1_says := goodIn_r _ [17, 5, 50, 51, 52, 53, 54, 55, 56, 57, 58, 59, 60, 61, 62, 63, 64, 65, 66, 67, 68, 69, 70] (by decide +kernel) (by decide +kernel)
set_option maxRecDepth 20000 in
theorem gX1_take_X1_says : GoodIn wsX1_take (wsV RX1 102 RX1 yX1_says wsX1_says) := goodIn_app (goodIn_of _ (by decide +kernel)) ggX1_take_X1_says
set_option maxRecDepth 20000 in
theorem ggX1_take_X1_make : GoodIn wsX1_take wsX1_make := goodIn_r _ [21, 22, 2, 23, 24, 25, 1, 3, 4, 26, 27, 28, 9, 29, 30, 31, 32, 33, 34, 35, 36, 6, 37, 38, 39, 40, 41, 42, 43, 44, 45, 46, 47, 48, 49, 50, 51, 52, 53, 54, 55, 56, 57, 58, 59, 60, 61, 62, 63, 64, 65, 66, 67, 68, 69, 70] (by decide +kernel) (by decide +kernel)
set_option maxRecDepth 20000 in
theorem gX1_take_X1_make : GoodIn wsX1_take (wsV RX1 106 RX1 yX1_make wsX1_make) := goodIn_app (goodIn_of _ (by decide +kernel)) ggX1_take_X1_make
theorem dX1_take_0 : decode cX1_take 0 = .ok (.aload_n 0, 1) := by decide +kernel
theorem dX1_take_1 : decode cX1_take 1 = .ok (.iload_n 1, 1) := by decide +kernel
theorem dX1_take_2 : decode cX1_take 2 = .ok (.invokestatic 98, 3) := by decide +kernel
theorem dX1_take_5 : decode cX1_take 5 = .ok (.ifCond .eq 38, 3) := by decide +kernel
theorem dX1_take_8 : decode cX1_take 8 = .ok (.iload_n 2, 1) := by decide +kernel
theorem dX1_take_9 : decode cX1_take 9 = .ok (.iconst 0, 1) := by decide +kernel
theorem dX1_take_10 : decode cX1_take 10 = .ok (.bipush 8, 2) := by decide +kernel
theorem dX1_take_12 : decode cX1_take 12 = .ok (.invokestatic 76, 3) := by decide +kernel
theorem dX1_take_15 : decode cX1_take 15 = .ok (.ifCond .eq 28, 3) := by decide +kernel
theorem dX1_take_18 : decode cX1_take 18 = .ok (.iload_n 3, 1) := by decide +kernel
theorem dX1_take_19 : decode cX1_take 19 = .ok (.iconst 0, 1) := by decide +kernel
theorem dX1_take_20 : decode cX1_take 20 = .ok (.bipush 8, 2) := by decide +kernel
theorem dX1_take_22 : decode cX1_take 22 = .ok (.invokestatic 76, 3) := by decide +kernel
theorem dX1_take_25 : decode cX1_take 25 = .ok (.ifCond .eq 18, 3) := by decide +kernel
theorem dX1_take_28 : decode cX1_take 28 = .ok (.iload 4, 2) := by decide +kernel
theorem dX1_take_30 : decode cX1_take 30 = .ok (.iconst 0, 1) := by decide +kernel
theorem dX1_take_31 : decode cX1_take 31 = .ok (.bipush 16, 2) := by decide +kernel
theorem dX1_take_33 : decode cX1_take 33 = .ok (.invokestatic 76, 3) := by decide +kernel
theorem dX1_take_36 : decode cX1_take 36 = .ok (.ifCond .eq 7, 3) := by decide +kernel
theorem dX1_take_39 : decode cX1_take 39 = .ok (.iconst 1, 1) := by decide +kernel
theorem dX1_take_40 : decode cX1_take 40 = .ok (.goto 4, 3) := by decide +kernel
theorem dX1_take_43 : decode cX1_take 43 = .ok (.iconst 0, 1) := by decide +kernel
theorem dX1_take_44 : decode cX1_take 44 = .ok (.invokevirtual 102, 3) := by decide +kernel
theorem dX1_take_47 : decode cX1_take 47 = .ok (.ifCond .ne 4, 3) := by decide +kernel
theorem dX1_take_50 : decode cX1_take 50 = .ok (.return_, 1) := by decide +kernel
theorem dX1_take_51 : decode cX1_take 51 = .ok (.aload_n 0, 1) := by decide +kernel
theorem dX1_take_52 : decode cX1_take 52 = .ok (.getfield 20, 3) := by decide +kernel
theorem dX1_take_55 : decode cX1_take 55 = .ok (.aload_n 0, 1) := by decide +kernel
theorem dX1_take_56 : decode cX1_take 56 = .ok (.getfield 13, 3) := by decide +kernel
theorem dX1_take_59 : decode cX1_take 59 = .ok (.iload_n 2, 1) := by decide +kernel
theorem dX1_take_60 : decode cX1_take 60 = .ok (.iastore, 1) := by decide +kernel
theorem dX1_take_61 : decode cX1_take 61 = .ok (.aload_n 0, 1) := by decide +kernel
theorem dX1_take_62 : decode cX1_take 62 = .ok (.getfield 23, 3) := by decide +kernel
theorem dX1_take_65 : decode cX1_take 65 = .ok (.aload_n 0, 1) := by decide +kernel
theorem dX1_take_66 : decode cX1_take 66 = .ok (.getfield 13, 3) := by decide +kernel
theorem dX1_take_69 : decode cX1_take 69 = .ok (.iload_n 3, 1) := by decide +kernel
theorem dX1_take_70 : decode cX1_take 70 = .ok (.iastore, 1) := by decide +kernel
theorem dX1_take_71 : decode cX1_take 71 = .ok (.aload_n 0, 1) := by decide +kernel
theorem dX1_take_72 : decode cX1_take 72 = .ok (.getfield 26, 3) := by decide +kernel
theorem dX1_take_75 : decode cX1_take 75 = .ok (.aload_n 0, 1) := by decide +kernel
theorem dX1_take_76 : decode cX1_take 76 = .ok (.getfield 13, 3) := by decide +kernel
theorem dX1_take_79 : decode cX1_take 79 = .ok (.iload 4, 2) := by decide +kernel
theorem dX1_take_81 : decode cX1_take 81 = .ok (.iastore, 1) := by decide +kernel
theorem dX1_take_82 : decode cX1_take 82 = .ok (.aload_n 0, 1) := by decide +kernel
theorem dX1_take_83 : decode cX1_take 83 = .ok (.iconst 1, 1) := by decide +kernel
theorem dX1_take_84 : decode cX1_take 84 = .ok (.iconst 0, 1) := by decide +kernel
theorem dX1_take_85 : decode cX1_take 85 = .ok (.iconst 0, 1) := by decide +kernel
theorem dX1_take_86 : decode cX1_take 86 = .ok (.invokevirtual 106, 3) := by decide +kernel
theorem dX1_take_89 : decode cX1_take 89 = .ok (.istore 5, 2) := by decide +kernel
theorem dX1_take_91 : decode cX1_take 91 = .ok (.iload 5, 2) := by decide +kernel
theorem dX1_take_93 : decode cX1_take 93 = .ok (.ifCond .ne 11, 3) := by decide +kernel
theorem dX1_take_96 : decode cX1_take 96 = .ok (.aload_n 0, 1) := by decide +kernel
theorem dX1_take_97 : decode cX1_take 97 = .ok (.iconst 2, 1) := by decide +kernel
theorem dX1_take_98 : decode cX1_take 98 = .ok (.putfield 73, 3) := by decide +kernel
theorem dX1_take_101 : decode cX1_take 101 = .ok (.goto 11, 3) := by decide +kernel
theorem dX1_take_104 : decode cX1_take 104 = .ok (.aload_n 0, 1) := by decide +kernel
theorem dX1_take_105 : decode cX1_take 105 = .ok (.getfield 9, 3) := by decide +kernel
theorem dX1_take_108 : decode cX1_take 108 = .ok (.iload_n 1, 1) := by decide +kernel
theorem dX1_take_109 : decode cX1_take 109 = .ok (.iload 5, 2) := by decide +kernel
theorem dX1_take_111 : decode cX1_take 111 = .ok (.iastore, 1) := by decide +kernel
theorem dX1_take_112 : decode cX1_take 112 = .ok (.return_, 1) := by decide +kernel
set_option maxRecDepth 20000 in
theorem ggX1_copy_X1_isRoot : GoodIn wsX1_copy wsX1_isRoot := goodIn_r _ [5, 6, 7, 4, 8] (by decide +kernel) (by decide +kernel)
set_option maxRecDepth 20000 in
theorem gX1_copy_X1_isRoot : GoodIn wsX1_copy (va_wsS RX1 98 yX1_isRoot wsX1_isRoot) := goodIn_app (goodIn_of _ (by decide +kernel)) ggX1_copy_X1_isRoot
set_option maxRecDepth 20000 in
theorem ggX1_copy_X1_says : GoodIn wsX1_copy wsX1_says := goodIn_r _ [12, 13, 14, 15, 16, 17, 18, 19, 20, 21, 22, 23, 24, 25, 26, 27, 28, 29, 30, 31, 32, 33, 34] (by decide +kernel) (by decide +kernel)
set_option maxRecDepth 20000 in
theorem gX1_copy_X1_says : GoodIn wsX1_copy (wsV RX1 102 RX1 yX1_says wsX1_says) := goodIn_app (goodIn_of _ (by decide +kernel)) ggX1_copy_X1_says
theorem dX1_copy_0 : decode cX1_copy 0 = .ok (.aload_n 0, 1) := by decide +kernel
theorem dX1_copy_1 : decode cX1_copy 1 = .ok (.iload_n 1, 1) := by decide +kernel
theorem dX1_copy_2 : decode cX1_copy 2 = .ok (.invokestatic 98, 3) := by decide +kernel
theorem dX1_copy_5 : decode cX1_copy 5 = .ok (.ifCond .eq 14, 3) := by decide +kernel
theorem dX1_copy_8 : decode cX1_copy 8 = .ok (.iload_n 2, 1) := by decide +kernel
theorem dX1_copy_9 : decode cX1_copy 9 = .ok (.invokestatic 98, 3) := by decide +kernel
theorem dX1_copy_12 : decode cX1_copy 12 = .ok (.ifCond .eq 7, 3) := by decide +kernel
theorem dX1_copy_15 : decode cX1_copy 15 = .ok (.iconst 1, 1) := by decide +kernel
theorem dX1_copy_16 : decode cX1_copy 16 = .ok (.goto 4, 3) := by decide +kernel
theorem dX1_copy_19 : decode cX1_copy 19 = .ok (.iconst 0, 1) := by decide +kernel
theorem dX1_copy_20 : decode cX1_copy 20 = .ok (.invokevirtual 102, 3) := by decide +kernel
theorem dX1_copy_23 : decode cX1_copy 23 = .ok (.ifCond .eq 15, 3) := by decide +kernel
theorem dX1_copy_26 : decode cX1_copy 26 = .ok (.aload_n 0, 1) := by decide +kernel
theorem dX1_copy_27 : decode cX1_copy 27 = .ok (.getfield 9, 3) := by decide +kernel
theorem dX1_copy_30 : decode cX1_copy 30 = .ok (.iload_n 1, 1) := by decide +kernel
theorem dX1_copy_31 : decode cX1_copy 31 = .ok (.aload_n 0, 1) := by decide +kernel
theorem dX1_copy_32 : decode cX1_copy 32 = .ok (.getfield 9, 3) := by decide +kernel
theorem dX1_copy_35 : decode cX1_copy 35 = .ok (.iload_n 2, 1) := by decide +kernel
theorem dX1_copy_36 : decode cX1_copy 36 = .ok (.iaload, 1) := by decide +kernel
theorem dX1_copy_37 : decode cX1_copy 37 = .ok (.iastore, 1) := by decide +kernel
theorem dX1_copy_38 : decode cX1_copy 38 = .ok (.return_, 1) := by decide +kernel
set_option maxRecDepth 20000 in
theorem ggX1_drop_X1_isRoot : GoodIn wsX1_drop wsX1_isRoot := goodIn_r _ [5, 6, 7, 4, 8] (by decide +kernel) (by decide +kernel)
set_option maxRecDepth 20000 in
theorem gX1_drop_X1_isRoot : GoodIn wsX1_drop (va_wsS RX1 98 yX1_isRoot wsX1_isRoot) := goodIn_app (goodIn_of _ (by decide +kernel)) ggX1_drop_X1_isRoot
set_option maxRecDepth 20000 in
theorem ggX1_drop_X1_says : GoodIn wsX1_drop wsX1_says := goodIn_r _ [12, 13, 14, 15, 16, 17, 18, 19, 20, 21, 22, 23, 24, 25, 26, 27, 28, 29, 30, 31, 32, 33, 34] (by decide +kernel) (by decide +kernel)
set_option maxRecDepth 20000 in
theorem gX1_drop_X1_says : GoodIn wsX1_drop (wsV RX1 102 RX1 yX1_says wsX1_says) := goodIn_app (goodIn_of _ (by decide +kernel)) ggX1_drop_X1_says
theorem dX1_drop_0 : decode cX1_drop 0 = .ok (.aload_n 0, 1) := by decide +kernel
theorem dX1_drop_1 : decode cX1_drop 1 = .ok (.iload_n 1, 1) := by decide +kernel
theorem dX1_drop_2 : decode cX1_drop 2 = .ok (.invokestatic 98, 3) := by decide +kernel
theorem dX1_drop_5 : decode cX1_drop 5 = .ok (.invokevirtual 102, 3) := by decide +kernel
theorem dX1_drop_8 : decode cX1_drop 8 = .ok (.ifCond .eq 10, 3) := by decide +kernel
theorem dX1_drop_11 : decode cX1_drop 11 = .ok (.aload_n 0, 1) := by decide +kernel
theorem dX1_drop_12 : decode cX1_drop 12 = .ok (.getfield 9, 3) := by decide +kernel
theorem dX1_drop_15 : decode cX1_drop 15 = .ok (.iload_n 1, 1) := by decide +kernel
theorem dX1_drop_16 : decode cX1_drop 16 = .ok (.iconst 0, 1) := by decide +kernel
theorem dX1_drop_17 : decode cX1_drop 17 = .ok (.iastore, 1) := by decide +kernel
theorem dX1_drop_18 : decode cX1_drop 18 = .ok (.return_, 1) := by decide +kernel
set_option maxRecDepth 20000 in
theorem ggX1_kind_X1_isRoot : GoodIn wsX1_kind wsX1_isRoot := goodIn_r _ [6, 7, 8, 5, 9] (by decide +kernel) (by decide +kernel)
set_option maxRecDepth 20000 in
theorem gX1_kind_X1_isRoot : GoodIn wsX1_kind (va_wsS RX1 98 yX1_isRoot wsX1_isRoot) := goodIn_app (goodIn_of _ (by decide +kernel)) ggX1_kind_X1_isRoot
set_option maxRecDepth 20000 in
theorem ggX1_kind_X1_says : GoodIn wsX1_kind wsX1_says := goodIn_r _ [13, 14, 15, 16, 17, 18, 19, 20, 21, 22, 23, 24, 25, 26, 27, 28, 29, 30, 31, 32, 33, 34, 35] (by decide +kernel) (by decide +kernel)
set_option maxRecDepth 20000 in
theorem gX1_kind_X1_says : GoodIn wsX1_kind (wsV RX1 102 RX1 yX1_says wsX1_says) := goodIn_app (goodIn_of _ (by decide +kernel)) ggX1_kind_X1_says
theorem dX1_kind_0 : decode cX1_kind 0 = .ok (.aload_n 0, 1) := by decide +kernel
theorem dX1_kind_1 : decode cX1_kind 1 = .ok (.iload_n 1, 1) := by decide +kernel
theorem dX1_kind_2 : decode cX1_kind 2 = .ok (.invokestatic 98, 3) := by decide +kernel
theorem dX1_kind_5 : decode cX1_kind 5 = .ok (.invokevirtual 102, 3) := by decide +kernel
theorem dX1_kind_8 : decode cX1_kind 8 = .ok (.ifCond .eq 17, 3) := by decide +kernel
theorem dX1_kind_11 : decode cX1_kind 11 = .ok (.aload_n 0, 1) := by decide +kernel
theorem dX1_kind_12 : decode cX1_kind 12 = .ok (.getfield 17, 3) := by decide +kernel
theorem dX1_kind_15 : decode cX1_kind 15 = .ok (.aload_n 0, 1) := by decide +kernel
theorem dX1_kind_16 : decode cX1_kind 16 = .ok (.getfield 9, 3) := by decide +kernel
theorem dX1_kind_19 : decode cX1_kind 19 = .ok (.iload_n 1, 1) := by decide +kernel
theorem dX1_kind_20 : decode cX1_kind 20 = .ok (.iaload, 1) := by decide +kernel
theorem dX1_kind_21 : decode cX1_kind 21 = .ok (.iaload, 1) := by decide +kernel
theorem dX1_kind_22 : decode cX1_kind 22 = .ok (.goto 4, 3) := by decide +kernel
theorem dX1_kind_25 : decode cX1_kind 25 = .ok (.iconst 0, 1) := by decide +kernel
theorem dX1_kind_26 : decode cX1_kind 26 = .ok (.ireturn, 1) := by decide +kernel
set_option maxRecDepth 20000 in
theorem ggX1_same_X1_isRoot : GoodIn wsX1_same wsX1_isRoot := goodIn_r _ [5, 6, 7, 4, 8] (by decide +kernel) (by decide +kernel)
set_option maxRecDepth 20000 in
theorem gX1_same_X1_isRoot : GoodIn wsX1_same (va_wsS RX1 98 yX1_isRoot wsX1_isRoot) := goodIn_app (goodIn_of _ (by decide +kernel)) ggX1_same_X1_isRoot
set_option maxRecDepth 20000 in
theorem ggX1_same_X1_says : GoodIn wsX1_same wsX1_says := goodIn_r _ [12, 13, 14, 15, 16, 17, 18, 19, 20, 21, 22, 23, 24, 25, 26, 27, 28, 29, 30, 31, 32, 33, 34] (by decide +kernel) (by decide +kernel)
set_option maxRecDepth 20000 in
theorem gX1_same_X1_says : GoodIn wsX1_same (wsV RX1 102 RX1 yX1_says wsX1_says) := goodIn_app (goodIn_of _ (by decide +kernel)) ggX1_same_X1_says
theorem dX1_same_0 : decode cX1_same 0 = .ok (.aload_n 0, 1) := by decide +kernel
theorem dX1_same_1 : decode cX1_same 1 = .ok (.iload_n 1, 1) := by decide +kernel
theorem dX1_same_2 : decode cX1_same 2 = .ok (.invokestatic 98, 3) := by decide +kernel
theorem dX1_same_5 : decode cX1_same 5 = .ok (.ifCond .eq 14, 3) := by decide +kernel
theorem dX1_same_8 : decode cX1_same 8 = .ok (.iload_n 2, 1) := by decide +kernel
theorem dX1_same_9 : decode cX1_same 9 = .ok (.invokestatic 98, 3) := by decide +kernel
theorem dX1_same_12 : decode cX1_same 12 = .ok (.ifCond .eq 7, 3) := by decide +kernel
theorem dX1_same_15 : decode cX1_same 15 = .ok (.iconst 1, 1) := by decide +kernel
theorem dX1_same_16 : decode cX1_same 16 = .ok (.goto 4, 3) := by decide +kernel
theorem dX1_same_19 : decode cX1_same 19 = .ok (.iconst 0, 1) := by decide +kernel
theorem dX1_same_20 : decode cX1_same 20 = .ok (.invokevirtual 102, 3) := by decide +kernel
theorem dX1_same_23 : decode cX1_same 23 = .ok (.ifCond .eq 22, 3) := by decide +kernel
theorem dX1_same_26 : decode cX1_same 26 = .ok (.aload_n 0, 1) := by decide +kernel
theorem dX1_same_27 : decode cX1_same 27 = .ok (.getfield 9, 3) := by decide +kernel
theorem dX1_same_30 : decode cX1_same 30 = .ok (.iload_n 1, 1) := by decide +kernel
theorem dX1_same_31 : decode cX1_same 31 = .ok (.iaload, 1) := by decide +kernel
theorem dX1_same_32 : decode cX1_same 32 = .ok (.aload_n 0, 1) := by decide +kernel
theorem dX1_same_33 : decode cX1_same 33 = .ok (.getfield 9, 3) := by decide +kernel
theorem dX1_same_36 : decode cX1_same 36 = .ok (.iload_n 2, 1) := by decide +kernel
theorem dX1_same_37 : decode cX1_same 37 = .ok (.iaload, 1) := by decide +kernel
theorem dX1_same_38 : decode cX1_same 38 = .ok (.if_icmp .ne 7, 3) := by decide +kernel
theorem dX1_same_41 : decode cX1_same 41 = .ok (.iconst 1, 1) := by decide +kernel
theorem dX1_same_42 : decode cX1_same 42 = .ok (.goto 4, 3) := by decide +kernel
theorem dX1_same_45 : decode cX1_same 45 = .ok (.iconst 0, 1) := by decide +kernel
theorem dX1_same_46 : decode cX1_same 46 = .ok (.ireturn, 1) := by decide +kernel
set_option maxRecDepth 20000 in
theorem ggX1_isBlock_X1_isRoot : GoodIn wsX1_isBlock wsX1_isRoot := goodIn_r _ [6, 7, 8, 5, 9] (by decide +kernel) (by decide +kernel)
set_option maxRecDepth 20000 in
theorem gX1_isBlock_X1_isRoot : GoodIn wsX1_isBlock (va_wsS RX1 98 yX1_isRoot wsX1_isRoot) := goodIn_app (goodIn_of _ (by decide +kernel)) ggX1_isBlock_X1_isRoot
theorem dX1_isBlock_0 : decode cX1_isBlock 0 = .ok (.iload_n 1, 1) := by decide +kernel
theorem dX1_isBlock_1 : decode cX1_isBlock 1 = .ok (.invokestatic 98, 3) := by decide +kernel
theorem dX1_isBlock_4 : decode cX1_isBlock 4 = .ok (.ifCond .eq 22, 3) := by decide +kernel
theorem dX1_isBlock_7 : decode cX1_isBlock 7 = .ok (.aload_n 0, 1) := by decide +kernel
theorem dX1_isBlock_8 : decode cX1_isBlock 8 = .ok (.getfield 17, 3) := by decide +kernel
theorem dX1_isBlock_11 : decode cX1_isBlock 11 = .ok (.aload_n 0, 1) := by decide +kernel
theorem dX1_isBlock_12 : decode cX1_isBlock 12 = .ok (.getfield 9, 3) := by decide +kernel
theorem dX1_isBlock_15 : decode cX1_isBlock 15 = .ok (.iload_n 1, 1) := by decide +kernel
theorem dX1_isBlock_16 : decode cX1_isBlock 16 = .ok (.iaload, 1) := by decide +kernel
theorem dX1_isBlock_17 : decode cX1_isBlock 17 = .ok (.iaload, 1) := by decide +kernel
theorem dX1_isBlock_18 : decode cX1_isBlock 18 = .ok (.iconst 1, 1) := by decide +kernel
theorem dX1_isBlock_19 : decode cX1_isBlock 19 = .ok (.if_icmp .ne 7, 3) := by decide +kernel
theorem dX1_isBlock_22 : decode cX1_isBlock 22 = .ok (.iconst 1, 1) := by decide +kernel
theorem dX1_isBlock_23 : decode cX1_isBlock 23 = .ok (.goto 4, 3) := by decide +kernel
theorem dX1_isBlock_26 : decode cX1_isBlock 26 = .ok (.iconst 0, 1) := by decide +kernel
theorem dX1_isBlock_27 : decode cX1_isBlock 27 = .ok (.ireturn, 1) := by decide +kernel
set_option maxRecDepth 20000 in
theorem ggX1_hasLink_X1_isBlock : GoodIn wsX1_hasLink wsX1_isBlock := goodIn_r _ [7, 8, 2, 9, 10, 6, 11, 12, 13, 14, 15, 16, 17, 18, 19, 20, 21, 22, 23, 24, 25, 26, 27, 28, 29, 30, 31, 32, 33, 34, 35] (by decide +kernel) (by decide +kernel)
set_option maxRecDepth 20000 in
theorem gX1_hasLink_X1_isBlock : GoodIn wsX1_hasLink (wsV RX1 110 RX1 yX1_isBlock wsX1_isBlock) := goodIn_app (goodIn_of _ (by decide +kernel)) ggX1_hasLink_X1_isBlock
set_option maxRecDepth 20000 in
theorem ggX1_hasLink_X1_in : GoodIn wsX1_hasLink wsX1_in := goodIn_r _ [14] (by decide +kernel) (by decide +kernel)
set_option maxRecDepth 20000 in
theorem gX1_hasLink_X1_in : GoodIn wsX1_hasLink (va_wsS RX1 76 yX1_in wsX1_in) := goodIn_app (goodIn_of _ (by decide +kernel)) ggX1_hasLink_X1_in
theorem dX1_hasLink_0 : decode cX1_hasLink 0 = .ok (.aload_n 0, 1) := by decide +kernel
theorem dX1_hasLink_1 : decode cX1_hasLink 1 = .ok (.iload_n 1, 1) := by decide +kernel
theorem dX1_hasLink_2 : decode cX1_hasLink 2 = .ok (.invokevirtual 110, 3) := by decide +kernel
theorem dX1_hasLink_5 : decode cX1_hasLink 5 = .ok (.ifCond .eq 28, 3) := by decide +kernel
theorem dX1_hasLink_8 : decode cX1_hasLink 8 = .ok (.iload_n 2, 1) := by decide +kernel
theorem dX1_hasLink_9 : decode cX1_hasLink 9 = .ok (.iconst 0, 1) := by decide +kernel
theorem dX1_hasLink_10 : decode cX1_hasLink 10 = .ok (.aload_n 0, 1) := by decide +kernel
theorem dX1_hasLink_11 : decode cX1_hasLink 11 = .ok (.getfield 20, 3) := by decide +kernel
theorem dX1_hasLink_14 : decode cX1_hasLink 14 = .ok (.aload_n 0, 1) := by decide +kernel
theorem dX1_hasLink_15 : decode cX1_hasLink 15 = .ok (.getfield 9, 3) := by decide +kernel
theorem dX1_hasLink_18 : decode cX1_hasLink 18 = .ok (.iload_n 1, 1) := by decide +kernel
theorem dX1_hasLink_19 : decode cX1_hasLink 19 = .ok (.iaload, 1) := by decide +kernel
theorem dX1_hasLink_20 : decode cX1_hasLink 20 = .ok (.iaload, 1) := by decide +kernel
theorem dX1_hasLink_21 : decode cX1_hasLink 21 = .ok (.iconst 1, 1) := by decide +kernel
theorem dX1_hasLink_22 : decode cX1_hasLink 22 = .ok (.isub, 1) := by decide +kernel
theorem dX1_hasLink_23 : decode cX1_hasLink 23 = .ok (.invokestatic 76, 3) := by decide +kernel
theorem dX1_hasLink_26 : decode cX1_hasLink 26 = .ok (.ifCond .eq 7, 3) := by decide +kernel
theorem dX1_hasLink_29 : decode cX1_hasLink 29 = .ok (.iconst 1, 1) := by decide +kernel
theorem dX1_hasLink_30 : decode cX1_hasLink 30 = .ok (.goto 4, 3) := by decide +kernel
theorem dX1_hasLink_33 : decode cX1_hasLink 33 = .ok (.iconst 0, 1) := by decide +kernel
theorem dX1_hasLink_34 : decode cX1_hasLink 34 = .ok (.ireturn, 1) := by decide +kernel
set_option maxRecDepth 20000 in
theorem ggX1_hasValue_X1_isBlock : GoodIn wsX1_hasValue wsX1_isBlock := goodIn_r _ [7, 8, 2, 9, 10, 6, 11, 12, 13, 14, 15, 16, 17, 18, 19, 20, 21, 22, 23, 24, 25, 26, 27, 28, 29, 30, 31, 32, 33, 34, 35] (by decide +kernel) (by decide +kernel)
set_option maxRecDepth 20000 in
theorem gX1_hasValue_X1_isBlock : GoodIn wsX1_hasValue (wsV RX1 110 RX1 yX1_isBlock wsX1_isBlock) := goodIn_app (goodIn_of _ (by decide +kernel)) ggX1_hasValue_X1_isBlock
set_option maxRecDepth 20000 in
theorem ggX1_hasValue_X1_in : GoodIn wsX1_hasValue wsX1_in := goodIn_r _ [14] (by decide +kernel) (by decide +kernel)
set_option maxRecDepth 20000 in
theorem gX1_hasValue_X1_in : GoodIn wsX1_hasValue (va_wsS RX1 76 yX1_in wsX1_in) := goodIn_app (goodIn_of _ (by decide +kernel)) ggX1_hasValue_X1_in
theorem dX1_hasValue_0 : decode cX1_hasValue 0 = .ok (.aload_n 0, 1) := by decide +kernel
theorem dX1_hasValue_1 : decode cX1_hasValue 1 = .ok (.iload_n 1, 1) := by decide +kernel
theorem dX1_hasValue_2 : decode cX1_hasValue 2 = .ok (.invokevirtual 110, 3) := by decide +kernel
theorem dX1_hasValue_5 : decode cX1_hasValue 5 = .ok (.ifCond .eq 28, 3) := by decide +kernel
theorem dX1_hasValue_8 : decode cX1_hasValue 8 = .ok (.iload_n 2, 1) := by decide +kernel
theorem dX1_hasValue_9 : decode cX1_hasValue 9 = .ok (.iconst 0, 1) := by decide +kernel
theorem dX1_hasValue_10 : decode cX1_hasValue 10 = .ok (.aload_n 0, 1) := by decide +kernel
theorem dX1_hasValue_11 : decode cX1_hasValue 11 = .ok (.getfield 23, 3) := by decide +kernel
theorem dX1_hasValue_14 : decode cX1_hasValue 14 = .ok (.aload_n 0, 1) := by decide +kernel
theorem dX1_hasValue_15 : decode cX1_hasValue 15 = .ok (.getfield 9, 3) := by decide +kernel
theorem dX1_hasValue_18 : decode cX1_hasValue 18 = .ok (.iload_n 1, 1) := by decide +kernel
theorem dX1_hasValue_19 : decode cX1_hasValue 19 = .ok (.iaload, 1) := by decide +kernel
theorem dX1_hasValue_20 : decode cX1_hasValue 20 = .ok (.iaload, 1) := by decide +kernel
theorem dX1_hasValue_21 : decode cX1_hasValue 21 = .ok (.iconst 1, 1) := by decide +kernel
theorem dX1_hasValue_22 : decode cX1_hasValue 22 = .ok (.isub, 1) := by decide +kernel
theorem dX1_hasValue_23 : decode cX1_hasValue 23 = .ok (.invokestatic 76, 3) := by decide +kernel
theorem dX1_hasValue_26 : decode cX1_hasValue 26 = .ok (.ifCond .eq 7, 3) := by decide +kernel
theorem dX1_hasValue_29 : decode cX1_hasValue 29 = .ok (.iconst 1, 1) := by decide +kernel
theorem dX1_hasValue_30 : decode cX1_hasValue 30 = .ok (.goto 4, 3) := by decide +kernel
theorem dX1_hasValue_33 : decode cX1_hasValue 33 = .ok (.iconst 0, 1) := by decide +kernel
theorem dX1_hasValue_34 : decode cX1_hasValue 34 = .ok (.ireturn, 1) := by decide +kernel
set_option maxRecDepth 20000 in
theorem ggX1_hasWord_X1_isBlock : GoodIn wsX1_hasWord wsX1_isBlock := goodIn_r _ [7, 8, 2, 9, 10, 6, 11, 12, 13, 14, 15, 16, 17, 18, 19, 20, 21, 22, 23, 24, 25, 26, 27, 28, 29, 30, 31, 32, 33, 34, 35] (by decide +kernel) (by decide +kernel)
set_option maxRecDepth 20000 in
theorem gX1_hasWord_X1_isBlock : GoodIn wsX1_hasWord (wsV RX1 110 RX1 yX1_isBlock wsX1_isBlock) := goodIn_app (goodIn_of _ (by decide +kernel)) ggX1_hasWord_X1_isBlock
set_option maxRecDepth 20000 in
theorem ggX1_hasWord_X1_in : GoodIn wsX1_hasWord wsX1_in := goodIn_r _ [14] (by decide +kernel) (by decide +kernel)
set_option maxRecDepth 20000 in
theorem gX1_hasWord_X1_in : GoodIn wsX1_hasWord (va_wsS RX1 76 yX1_in wsX1_in) := goodIn_app (goodIn_of _ (by decide +kernel)) ggX1_hasWord_X1_in
theorem dX1_hasWord_0 : decode cX1_hasWord 0 = .ok (.aload_n 0, 1) := by decide +kernel
theorem dX1_hasWord_1 : decode cX1_hasWord 1 = .ok (.iload_n 1, 1) := by decide +kernel
theorem dX1_hasWord_2 : decode cX1_hasWord 2 = .ok (.invokevirtual 110, 3) := by decide +kernel
theorem dX1_hasWord_5 : decode cX1_hasWord 5 = .ok (.ifCond .eq 28, 3) := by decide +kernel
theorem dX1_hasWord_8 : decode cX1_hasWord 8 = .ok (.iload_n 2, 1) := by decide +kernel
theorem dX1_hasWord_9 : decode cX1_hasWord 9 = .ok (.iconst 0, 1) := by decide +kernel
theorem dX1_hasWord_10 : decode cX1_hasWord 10 = .ok (.aload_n 0, 1) := by decide +kernel
theorem dX1_hasWord_11 : decode cX1_hasWord 11 = .ok (.getfield 26, 3) := by decide +kernel
theorem dX1_hasWord_14 : decode cX1_hasWord 14 = .ok (.aload_n 0, 1) := by decide +kernel
theorem dX1_hasWord_15 : decode cX1_hasWord 15 = .ok (.getfield 9, 3) := by decide +kernel
theorem dX1_hasWord_18 : decode cX1_hasWord 18 = .ok (.iload_n 1, 1) := by decide +kernel
theorem dX1_hasWord_19 : decode cX1_hasWord 19 = .ok (.iaload, 1) := by decide +kernel
theorem dX1_hasWord_20 : decode cX1_hasWord 20 = .ok (.iaload, 1) := by decide +kernel
theorem dX1_hasWord_21 : decode cX1_hasWord 21 = .ok (.iconst 1, 1) := by decide +kernel
theorem dX1_hasWord_22 : decode cX1_hasWord 22 = .ok (.isub, 1) := by decide +kernel
theorem dX1_hasWord_23 : decode cX1_hasWord 23 = .ok (.invokestatic 76, 3) := by decide +kernel
theorem dX1_hasWord_26 : decode cX1_hasWord 26 = .ok (.ifCond .eq 7, 3) := by decide +kernel
theorem dX1_hasWord_29 : decode cX1_hasWord 29 = .ok (.iconst 1, 1) := by decide +kernel
theorem dX1_hasWord_30 : decode cX1_hasWord 30 = .ok (.goto 4, 3) := by decide +kernel
theorem dX1_hasWord_33 : decode cX1_hasWord 33 = .ok (.iconst 0, 1) := by decide +kernel
theorem dX1_hasWord_34 : decode cX1_hasWord 34 = .ok (.ireturn, 1) := by decide +kernel
set_option maxRecDepth 20000 in
theorem ggX1_tie_X1_hasLink : GoodIn wsX1_tie wsX1_hasLink := goodIn_r _ [7, 8, 2, 9, 10, 11, 6, 12, 13, 14, 15, 16, 17, 18, 19, 25, 26, 27, 28, 29, 30, 31, 32, 33, 34, 35, 36, 37, 38, 39, 40, 41, 42, 43, 44, 45] (by decide +kernel) (by decide +kernel)
set_option maxRecDepth 20000 in
theorem gX1_tie_X1_hasLink : GoodIn wsX1_tie (wsV RX1 113 RX1 yX1_hasLink wsX1_hasLink) := goodIn_app (goodIn_of _ (by decide +kernel)) ggX1_tie_X1_hasLink
set_option maxRecDepth 20000 in
theorem ggX1_tie_X1_isRoot : GoodIn wsX1_tie wsX1_isRoot := goodIn_r _ [16, 17, 18, 6, 19] (by decide +kernel) (by decide +kernel)
set_option maxRecDepth 20000 in
theorem gX1_tie_X1_isRoot : GoodIn wsX1_tie (va_wsS RX1 98 yX1_isRoot wsX1_isRoot) := goodIn_app (goodIn_of _ (by decide +kernel)) ggX1_tie_X1_isRoot
set_option maxRecDepth 20000 in
theorem ggX1_tie_X1_says : GoodIn wsX1_tie wsX1_says := goodIn_r _ [23, 24, 25, 26, 27, 28, 29, 30, 31, 32, 33, 34, 35, 36, 37, 38, 39, 40, 41, 42, 43, 44, 45] (by decide +kernel) (by decide +kernel)
set_option maxRecDepth 20000 in
theorem gX1_tie_X1_says : GoodIn wsX1_tie (wsV RX1 102 RX1 yX1_says wsX1_says) := goodIn_app (goodIn_of _ (by decide +kernel)) ggX1_tie_X1_says
theorem dX1_tie_0 : decode cX1_tie 0 = .ok (.aload_n 0, 1) := by decide +kernel
theorem dX1_tie_1 : decode cX1_tie 1 = .ok (.aload_n 0, 1) := by decide +kernel
theorem dX1_tie_2 : decode cX1_tie 2 = .ok (.iload_n 1, 1) := by decide +kernel
theorem dX1_tie_3 : decode cX1_tie 3 = .ok (.iload_n 2, 1) := by decide +kernel
theorem dX1_tie_4 : decode cX1_tie 4 = .ok (.invokevirtual 113, 3) := by decide +kernel
theorem dX1_tie_7 : decode cX1_tie 7 = .ok (.ifCond .eq 14, 3) := by decide +kernel
theorem dX1_tie_10 : decode cX1_tie 10 = .ok (.iload_n 3, 1) := by decide +kernel
theorem dX1_tie_11 : decode cX1_tie 11 = .ok (.invokestatic 98, 3) := by decide +kernel
theorem dX1_tie_14 : decode cX1_tie 14 = .ok (.ifCond .eq 7, 3) := by decide +kernel
theorem dX1_tie_17 : decode cX1_tie 17 = .ok (.iconst 1, 1) := by decide +kernel
theorem dX1_tie_18 : decode cX1_tie 18 = .ok (.goto 4, 3) := by decide +kernel
theorem dX1_tie_21 : decode cX1_tie 21 = .ok (.iconst 0, 1) := by decide +kernel
theorem dX1_tie_22 : decode cX1_tie 22 = .ok (.invokevirtual 102, 3) := by decide +kernel
theorem dX1_tie_25 : decode cX1_tie 25 = .ok (.ifCond .eq 25, 3) := by decide +kernel
theorem dX1_tie_28 : decode cX1_tie 28 = .ok (.aload_n 0, 1) := by decide +kernel
theorem dX1_tie_29 : decode cX1_tie 29 = .ok (.getfield 30, 3) := by decide +kernel
theorem dX1_tie_32 : decode cX1_tie 32 = .ok (.bipush 8, 2) := by decide +kernel
theorem dX1_tie_34 : decode cX1_tie 34 = .ok (.aload_n 0, 1) := by decide +kernel
theorem dX1_tie_35 : decode cX1_tie 35 = .ok (.getfield 9, 3) := by decide +kernel
theorem dX1_tie_38 : decode cX1_tie 38 = .ok (.iload_n 1, 1) := by decide +kernel
theorem dX1_tie_39 : decode cX1_tie 39 = .ok (.iaload, 1) := by decide +kernel
theorem dX1_tie_40 : decode cX1_tie 40 = .ok (.imul, 1) := by decide +kernel
theorem dX1_tie_41 : decode cX1_tie 41 = .ok (.iload_n 2, 1) := by decide +kernel
theorem dX1_tie_42 : decode cX1_tie 42 = .ok (.iadd, 1) := by decide +kernel
theorem dX1_tie_43 : decode cX1_tie 43 = .ok (.aload_n 0, 1) := by decide +kernel
theorem dX1_tie_44 : decode cX1_tie 44 = .ok (.getfield 9, 3) := by decide +kernel
theorem dX1_tie_47 : decode cX1_tie 47 = .ok (.iload_n 3, 1) := by decide +kernel
theorem dX1_tie_48 : decode cX1_tie 48 = .ok (.iaload, 1) := by decide +kernel
theorem dX1_tie_49 : decode cX1_tie 49 = .ok (.iastore, 1) := by decide +kernel
theorem dX1_tie_50 : decode cX1_tie 50 = .ok (.return_, 1) := by decide +kernel
set_option maxRecDepth 20000 in
theorem ggX1_lead_X1_hasLink : GoodIn wsX1_lead wsX1_hasLink := goodIn_r _ [7, 8, 1, 9, 10, 11, 6, 12, 13, 14, 15, 16, 17, 18, 19, 25, 26, 27, 28, 29, 30, 31, 32, 33, 34, 35, 36, 37, 38, 39, 40, 41, 42, 43, 44, 45] (by decide +kernel) (by decide +kernel)
set_option maxRecDepth 20000 in
theorem gX1_lead_X1_hasLink : GoodIn wsX1_lead (wsV RX1 113 RX1 yX1_hasLink wsX1_hasLink) := goodIn_app (goodIn_of _ (by decide +kernel)) ggX1_lead_X1_hasLink
set_option maxRecDepth 20000 in
theorem ggX1_lead_X1_isRoot : GoodIn wsX1_lead wsX1_isRoot := goodIn_r _ [16, 17, 18, 6, 19] (by decide +kernel) (by decide +kernel)
set_option maxRecDepth 20000 in
theorem gX1_lead_X1_isRoot : GoodIn wsX1_lead (va_wsS RX1 98 yX1_isRoot wsX1_isRoot) := goodIn_app (goodIn_of _ (by decide +kernel)) ggX1_lead_X1_isRoot
set_option maxRecDepth 20000 in
theorem ggX1_lead_X1_says : GoodIn wsX1_lead wsX1_says := goodIn_r _ [23, 24, 25, 26, 27, 28, 29, 30, 31, 32, 33, 34, 35, 36, 37, 38, 39, 40, 41, 42, 43, 44, 45] (by decide +kernel) (by decide +kernel)
set_option maxRecDepth 20000 in
theorem gX1_lead_X1_says : GoodIn wsX1_lead (wsV RX1 102 RX1 yX1_says wsX1_says) := goodIn_app (goodIn_of _ (by decide +kernel)) ggX1_lead_X1_says
theorem dX1_lead_0 : decode cX1_lead 0 = .ok (.aload_n 0, 1) := by decide +kernel
theorem dX1_lead_1 : decode cX1_lead 1 = .ok (.aload_n 0, 1) := by decide +kernel
theorem dX1_lead_2 : decode cX1_lead 2 = .ok (.iload_n 1, 1) := by decide +kernel
theorem dX1_lead_3 : decode cX1_lead 3 = .ok (.iload_n 2, 1) := by decide +kernel
theorem dX1_lead_4 : decode cX1_lead 4 = .ok (.invokevirtual 113, 3) := by decide +kernel
theorem dX1_lead_7 : decode cX1_lead 7 = .ok (.ifCond .eq 14, 3) := by decide +kernel
theorem dX1_lead_10 : decode cX1_lead 10 = .ok (.iload_n 3, 1) := by decide +kernel
theorem dX1_lead_11 : decode cX1_lead 11 = .ok (.invokestatic 98, 3) := by decide +kernel
theorem dX1_lead_14 : decode cX1_lead 14 = .ok (.ifCond .eq 7, 3) := by decide +kernel
theorem dX1_lead_17 : decode cX1_lead 17 = .ok (.iconst 1, 1) := by decide +kernel
theorem dX1_lead_18 : decode cX1_lead 18 = .ok (.goto 4, 3) := by decide +kernel
theorem dX1_lead_21 : decode cX1_lead 21 = .ok (.iconst 0, 1) := by decide +kernel
theorem dX1_lead_22 : decode cX1_lead 22 = .ok (.invokevirtual 102, 3) := by decide +kernel
theorem dX1_lead_25 : decode cX1_lead 25 = .ok (.ifCond .eq 25, 3) := by decide +kernel
theorem dX1_lead_28 : decode cX1_lead 28 = .ok (.aload_n 0, 1) := by decide +kernel
theorem dX1_lead_29 : decode cX1_lead 29 = .ok (.getfield 9, 3) := by decide +kernel
theorem dX1_lead_32 : decode cX1_lead 32 = .ok (.iload_n 3, 1) := by decide +kernel
theorem dX1_lead_33 : decode cX1_lead 33 = .ok (.aload_n 0, 1) := by decide +kernel
theorem dX1_lead_34 : decode cX1_lead 34 = .ok (.getfield 30, 3) := by decide +kernel
theorem dX1_lead_37 : decode cX1_lead 37 = .ok (.bipush 8, 2) := by decide +kernel
theorem dX1_lead_39 : decode cX1_lead 39 = .ok (.aload_n 0, 1) := by decide +kernel
theorem dX1_lead_40 : decode cX1_lead 40 = .ok (.getfield 9, 3) := by decide +kernel
theorem dX1_lead_43 : decode cX1_lead 43 = .ok (.iload_n 1, 1) := by decide +kernel
theorem dX1_lead_44 : decode cX1_lead 44 = .ok (.iaload, 1) := by decide +kernel
theorem dX1_lead_45 : decode cX1_lead 45 = .ok (.imul, 1) := by decide +kernel
theorem dX1_lead_46 : decode cX1_lead 46 = .ok (.iload_n 2, 1) := by decide +kernel
theorem dX1_lead_47 : decode cX1_lead 47 = .ok (.iadd, 1) := by decide +kernel
theorem dX1_lead_48 : decode cX1_lead 48 = .ok (.iaload, 1) := by decide +kernel
theorem dX1_lead_49 : decode cX1_lead 49 = .ok (.iastore, 1) := by decide +kernel
theorem dX1_lead_50 : decode cX1_lead 50 = .ok (.return_, 1) := by decide +kernel
set_option maxRecDepth 20000 in
theorem ggX1_number_X1_hasValue : GoodIn wsX1_number wsX1_hasValue := goodIn_r _ [9, 10, 3, 11, 12, 13, 8, 14, 15, 16, 17, 18, 19, 20, 21, 27, 28, 29, 30, 31, 32, 33, 34, 35, 36, 37, 38, 39, 40, 41, 42, 43, 44, 45, 46, 47] (by decide +kernel) (by decide +kernel)
set_option maxRecDepth 20000 in
theorem gX1_number_X1_hasValue : GoodIn wsX1_number (wsV RX1 117 RX1 yX1_hasValue wsX1_hasValue) := goodIn_app (goodIn_of _ (by decide +kernel)) ggX1_number_X1_hasValue
set_option maxRecDepth 20000 in
theorem ggX1_number_X1_says : GoodIn wsX1_number wsX1_says := goodIn_r _ [25, 26, 27, 28, 29, 30, 31, 32, 33, 34, 35, 36, 37, 38, 39, 40, 41, 42, 43, 44, 45, 46, 47] (by decide +kernel) (by decide +kernel)
set_option maxRecDepth 20000 in
theorem gX1_number_X1_says : GoodIn wsX1_number (wsV RX1 102 RX1 yX1_says wsX1_says) := goodIn_app (goodIn_of _ (by decide +kernel)) ggX1_number_X1_says
theorem dX1_number_0 : decode cX1_number 0 = .ok (.aload_n 0, 1) := by decide +kernel
theorem dX1_number_1 : decode cX1_number 1 = .ok (.aload_n 0, 1) := by decide +kernel
theorem dX1_number_2 : decode cX1_number 2 = .ok (.iload_n 1, 1) := by decide +kernel
theorem dX1_number_3 : decode cX1_number 3 = .ok (.iload_n 2, 1) := by decide +kernel
theorem dX1_number_4 : decode cX1_number 4 = .ok (.invokevirtual 117, 3) := by decide +kernel
theorem dX1_number_7 : decode cX1_number 7 = .ok (.ifCond .eq 18, 3) := by decide +kernel
theorem dX1_number_10 : decode cX1_number 10 = .ok (.lload_n 3, 1) := by decide +kernel
theorem dX1_number_11 : decode cX1_number 11 = .ok (.bipush 48, 2) := by decide +kernel
theorem dX1_number_13 : decode cX1_number 13 = .ok (.lushr, 1) := by decide +kernel
theorem dX1_number_14 : decode cX1_number 14 = .ok (.ldc2_w 120, 3) := by decide +kernel
theorem dX1_number_17 : decode cX1_number 17 = .ok (.lcmp, 1) := by decide +kernel
theorem dX1_number_18 : decode cX1_number 18 = .ok (.ifCond .eq 7, 3) := by decide +kernel
theorem dX1_number_21 : decode cX1_number 21 = .ok (.iconst 1, 1) := by decide +kernel
theorem dX1_number_22 : decode cX1_number 22 = .ok (.goto 4, 3) := by decide +kernel
theorem dX1_number_25 : decode cX1_number 25 = .ok (.iconst 0, 1) := by decide +kernel
theorem dX1_number_26 : decode cX1_number 26 = .ok (.invokevirtual 102, 3) := by decide +kernel
theorem dX1_number_29 : decode cX1_number 29 = .ok (.ifCond .ne 4, 3) := by decide +kernel
theorem dX1_number_32 : decode cX1_number 32 = .ok (.return_, 1) := by decide +kernel
theorem dX1_number_33 : decode cX1_number 33 = .ok (.aload_n 0, 1) := by decide +kernel
theorem dX1_number_34 : decode cX1_number 34 = .ok (.getfield 33, 3) := by decide +kernel
theorem dX1_number_37 : decode cX1_number 37 = .ok (.bipush 8, 2) := by decide +kernel
theorem dX1_number_39 : decode cX1_number 39 = .ok (.aload_n 0, 1) := by decide +kernel
theorem dX1_number_40 : decode cX1_number 40 = .ok (.getfield 9, 3) := by decide +kernel
theorem dX1_number_43 : decode cX1_number 43 = .ok (.iload_n 1, 1) := by decide +kernel
theorem dX1_number_44 : decode cX1_number 44 = .ok (.iaload, 1) := by decide +kernel
theorem dX1_number_45 : decode cX1_number 45 = .ok (.imul, 1) := by decide +kernel
theorem dX1_number_46 : decode cX1_number 46 = .ok (.iload_n 2, 1) := by decide +kernel
theorem dX1_number_47 : decode cX1_number 47 = .ok (.iadd, 1) := by decide +kernel
theorem dX1_number_48 : decode cX1_number 48 = .ok (.lload_n 3, 1) := by decide +kernel
theorem dX1_number_49 : decode cX1_number 49 = .ok (.lastore, 1) := by decide +kernel
theorem dX1_number_50 : decode cX1_number 50 = .ok (.aload_n 0, 1) := by decide +kernel
theorem dX1_number_51 : decode cX1_number 51 = .ok (.getfield 37, 3) := by decide +kernel
theorem dX1_number_54 : decode cX1_number 54 = .ok (.bipush 8, 2) := by decide +kernel
theorem dX1_number_56 : decode cX1_number 56 = .ok (.aload_n 0, 1) := by decide +kernel
theorem dX1_number_57 : decode cX1_number 57 = .ok (.getfield 9, 3) := by decide +kernel
theorem dX1_number_60 : decode cX1_number 60 = .ok (.iload_n 1, 1) := by decide +kernel
theorem dX1_number_61 : decode cX1_number 61 = .ok (.iaload, 1) := by decide +kernel
theorem dX1_number_62 : decode cX1_number 62 = .ok (.imul, 1) := by decide +kernel
theorem dX1_number_63 : decode cX1_number 63 = .ok (.iload_n 2, 1) := by decide +kernel
theorem dX1_number_64 : decode cX1_number 64 = .ok (.iadd, 1) := by decide +kernel
theorem dX1_number_65 : decode cX1_number 65 = .ok (.iconst 0, 1) := by decide +kernel
theorem dX1_number_66 : decode cX1_number 66 = .ok (.iastore, 1) := by decide +kernel
theorem dX1_number_67 : decode cX1_number 67 = .ok (.return_, 1) := by decide +kernel
set_option maxRecDepth 20000 in
theorem ggX1_refer_X1_hasValue : GoodIn wsX1_refer wsX1_hasValue := goodIn_r _ [7, 8, 1, 9, 10, 11, 6, 12, 13, 14, 15, 16, 17, 18, 19, 25, 26, 27, 28, 29, 30, 31, 32, 33, 34, 35, 36, 37, 38, 39, 40, 41, 42, 43, 44, 45] (by decide +kernel) (by decide +kernel)
set_option maxRecDepth 20000 in
theorem gX1_refer_X1_hasValue : GoodIn wsX1_refer (wsV RX1 117 RX1 yX1_hasValue wsX1_hasValue) := goodIn_app (goodIn_of _ (by decide +kernel)) ggX1_refer_X1_hasValue
set_option maxRecDepth 20000 in
theorem ggX1_refer_X1_isRoot : GoodIn wsX1_refer wsX1_isRoot := goodIn_r _ [16, 17, 18, 6, 19] (by decide +kernel) (by decide +kernel)
set_option maxRecDepth 20000 in
theorem gX1_refer_X1_isRoot : GoodIn wsX1_refer (va_wsS RX1 98 yX1_isRoot wsX1_isRoot) := goodIn_app (goodIn_of _ (by decide +kernel)) ggX1_refer_X1_isRoot
set_option maxRecDepth 20000 in
theorem ggX1_refer_X1_says : GoodIn wsX1_refer wsX1_says := goodIn_r _ [23, 24, 25, 26, 27, 28, 29, 30, 31, 32, 33, 34, 35, 36, 37, 38, 39, 40, 41, 42, 43, 44, 45] (by decide +kernel) (by decide +kernel)
set_option maxRecDepth 20000 in
theorem gX1_refer_X1_says : GoodIn wsX1_refer (wsV RX1 102 RX1 yX1_says wsX1_says) := goodIn_app (goodIn_of _ (by decide +kernel)) ggX1_refer_X1_says
theorem dX1_refer_0 : decode cX1_refer 0 = .ok (.aload_n 0, 1) := by decide +kernel
theorem dX1_refer_1 : decode cX1_refer 1 = .ok (.iload_n 1, 1) := by decide +kernel
theorem dX1_refer_2 : decode cX1_refer 2 = .ok (.iload_n 2, 1) := by decide +kernel
theorem dX1_refer_3 : decode cX1_refer 3 = .ok (.invokevirtual 117, 3) := by decide +kernel
theorem dX1_refer_6 : decode cX1_refer 6 = .ok (.ifCond .eq 14, 3) := by decide +kernel
theorem dX1_refer_9 : decode cX1_refer 9 = .ok (.iload_n 3, 1) := by decide +kernel
theorem dX1_refer_10 : decode cX1_refer 10 = .ok (.invokestatic 98, 3) := by decide +kernel
theorem dX1_refer_13 : decode cX1_refer 13 = .ok (.ifCond .eq 7, 3) := by decide +kernel
theorem dX1_refer_16 : decode cX1_refer 16 = .ok (.iconst 1, 1) := by decide +kernel
theorem dX1_refer_17 : decode cX1_refer 17 = .ok (.goto 4, 3) := by decide +kernel
theorem dX1_refer_20 : decode cX1_refer 20 = .ok (.iconst 0, 1) := by decide +kernel
theorem dX1_refer_21 : decode cX1_refer 21 = .ok (.istore 4, 2) := by decide +kernel
theorem dX1_refer_23 : decode cX1_refer 23 = .ok (.aload_n 0, 1) := by decide +kernel
theorem dX1_refer_24 : decode cX1_refer 24 = .ok (.iload 4, 2) := by decide +kernel
theorem dX1_refer_26 : decode cX1_refer 26 = .ok (.ifCond .eq 16, 3) := by decide +kernel
theorem dX1_refer_29 : decode cX1_refer 29 = .ok (.aload_n 0, 1) := by decide +kernel
theorem dX1_refer_30 : decode cX1_refer 30 = .ok (.getfield 9, 3) := by decide +kernel
theorem dX1_refer_33 : decode cX1_refer 33 = .ok (.iload_n 3, 1) := by decide +kernel
theorem dX1_refer_34 : decode cX1_refer 34 = .ok (.iaload, 1) := by decide +kernel
theorem dX1_refer_35 : decode cX1_refer 35 = .ok (.ifCond .le 7, 3) := by decide +kernel
theorem dX1_refer_38 : decode cX1_refer 38 = .ok (.iconst 1, 1) := by decide +kernel
theorem dX1_refer_39 : decode cX1_refer 39 = .ok (.goto 4, 3) := by decide +kernel
theorem dX1_refer_42 : decode cX1_refer 42 = .ok (.iconst 0, 1) := by decide +kernel
theorem dX1_refer_43 : decode cX1_refer 43 = .ok (.invokevirtual 102, 3) := by decide +kernel
theorem dX1_refer_46 : decode cX1_refer 46 = .ok (.ifCond .eq 25, 3) := by decide +kernel
theorem dX1_refer_49 : decode cX1_refer 49 = .ok (.aload_n 0, 1) := by decide +kernel
theorem dX1_refer_50 : decode cX1_refer 50 = .ok (.getfield 37, 3) := by decide +kernel
theorem dX1_refer_53 : decode cX1_refer 53 = .ok (.bipush 8, 2) := by decide +kernel
theorem dX1_refer_55 : decode cX1_refer 55 = .ok (.aload_n 0, 1) := by decide +kernel
theorem dX1_refer_56 : decode cX1_refer 56 = .ok (.getfield 9, 3) := by decide +kernel
theorem dX1_refer_59 : decode cX1_refer 59 = .ok (.iload_n 1, 1) := by decide +kernel
theorem dX1_refer_60 : decode cX1_refer 60 = .ok (.iaload, 1) := by decide +kernel
theorem dX1_refer_61 : decode cX1_refer 61 = .ok (.imul, 1) := by decide +kernel
theorem dX1_refer_62 : decode cX1_refer 62 = .ok (.iload_n 2, 1) := by decide +kernel
theorem dX1_refer_63 : decode cX1_refer 63 = .ok (.iadd, 1) := by decide +kernel
theorem dX1_refer_64 : decode cX1_refer 64 = .ok (.aload_n 0, 1) := by decide +kernel
theorem dX1_refer_65 : decode cX1_refer 65 = .ok (.getfield 9, 3) := by decide +kernel
theorem dX1_refer_68 : decode cX1_refer 68 = .ok (.iload_n 3, 1) := by decide +kernel
theorem dX1_refer_69 : decode cX1_refer 69 = .ok (.iaload, 1) := by decide +kernel
theorem dX1_refer_70 : decode cX1_refer 70 = .ok (.iastore, 1) := by decide +kernel
theorem dX1_refer_71 : decode cX1_refer 71 = .ok (.return_, 1) := by decide +kernel
set_option maxRecDepth 20000 in
theorem ggX1_bits_X1_hasValue : GoodIn wsX1_bits wsX1_hasValue := goodIn_r _ [8, 9, 2, 10, 11, 12, 7, 13, 14, 15, 16, 17, 18, 19, 20, 26, 27, 28, 29, 30, 31, 32, 33, 34, 35, 36, 37, 38, 39, 40, 41, 42, 43, 44, 45, 46] (by decide +kernel) (by decide +kernel)
set_option maxRecDepth 20000 in
theorem gX1_bits_X1_hasValue : GoodIn wsX1_bits (wsV RX1 117 RX1 yX1_hasValue wsX1_hasValue) := goodIn_app (goodIn_of _ (by decide +kernel)) ggX1_bits_X1_hasValue
set_option maxRecDepth 20000 in
theorem ggX1_bits_X1_says : GoodIn wsX1_bits wsX1_says := goodIn_r _ [24, 25, 26, 27, 28, 29, 30, 31, 32, 33, 34, 35, 36, 37, 38, 39, 40, 41, 42, 43, 44, 45, 46] (by decide +kernel) (by decide +kernel)
set_option maxRecDepth 20000 in
theorem gX1_bits_X1_says : GoodIn wsX1_bits (wsV RX1 102 RX1 yX1_says wsX1_says) := goodIn_app (goodIn_of _ (by decide +kernel)) ggX1_bits_X1_says
theorem dX1_bits_0 : decode cX1_bits 0 = .ok (.aload_n 0, 1) := by decide +kernel
theorem dX1_bits_1 : decode cX1_bits 1 = .ok (.iload_n 1, 1) := by decide +kernel
theorem dX1_bits_2 : decode cX1_bits 2 = .ok (.iload_n 2, 1) := by decide +kernel
theorem dX1_bits_3 : decode cX1_bits 3 = .ok (.invokevirtual 117, 3) := by decide +kernel
theorem dX1_bits_6 : decode cX1_bits 6 = .ok (.istore_n 3, 1) := by decide +kernel
theorem dX1_bits_7 : decode cX1_bits 7 = .ok (.aload_n 0, 1) := by decide +kernel
theorem dX1_bits_8 : decode cX1_bits 8 = .ok (.iload_n 3, 1) := by decide +kernel
theorem dX1_bits_9 : decode cX1_bits 9 = .ok (.ifCond .eq 26, 3) := by decide +kernel
theorem dX1_bits_12 : decode cX1_bits 12 = .ok (.aload_n 0, 1) := by decide +kernel
theorem dX1_bits_13 : decode cX1_bits 13 = .ok (.getfield 37, 3) := by decide +kernel
theorem dX1_bits_16 : decode cX1_bits 16 = .ok (.bipush 8, 2) := by decide +kernel
theorem dX1_bits_18 : decode cX1_bits 18 = .ok (.aload_n 0, 1) := by decide +kernel
theorem dX1_bits_19 : decode cX1_bits 19 = .ok (.getfield 9, 3) := by decide +kernel
theorem dX1_bits_22 : decode cX1_bits 22 = .ok (.iload_n 1, 1) := by decide +kernel
theorem dX1_bits_23 : decode cX1_bits 23 = .ok (.iaload, 1) := by decide +kernel
theorem dX1_bits_24 : decode cX1_bits 24 = .ok (.imul, 1) := by decide +kernel
theorem dX1_bits_25 : decode cX1_bits 25 = .ok (.iload_n 2, 1) := by decide +kernel
theorem dX1_bits_26 : decode cX1_bits 26 = .ok (.iadd, 1) := by decide +kernel
theorem dX1_bits_27 : decode cX1_bits 27 = .ok (.iaload, 1) := by decide +kernel
theorem dX1_bits_28 : decode cX1_bits 28 = .ok (.ifCond .ne 7, 3) := by decide +kernel
theorem dX1_bits_31 : decode cX1_bits 31 = .ok (.iconst 1, 1) := by decide +kernel
theorem dX1_bits_32 : decode cX1_bits 32 = .ok (.goto 4, 3) := by decide +kernel
theorem dX1_bits_35 : decode cX1_bits 35 = .ok (.iconst 0, 1) := by decide +kernel
theorem dX1_bits_36 : decode cX1_bits 36 = .ok (.invokevirtual 102, 3) := by decide +kernel
theorem dX1_bits_39 : decode cX1_bits 39 = .ok (.ifCond .eq 22, 3) := by decide +kernel
theorem dX1_bits_42 : decode cX1_bits 42 = .ok (.aload_n 0, 1) := by decide +kernel
theorem dX1_bits_43 : decode cX1_bits 43 = .ok (.getfield 33, 3) := by decide +kernel
theorem dX1_bits_46 : decode cX1_bits 46 = .ok (.bipush 8, 2) := by decide +kernel
theorem dX1_bits_48 : decode cX1_bits 48 = .ok (.aload_n 0, 1) := by decide +kernel
theorem dX1_bits_49 : decode cX1_bits 49 = .ok (.getfield 9, 3) := by decide +kernel
theorem dX1_bits_52 : decode cX1_bits 52 = .ok (.iload_n 1, 1) := by decide +kernel
theorem dX1_bits_53 : decode cX1_bits 53 = .ok (.iaload, 1) := by decide +kernel
theorem dX1_bits_54 : decode cX1_bits 54 = .ok (.imul, 1) := by decide +kernel
theorem dX1_bits_55 : decode cX1_bits 55 = .ok (.iload_n 2, 1) := by decide +kernel
theorem dX1_bits_56 : decode cX1_bits 56 = .ok (.iadd, 1) := by decide +kernel
theorem dX1_bits_57 : decode cX1_bits 57 = .ok (.laload, 1) := by decide +kernel
theorem dX1_bits_58 : decode cX1_bits 58 = .ok (.goto 4, 3) := by decide +kernel
theorem dX1_bits_61 : decode cX1_bits 61 = .ok (.lconst 0, 1) := by decide +kernel
theorem dX1_bits_62 : decode cX1_bits 62 = .ok (.lreturn, 1) := by decide +kernel
set_option maxRecDepth 20000 in
theorem ggX1_follow_X1_hasValue : GoodIn wsX1_follow wsX1_hasValue := goodIn_r _ [7, 8, 2, 9, 10, 11, 6, 12, 13, 14, 15, 16, 17, 18, 19, 25, 26, 27, 28, 29, 30, 31, 32, 33, 34, 35, 36, 37, 38, 39, 40, 41, 42, 43, 44, 45] (by decide +kernel) (by decide +kernel)
set_option maxRecDepth 20000 in
theorem gX1_follow_X1_hasValue : GoodIn wsX1_follow (wsV RX1 117 RX1 yX1_hasValue wsX1_hasValue) := goodIn_app (goodIn_of _ (by decide +kernel)) ggX1_follow_X1_hasValue
set_option maxRecDepth 20000 in
theorem ggX1_follow_X1_isRoot : GoodIn wsX1_follow wsX1_isRoot := goodIn_r _ [16, 17, 18, 6, 19] (by decide +kernel) (by decide +kernel)
set_option maxRecDepth 20000 in
theorem gX1_follow_X1_isRoot : GoodIn wsX1_follow (va_wsS RX1 98 yX1_isRoot wsX1_isRoot) := goodIn_app (goodIn_of _ (by decide +kernel)) ggX1_follow_X1_isRoot
set_option maxRecDepth 20000 in
theorem ggX1_follow_X1_says : GoodIn wsX1_follow wsX1_says := goodIn_r _ [23, 24, 25, 26, 27, 28, 29, 30, 31, 32, 33, 34, 35, 36, 37, 38, 39, 40, 41, 42, 43, 44, 45] (by decide +kernel) (by decide +kernel)
set_option maxRecDepth 20000 in
theorem gX1_follow_X1_says : GoodIn wsX1_follow (wsV RX1 102 RX1 yX1_says wsX1_says) := goodIn_app (goodIn_of _ (by decide +kernel)) ggX1_follow_X1_says
theorem dX1_follow_0 : decode cX1_follow 0 = .ok (.aload_n 0, 1) := by decide +kernel
theorem dX1_follow_1 : decode cX1_follow 1 = .ok (.aload_n 0, 1) := by decide +kernel
theorem dX1_follow_2 : decode cX1_follow 2 = .ok (.iload_n 1, 1) := by decide +kernel
theorem dX1_follow_3 : decode cX1_follow 3 = .ok (.iload_n 2, 1) := by decide +kernel
theorem dX1_follow_4 : decode cX1_follow 4 = .ok (.invokevirtual 117, 3) := by decide +kernel
theorem dX1_follow_7 : decode cX1_follow 7 = .ok (.ifCond .eq 14, 3) := by decide +kernel
theorem dX1_follow_10 : decode cX1_follow 10 = .ok (.iload_n 3, 1) := by decide +kernel
theorem dX1_follow_11 : decode cX1_follow 11 = .ok (.invokestatic 98, 3) := by decide +kernel
theorem dX1_follow_14 : decode cX1_follow 14 = .ok (.ifCond .eq 7, 3) := by decide +kernel
theorem dX1_follow_17 : decode cX1_follow 17 = .ok (.iconst 1, 1) := by decide +kernel
theorem dX1_follow_18 : decode cX1_follow 18 = .ok (.goto 4, 3) := by decide +kernel
theorem dX1_follow_21 : decode cX1_follow 21 = .ok (.iconst 0, 1) := by decide +kernel
theorem dX1_follow_22 : decode cX1_follow 22 = .ok (.invokevirtual 102, 3) := by decide +kernel
theorem dX1_follow_25 : decode cX1_follow 25 = .ok (.ifCond .ne 5, 3) := by decide +kernel
theorem dX1_follow_28 : decode cX1_follow 28 = .ok (.iconst 0, 1) := by decide +kernel
theorem dX1_follow_29 : decode cX1_follow 29 = .ok (.ireturn, 1) := by decide +kernel
theorem dX1_follow_30 : decode cX1_follow 30 = .ok (.aload_n 0, 1) := by decide +kernel
theorem dX1_follow_31 : decode cX1_follow 31 = .ok (.getfield 37, 3) := by decide +kernel
theorem dX1_follow_34 : decode cX1_follow 34 = .ok (.bipush 8, 2) := by decide +kernel
theorem dX1_follow_36 : decode cX1_follow 36 = .ok (.aload_n 0, 1) := by decide +kernel
theorem dX1_follow_37 : decode cX1_follow 37 = .ok (.getfield 9, 3) := by decide +kernel
theorem dX1_follow_40 : decode cX1_follow 40 = .ok (.iload_n 1, 1) := by decide +kernel
theorem dX1_follow_41 : decode cX1_follow 41 = .ok (.iaload, 1) := by decide +kernel
theorem dX1_follow_42 : decode cX1_follow 42 = .ok (.imul, 1) := by decide +kernel
theorem dX1_follow_43 : decode cX1_follow 43 = .ok (.iload_n 2, 1) := by decide +kernel
theorem dX1_follow_44 : decode cX1_follow 44 = .ok (.iadd, 1) := by decide +kernel
theorem dX1_follow_45 : decode cX1_follow 45 = .ok (.iaload, 1) := by decide +kernel
theorem dX1_follow_46 : decode cX1_follow 46 = .ok (.istore 4, 2) := by decide +kernel
theorem dX1_follow_48 : decode cX1_follow 48 = .ok (.iload 4, 2) := by decide +kernel
theorem dX1_follow_50 : decode cX1_follow 50 = .ok (.ifCond .le 11, 3) := by decide +kernel
theorem dX1_follow_53 : decode cX1_follow 53 = .ok (.aload_n 0, 1) := by decide +kernel
theorem dX1_follow_54 : decode cX1_follow 54 = .ok (.getfield 9, 3) := by decide +kernel
theorem dX1_follow_57 : decode cX1_follow 57 = .ok (.iload_n 3, 1) := by decide +kernel
theorem dX1_follow_58 : decode cX1_follow 58 = .ok (.iload 4, 2) := by decide +kernel
theorem dX1_follow_60 : decode cX1_follow 60 = .ok (.iastore, 1) := by decide +kernel
theorem dX1_follow_61 : decode cX1_follow 61 = .ok (.iload 4, 2) := by decide +kernel
theorem dX1_follow_63 : decode cX1_follow 63 = .ok (.ifCond .le 7, 3) := by decide +kernel
theorem dX1_follow_66 : decode cX1_follow 66 = .ok (.iconst 1, 1) := by decide +kernel
theorem dX1_follow_67 : decode cX1_follow 67 = .ok (.goto 4, 3) := by decide +kernel
theorem dX1_follow_70 : decode cX1_follow 70 = .ok (.iconst 0, 1) := by decide +kernel
theorem dX1_follow_71 : decode cX1_follow 71 = .ok (.ireturn, 1) := by decide +kernel
set_option maxRecDepth 20000 in
theorem ggX1_set_X1_hasWord : GoodIn wsX1_set wsX1_hasWord := goodIn_r _ [7, 8, 2, 9, 10, 11, 6, 12, 13, 14, 15, 16, 17, 18, 19, 25, 26, 27, 28, 29, 30, 31, 32, 33, 34, 35, 36, 37, 38, 39, 40, 41, 42, 43, 44, 45] (by decide +kernel) (by decide +kernel)
set_option maxRecDepth 20000 in
theorem gX1_set_X1_hasWord : GoodIn wsX1_set (wsV RX1 122 RX1 yX1_hasWord wsX1_hasWord) := goodIn_app (goodIn_of _ (by decide +kernel)) ggX1_set_X1_hasWord
set_option maxRecDepth 20000 in
theorem ggX1_set_X1_says : GoodIn wsX1_set wsX1_says := goodIn_r _ [23, 24, 25, 26, 27, 28, 29, 30, 31, 32, 33, 34, 35, 36, 37, 38, 39, 40, 41, 42, 43, 44, 45] (by decide +kernel) (by decide +kernel)
set_option maxRecDepth 20000 in
theorem gX1_set_X1_says : GoodIn wsX1_set (wsV RX1 102 RX1 yX1_says wsX1_says) := goodIn_app (goodIn_of _ (by decide +kernel)) ggX1_set_X1_says
theorem dX1_set_0 : decode cX1_set 0 = .ok (.aload_n 0, 1) := by decide +kernel
theorem dX1_set_1 : decode cX1_set 1 = .ok (.aload_n 0, 1) := by decide +kernel
theorem dX1_set_2 : decode cX1_set 2 = .ok (.iload_n 1, 1) := by decide +kernel
theorem dX1_set_3 : decode cX1_set 3 = .ok (.iload_n 2, 1) := by decide +kernel
theorem dX1_set_4 : decode cX1_set 4 = .ok (.invokevirtual 122, 3) := by decide +kernel
theorem dX1_set_7 : decode cX1_set 7 = .ok (.invokevirtual 102, 3) := by decide +kernel
theorem dX1_set_10 : decode cX1_set 10 = .ok (.ifCond .eq 20, 3) := by decide +kernel
theorem dX1_set_13 : decode cX1_set 13 = .ok (.aload_n 0, 1) := by decide +kernel
theorem dX1_set_14 : decode cX1_set 14 = .ok (.getfield 41, 3) := by decide +kernel
theorem dX1_set_17 : decode cX1_set 17 = .ok (.bipush 16, 2) := by decide +kernel
theorem dX1_set_19 : decode cX1_set 19 = .ok (.aload_n 0, 1) := by decide +kernel
theorem dX1_set_20 : decode cX1_set 20 = .ok (.getfield 9, 3) := by decide +kernel
theorem dX1_set_23 : decode cX1_set 23 = .ok (.iload_n 1, 1) := by decide +kernel
theorem dX1_set_24 : decode cX1_set 24 = .ok (.iaload, 1) := by decide +kernel
theorem dX1_set_25 : decode cX1_set 25 = .ok (.imul, 1) := by decide +kernel
theorem dX1_set_26 : decode cX1_set 26 = .ok (.iload_n 2, 1) := by decide +kernel
theorem dX1_set_27 : decode cX1_set 27 = .ok (.iadd, 1) := by decide +kernel
theorem dX1_set_28 : decode cX1_set 28 = .ok (.iload_n 3, 1) := by decide +kernel
theorem dX1_set_29 : decode cX1_set 29 = .ok (.iastore, 1) := by decide +kernel
theorem dX1_set_30 : decode cX1_set 30 = .ok (.return_, 1) := by decide +kernel
set_option maxRecDepth 20000 in
theorem ggX1_get_X1_hasWord : GoodIn wsX1_get wsX1_hasWord := goodIn_r _ [7, 8, 2, 9, 10, 11, 6, 12, 13, 14, 15, 16, 17, 18, 19, 25, 26, 27, 28, 29, 30, 31, 32, 33, 34, 35, 36, 37, 38, 39, 40, 41, 42, 43, 44, 45] (by decide +kernel) (by decide +kernel)
set_option maxRecDepth 20000 in
theorem gX1_get_X1_hasWord : GoodIn wsX1_get (wsV RX1 122 RX1 yX1_hasWord wsX1_hasWord) := goodIn_app (goodIn_of _ (by decide +kernel)) ggX1_get_X1_hasWord
set_option maxRecDepth 20000 in
theorem ggX1_get_X1_says : GoodIn wsX1_get wsX1_says := goodIn_r _ [23, 24, 25, 26, 27, 28, 29, 30, 31, 32, 33, 34, 35, 36, 37, 38, 39, 40, 41, 42, 43, 44, 45] (by decide +kernel) (by decide +kernel)
set_option maxRecDepth 20000 in
theorem gX1_get_X1_says : GoodIn wsX1_get (wsV RX1 102 RX1 yX1_says wsX1_says) := goodIn_app (goodIn_of _ (by decide +kernel)) ggX1_get_X1_says
theorem dX1_get_0 : decode cX1_get 0 = .ok (.aload_n 0, 1) := by decide +kernel
theorem dX1_get_1 : decode cX1_get 1 = .ok (.aload_n 0, 1) := by decide +kernel
theorem dX1_get_2 : decode cX1_get 2 = .ok (.iload_n 1, 1) := by decide +kernel
theorem dX1_get_3 : decode cX1_get 3 = .ok (.iload_n 2, 1) := by decide +kernel
theorem dX1_get_4 : decode cX1_get 4 = .ok (.invokevirtual 122, 3) := by decide +kernel
theorem dX1_get_7 : decode cX1_get 7 = .ok (.invokevirtual 102, 3) := by decide +kernel
theorem dX1_get_10 : decode cX1_get 10 = .ok (.ifCond .eq 22, 3) := by decide +kernel
theorem dX1_get_13 : decode cX1_get 13 = .ok (.aload_n 0, 1) := by decide +kernel
theorem dX1_get_14 : decode cX1_get 14 = .ok (.getfield 41, 3) := by decide +kernel
theorem dX1_get_17 : decode cX1_get 17 = .ok (.bipush 16, 2) := by decide +kernel
theorem dX1_get_19 : decode cX1_get 19 = .ok (.aload_n 0, 1) := by decide +kernel
theorem dX1_get_20 : decode cX1_get 20 = .ok (.getfield 9, 3) := by decide +kernel
theorem dX1_get_23 : decode cX1_get 23 = .ok (.iload_n 1, 1) := by decide +kernel
theorem dX1_get_24 : decode cX1_get 24 = .ok (.iaload, 1) := by decide +kernel
theorem dX1_get_25 : decode cX1_get 25 = .ok (.imul, 1) := by decide +kernel
theorem dX1_get_26 : decode cX1_get 26 = .ok (.iload_n 2, 1) := by decide +kernel
theorem dX1_get_27 : decode cX1_get 27 = .ok (.iadd, 1) := by decide +kernel
theorem dX1_get_28 : decode cX1_get 28 = .ok (.iaload, 1) := by decide +kernel
theorem dX1_get_29 : decode cX1_get 29 = .ok (.goto 4, 3) := by decide +kernel
theorem dX1_get_32 : decode cX1_get 32 = .ok (.iconst 0, 1) := by decide +kernel
theorem dX1_get_33 : decode cX1_get 33 = .ok (.ireturn, 1) := by decide +kernel
set_option maxRecDepth 20000 in
theorem ggX1_isText_X1_isRoot : GoodIn wsX1_isText wsX1_isRoot := goodIn_r _ [6, 7, 8, 5, 9] (by decide +kernel) (by decide +kernel)
set_option maxRecDepth 20000 in
theorem gX1_isText_X1_isRoot : GoodIn wsX1_isText (va_wsS RX1 98 yX1_isRoot wsX1_isRoot) := goodIn_app (goodIn_of _ (by decide +kernel)) ggX1_isText_X1_isRoot
theorem dX1_isText_0 : decode cX1_isText 0 = .ok (.iload_n 1, 1) := by decide +kernel
theorem dX1_isText_1 : decode cX1_isText 1 = .ok (.invokestatic 98, 3) := by decide +kernel
theorem dX1_isText_4 : decode cX1_isText 4 = .ok (.ifCond .eq 22, 3) := by decide +kernel
theorem dX1_isText_7 : decode cX1_isText 7 = .ok (.aload_n 0, 1) := by decide +kernel
theorem dX1_isText_8 : decode cX1_isText 8 = .ok (.getfield 17, 3) := by decide +kernel
theorem dX1_isText_11 : decode cX1_isText 11 = .ok (.aload_n 0, 1) := by decide +kernel
theorem dX1_isText_12 : decode cX1_isText 12 = .ok (.getfield 9, 3) := by decide +kernel
theorem dX1_isText_15 : decode cX1_isText 15 = .ok (.iload_n 1, 1) := by decide +kernel
theorem dX1_isText_16 : decode cX1_isText 16 = .ok (.iaload, 1) := by decide +kernel
theorem dX1_isText_17 : decode cX1_isText 17 = .ok (.iaload, 1) := by decide +kernel
theorem dX1_isText_18 : decode cX1_isText 18 = .ok (.iconst 1, 1) := by decide +kernel
theorem dX1_isText_19 : decode cX1_isText 19 = .ok (.if_icmp .le 7, 3) := by decide +kernel
theorem dX1_isText_22 : decode cX1_isText 22 = .ok (.iconst 1, 1) := by decide +kernel
theorem dX1_isText_23 : decode cX1_isText 23 = .ok (.goto 4, 3) := by decide +kernel
theorem dX1_isText_26 : decode cX1_isText 26 = .ok (.iconst 0, 1) := by decide +kernel
theorem dX1_isText_27 : decode cX1_isText 27 = .ok (.ireturn, 1) := by decide +kernel
theorem dX1_unitOf_0 : decode cX1_unitOf 0 = .ok (.iload_n 1, 1) := by decide +kernel
theorem dX1_unitOf_1 : decode cX1_unitOf 1 = .ok (.istore_n 3, 1) := by decide +kernel
theorem dX1_unitOf_2 : decode cX1_unitOf 2 = .ok (.iload_n 2, 1) := by decide +kernel
theorem dX1_unitOf_3 : decode cX1_unitOf 3 = .ok (.istore 4, 2) := by decide +kernel
theorem dX1_unitOf_5 : decode cX1_unitOf 5 = .ok (.aload_n 0, 1) := by decide +kernel
theorem dX1_unitOf_6 : decode cX1_unitOf 6 = .ok (.getfield 47, 3) := by decide +kernel
theorem dX1_unitOf_9 : decode cX1_unitOf 9 = .ok (.iload_n 3, 1) := by decide +kernel
theorem dX1_unitOf_10 : decode cX1_unitOf 10 = .ok (.iaload, 1) := by decide +kernel
theorem dX1_unitOf_11 : decode cX1_unitOf 11 = .ok (.ifCond .le 86, 3) := by decide +kernel
theorem dX1_unitOf_14 : decode cX1_unitOf 14 = .ok (.aload_n 0, 1) := by decide +kernel
theorem dX1_unitOf_15 : decode cX1_unitOf 15 = .ok (.getfield 47, 3) := by decide +kernel
theorem dX1_unitOf_18 : decode cX1_unitOf 18 = .ok (.iload_n 3, 1) := by decide +kernel
theorem dX1_unitOf_19 : decode cX1_unitOf 19 = .ok (.iaload, 1) := by decide +kernel
theorem dX1_unitOf_20 : decode cX1_unitOf 20 = .ok (.iconst 1, 1) := by decide +kernel
theorem dX1_unitOf_21 : decode cX1_unitOf 21 = .ok (.if_icmp .ne 24, 3) := by decide +kernel
theorem dX1_unitOf_24 : decode cX1_unitOf 24 = .ok (.iload 4, 2) := by decide +kernel
theorem dX1_unitOf_26 : decode cX1_unitOf 26 = .ok (.aload_n 0, 1) := by decide +kernel
theorem dX1_unitOf_27 : decode cX1_unitOf 27 = .ok (.getfield 53, 3) := by decide +kernel
theorem dX1_unitOf_30 : decode cX1_unitOf 30 = .ok (.iload_n 3, 1) := by decide +kernel
theorem dX1_unitOf_31 : decode cX1_unitOf 31 = .ok (.iaload, 1) := by decide +kernel
theorem dX1_unitOf_32 : decode cX1_unitOf 32 = .ok (.iadd, 1) := by decide +kernel
theorem dX1_unitOf_33 : decode cX1_unitOf 33 = .ok (.istore 4, 2) := by decide +kernel
theorem dX1_unitOf_35 : decode cX1_unitOf 35 = .ok (.aload_n 0, 1) := by decide +kernel
theorem dX1_unitOf_36 : decode cX1_unitOf 36 = .ok (.getfield 50, 3) := by decide +kernel
theorem dX1_unitOf_39 : decode cX1_unitOf 39 = .ok (.iload_n 3, 1) := by decide +kernel
theorem dX1_unitOf_40 : decode cX1_unitOf 40 = .ok (.iaload, 1) := by decide +kernel
theorem dX1_unitOf_41 : decode cX1_unitOf 41 = .ok (.istore_n 3, 1) := by decide +kernel
theorem dX1_unitOf_42 : decode cX1_unitOf 42 = .ok (.goto (-37), 3) := by decide +kernel
theorem dX1_unitOf_45 : decode cX1_unitOf 45 = .ok (.iload 4, 2) := by decide +kernel
theorem dX1_unitOf_47 : decode cX1_unitOf 47 = .ok (.aload_n 0, 1) := by decide +kernel
theorem dX1_unitOf_48 : decode cX1_unitOf 48 = .ok (.getfield 44, 3) := by decide +kernel
theorem dX1_unitOf_51 : decode cX1_unitOf 51 = .ok (.aload_n 0, 1) := by decide +kernel
theorem dX1_unitOf_52 : decode cX1_unitOf 52 = .ok (.getfield 50, 3) := by decide +kernel
theorem dX1_unitOf_55 : decode cX1_unitOf 55 = .ok (.iload_n 3, 1) := by decide +kernel
theorem dX1_unitOf_56 : decode cX1_unitOf 56 = .ok (.iaload, 1) := by decide +kernel
theorem dX1_unitOf_57 : decode cX1_unitOf 57 = .ok (.iaload, 1) := by decide +kernel
theorem dX1_unitOf_58 : decode cX1_unitOf 58 = .ok (.if_icmp .ge 13, 3) := by decide +kernel
theorem dX1_unitOf_61 : decode cX1_unitOf 61 = .ok (.aload_n 0, 1) := by decide +kernel
theorem dX1_unitOf_62 : decode cX1_unitOf 62 = .ok (.getfield 50, 3) := by decide +kernel
theorem dX1_unitOf_65 : decode cX1_unitOf 65 = .ok (.iload_n 3, 1) := by decide +kernel
theorem dX1_unitOf_66 : decode cX1_unitOf 66 = .ok (.iaload, 1) := by decide +kernel
theorem dX1_unitOf_67 : decode cX1_unitOf 67 = .ok (.istore_n 3, 1) := by decide +kernel
theorem dX1_unitOf_68 : decode cX1_unitOf 68 = .ok (.goto (-63), 3) := by decide +kernel
theorem dX1_unitOf_71 : decode cX1_unitOf 71 = .ok (.iload 4, 2) := by decide +kernel
theorem dX1_unitOf_73 : decode cX1_unitOf 73 = .ok (.aload_n 0, 1) := by decide +kernel
theorem dX1_unitOf_74 : decode cX1_unitOf 74 = .ok (.getfield 44, 3) := by decide +kernel
theorem dX1_unitOf_77 : decode cX1_unitOf 77 = .ok (.aload_n 0, 1) := by decide +kernel
theorem dX1_unitOf_78 : decode cX1_unitOf 78 = .ok (.getfield 50, 3) := by decide +kernel
theorem dX1_unitOf_81 : decode cX1_unitOf 81 = .ok (.iload_n 3, 1) := by decide +kernel
theorem dX1_unitOf_82 : decode cX1_unitOf 82 = .ok (.iaload, 1) := by decide +kernel
theorem dX1_unitOf_83 : decode cX1_unitOf 83 = .ok (.iaload, 1) := by decide +kernel
theorem dX1_unitOf_84 : decode cX1_unitOf 84 = .ok (.isub, 1) := by decide +kernel
theorem dX1_unitOf_85 : decode cX1_unitOf 85 = .ok (.istore 4, 2) := by decide +kernel
theorem dX1_unitOf_87 : decode cX1_unitOf 87 = .ok (.aload_n 0, 1) := by decide +kernel
theorem dX1_unitOf_88 : decode cX1_unitOf 88 = .ok (.getfield 53, 3) := by decide +kernel
theorem dX1_unitOf_91 : decode cX1_unitOf 91 = .ok (.iload_n 3, 1) := by decide +kernel
theorem dX1_unitOf_92 : decode cX1_unitOf 92 = .ok (.iaload, 1) := by decide +kernel
theorem dX1_unitOf_93 : decode cX1_unitOf 93 = .ok (.istore_n 3, 1) := by decide +kernel
theorem dX1_unitOf_94 : decode cX1_unitOf 94 = .ok (.goto (-89), 3) := by decide +kernel
theorem dX1_unitOf_97 : decode cX1_unitOf 97 = .ok (.aload_n 0, 1) := by decide +kernel
theorem dX1_unitOf_98 : decode cX1_unitOf 98 = .ok (.getfield 56, 3) := by decide +kernel
theorem dX1_unitOf_101 : decode cX1_unitOf 101 = .ok (.iload_n 3, 1) := by decide +kernel
theorem dX1_unitOf_102 : decode cX1_unitOf 102 = .ok (.laload, 1) := by decide +kernel
theorem dX1_unitOf_103 : decode cX1_unitOf 103 = .ok (.bipush 16, 2) := by decide +kernel
theorem dX1_unitOf_105 : decode cX1_unitOf 105 = .ok (.aload_n 0, 1) := by decide +kernel
theorem dX1_unitOf_106 : decode cX1_unitOf 106 = .ok (.getfield 44, 3) := by decide +kernel
theorem dX1_unitOf_109 : decode cX1_unitOf 109 = .ok (.iload_n 3, 1) := by decide +kernel
theorem dX1_unitOf_110 : decode cX1_unitOf 110 = .ok (.iaload, 1) := by decide +kernel
theorem dX1_unitOf_111 : decode cX1_unitOf 111 = .ok (.iconst 1, 1) := by decide +kernel
theorem dX1_unitOf_112 : decode cX1_unitOf 112 = .ok (.isub, 1) := by decide +kernel
theorem dX1_unitOf_113 : decode cX1_unitOf 113 = .ok (.iload 4, 2) := by decide +kernel
theorem dX1_unitOf_115 : decode cX1_unitOf 115 = .ok (.isub, 1) := by decide +kernel
theorem dX1_unitOf_116 : decode cX1_unitOf 116 = .ok (.imul, 1) := by decide +kernel
theorem dX1_unitOf_117 : decode cX1_unitOf 117 = .ok (.lshr, 1) := by decide +kernel
theorem dX1_unitOf_118 : decode cX1_unitOf 118 = .ok (.ldc2_w 125, 3) := by decide +kernel
theorem dX1_unitOf_121 : decode cX1_unitOf 121 = .ok (.land, 1) := by decide +kernel
theorem dX1_unitOf_122 : decode cX1_unitOf 122 = .ok (.l2i, 1) := by decide +kernel
theorem dX1_unitOf_123 : decode cX1_unitOf 123 = .ok (.ireturn, 1) := by decide +kernel
set_option maxRecDepth 20000 in
theorem ggX1_goOver_X1_make : GoodIn wsX1_goOver wsX1_make := goodIn_r _ [10, 1, 11, 2, 12, 13, 14, 15, 16, 17, 18, 19, 9, 20, 21, 22, 23, 24, 25, 26, 27, 28, 29, 30, 3, 4, 5, 31, 32, 33, 34, 35, 36, 37, 38, 39, 40, 41, 42, 43, 44, 45, 46, 47, 48, 49, 50, 51, 52, 53, 54, 55, 56, 57, 58, 59] (by decide +kernel) (by decide +kernel)
set_option maxRecDepth 20000 in
theorem gX1_goOver_X1_make : GoodIn wsX1_goOver (wsV RX1 106 RX1 yX1_make wsX1_make) := goodIn_app (goodIn_of _ (by decide +kernel)) ggX1_goOver_X1_make
theorem dX1_goOver_0 : decode cX1_goOver 0 = .ok (.aload_n 0, 1) := by decide +kernel
theorem dX1_goOver_1 : decode cX1_goOver 1 = .ok (.getfield 17, 3) := by decide +kernel
theorem dX1_goOver_4 : decode cX1_goOver 4 = .ok (.iload_n 1, 1) := by decide +kernel
theorem dX1_goOver_5 : decode cX1_goOver 5 = .ok (.iaload, 1) := by decide +kernel
theorem dX1_goOver_6 : decode cX1_goOver 6 = .ok (.iconst 3, 1) := by decide +kernel
theorem dX1_goOver_7 : decode cX1_goOver 7 = .ok (.if_icmp .eq 5, 3) := by decide +kernel
theorem dX1_goOver_10 : decode cX1_goOver 10 = .ok (.iconst 1, 1) := by decide +kernel
theorem dX1_goOver_11 : decode cX1_goOver 11 = .ok (.ireturn, 1) := by decide +kernel
theorem dX1_goOver_12 : decode cX1_goOver 12 = .ok (.aload_n 0, 1) := by decide +kernel
theorem dX1_goOver_13 : decode cX1_goOver 13 = .ok (.iconst 2, 1) := by decide +kernel
theorem dX1_goOver_14 : decode cX1_goOver 14 = .ok (.aload_n 0, 1) := by decide +kernel
theorem dX1_goOver_15 : decode cX1_goOver 15 = .ok (.getfield 44, 3) := by decide +kernel
theorem dX1_goOver_18 : decode cX1_goOver 18 = .ok (.iload_n 1, 1) := by decide +kernel
theorem dX1_goOver_19 : decode cX1_goOver 19 = .ok (.iaload, 1) := by decide +kernel
theorem dX1_goOver_20 : decode cX1_goOver 20 = .ok (.iconst 1, 1) := by decide +kernel
theorem dX1_goOver_21 : decode cX1_goOver 21 = .ok (.invokevirtual 106, 3) := by decide +kernel
theorem dX1_goOver_24 : decode cX1_goOver 24 = .ok (.istore_n 2, 1) := by decide +kernel
theorem dX1_goOver_25 : decode cX1_goOver 25 = .ok (.iload_n 2, 1) := by decide +kernel
theorem dX1_goOver_26 : decode cX1_goOver 26 = .ok (.ifCond .ne 5, 3) := by decide +kernel
theorem dX1_goOver_29 : decode cX1_goOver 29 = .ok (.iconst 0, 1) := by decide +kernel
theorem dX1_goOver_30 : decode cX1_goOver 30 = .ok (.ireturn, 1) := by decide +kernel
theorem dX1_goOver_31 : decode cX1_goOver 31 = .ok (.aload_n 0, 1) := by decide +kernel
theorem dX1_goOver_32 : decode cX1_goOver 32 = .ok (.getfield 50, 3) := by decide +kernel
theorem dX1_goOver_35 : decode cX1_goOver 35 = .ok (.iload_n 2, 1) := by decide +kernel
theorem dX1_goOver_36 : decode cX1_goOver 36 = .ok (.iload_n 1, 1) := by decide +kernel
theorem dX1_goOver_37 : decode cX1_goOver 37 = .ok (.iastore, 1) := by decide +kernel
theorem dX1_goOver_38 : decode cX1_goOver 38 = .ok (.aload_n 0, 1) := by decide +kernel
theorem dX1_goOver_39 : decode cX1_goOver 39 = .ok (.getfield 53, 3) := by decide +kernel
theorem dX1_goOver_42 : decode cX1_goOver 42 = .ok (.iload_n 2, 1) := by decide +kernel
theorem dX1_goOver_43 : decode cX1_goOver 43 = .ok (.iconst 0, 1) := by decide +kernel
theorem dX1_goOver_44 : decode cX1_goOver 44 = .ok (.iastore, 1) := by decide +kernel
theorem dX1_goOver_45 : decode cX1_goOver 45 = .ok (.aload_n 0, 1) := by decide +kernel
theorem dX1_goOver_46 : decode cX1_goOver 46 = .ok (.getfield 17, 3) := by decide +kernel
theorem dX1_goOver_49 : decode cX1_goOver 49 = .ok (.iload_n 1, 1) := by decide +kernel
theorem dX1_goOver_50 : decode cX1_goOver 50 = .ok (.iconst 4, 1) := by decide +kernel
theorem dX1_goOver_51 : decode cX1_goOver 51 = .ok (.iastore, 1) := by decide +kernel
theorem dX1_goOver_52 : decode cX1_goOver 52 = .ok (.aload_n 0, 1) := by decide +kernel
theorem dX1_goOver_53 : decode cX1_goOver 53 = .ok (.getfield 59, 3) := by decide +kernel
theorem dX1_goOver_56 : decode cX1_goOver 56 = .ok (.iload_n 1, 1) := by decide +kernel
theorem dX1_goOver_57 : decode cX1_goOver 57 = .ok (.iload_n 2, 1) := by decide +kernel
theorem dX1_goOver_58 : decode cX1_goOver 58 = .ok (.iastore, 1) := by decide +kernel
theorem dX1_goOver_59 : decode cX1_goOver 59 = .ok (.iconst 1, 1) := by decide +kernel
theorem dX1_goOver_60 : decode cX1_goOver 60 = .ok (.ireturn, 1) := by decide +kernel
theorem dX1_full_0 : decode cX1_full 0 = .ok (.aload_n 0, 1) := by decide +kernel
theorem dX1_full_1 : decode cX1_full 1 = .ok (.iload_n 1, 1) := by decide +kernel
theorem dX1_full_2 : decode cX1_full 2 = .ok (.ifCond .ne 7, 3) := by decide +kernel
theorem dX1_full_5 : decode cX1_full 5 = .ok (.iconst 2, 1) := by decide +kernel
theorem dX1_full_6 : decode cX1_full 6 = .ok (.goto 4, 3) := by decide +kernel
theorem dX1_full_9 : decode cX1_full 9 = .ok (.iconst 0, 1) := by decide +kernel
theorem dX1_full_10 : decode cX1_full 10 = .ok (.putfield 73, 3) := by decide +kernel
theorem dX1_full_13 : decode cX1_full 13 = .ok (.iload_n 1, 1) := by decide +kernel
theorem dX1_full_14 : decode cX1_full 14 = .ok (.ireturn, 1) := by decide +kernel
set_option maxRecDepth 20000 in
theorem ggX1_text_X1_isRoot : GoodIn wsX1_text wsX1_isRoot := goodIn_r _ [6, 7, 8, 5, 9] (by decide +kernel) (by decide +kernel)
set_option maxRecDepth 20000 in
theorem gX1_text_X1_isRoot : GoodIn wsX1_text (va_wsS RX1 98 yX1_isRoot wsX1_isRoot) := goodIn_app (goodIn_of _ (by decide +kernel)) ggX1_text_X1_isRoot
set_option maxRecDepth 20000 in
theorem ggX1_text_X1_in : GoodIn wsX1_text wsX1_in := goodIn_r _ [9] (by decide +kernel) (by decide +kernel)
set_option maxRecDepth 20000 in
theorem gX1_text_X1_in : GoodIn wsX1_text (va_wsS RX1 76 yX1_in wsX1_in) := goodIn_app (goodIn_of _ (by decide +kernel)) ggX1_text_X1_in
set_option maxRecDepth 20000 in
theorem ggX1_text_X1_says : GoodIn wsX1_text wsX1_says := goodIn_r _ [13, 14, 55, 56, 57, 58, 59, 60, 61, 62, 63, 64, 65, 66, 67, 68, 69, 70, 71, 72, 73, 74, 75] (by decide +kernel) (by decide +kernel)
set_option maxRecDepth 20000 in
theorem gX1_text_X1_says : GoodIn wsX1_text (wsV RX1 102 RX1 yX1_says wsX1_says) := goodIn_app (goodIn_of _ (by decide +kernel)) ggX1_text_X1_says
set_option maxRecDepth 20000 in
theorem ggX1_text_X1_make : GoodIn wsX1_text wsX1_make := goodIn_r _ [18, 19, 20, 21, 22, 23, 24, 25, 26, 27, 28, 29, 5, 30, 31, 32, 33, 34, 35, 36, 37, 2, 38, 39, 40, 41, 42, 43, 44, 45, 46, 47, 48, 49, 50, 55, 56, 57, 58, 59, 60, 61, 62, 63, 64, 65, 66, 67, 68, 69, 70, 71, 72, 73, 74, 75] (by decide +kernel) (by decide +kernel)
set_option maxRecDepth 20000 in
theorem gX1_text_X1_make : GoodIn wsX1_text (wsV RX1 106 RX1 yX1_make wsX1_make) := goodIn_app (goodIn_of _ (by decide +kernel)) ggX1_text_X1_make
set_option maxRecDepth 20000 in
theorem ggX1_text_X1_full : GoodIn wsX1_text wsX1_full := goodIn_r _ [54, 14, 55, 56, 57, 58, 59, 60, 61, 62, 63, 64, 65, 66, 67, 68, 69, 70, 71, 72, 73, 74, 75] (by decide +kernel) (by decide +kernel)
set_option maxRecDepth 20000 in
theorem gX1_text_X1_full : GoodIn wsX1_text (wsV RX1 127 RX1 yX1_full wsX1_full) := goodIn_app (goodIn_of _ (by decide +kernel)) ggX1_text_X1_full
theorem dX1_text_0 : decode cX1_text 0 = .ok (.aload_n 0, 1) := by decide +kernel
theorem dX1_text_1 : decode cX1_text 1 = .ok (.iload_n 1, 1) := by decide +kernel
theorem dX1_text_2 : decode cX1_text 2 = .ok (.invokestatic 98, 3) := by decide +kernel
theorem dX1_text_5 : decode cX1_text 5 = .ok (.ifCond .eq 17, 3) := by decide +kernel
theorem dX1_text_8 : decode cX1_text 8 = .ok (.iload 4, 2) := by decide +kernel
theorem dX1_text_10 : decode cX1_text 10 = .ok (.iconst 0, 1) := by decide +kernel
theorem dX1_text_11 : decode cX1_text 11 = .ok (.iconst 4, 1) := by decide +kernel
theorem dX1_text_12 : decode cX1_text 12 = .ok (.invokestatic 76, 3) := by decide +kernel
theorem dX1_text_15 : decode cX1_text 15 = .ok (.ifCond .eq 7, 3) := by decide +kernel
theorem dX1_text_18 : decode cX1_text 18 = .ok (.iconst 1, 1) := by decide +kernel
theorem dX1_text_19 : decode cX1_text 19 = .ok (.goto 4, 3) := by decide +kernel
theorem dX1_text_22 : decode cX1_text 22 = .ok (.iconst 0, 1) := by decide +kernel
theorem dX1_text_23 : decode cX1_text 23 = .ok (.invokevirtual 102, 3) := by decide +kernel
theorem dX1_text_26 : decode cX1_text 26 = .ok (.ifCond .ne 4, 3) := by decide +kernel
theorem dX1_text_29 : decode cX1_text 29 = .ok (.return_, 1) := by decide +kernel
theorem dX1_text_30 : decode cX1_text 30 = .ok (.aload_n 0, 1) := by decide +kernel
theorem dX1_text_31 : decode cX1_text 31 = .ok (.aload_n 0, 1) := by decide +kernel
theorem dX1_text_32 : decode cX1_text 32 = .ok (.iconst 2, 1) := by decide +kernel
theorem dX1_text_33 : decode cX1_text 33 = .ok (.iload 4, 2) := by decide +kernel
theorem dX1_text_35 : decode cX1_text 35 = .ok (.iconst 0, 1) := by decide +kernel
theorem dX1_text_36 : decode cX1_text 36 = .ok (.invokevirtual 106, 3) := by decide +kernel
theorem dX1_text_39 : decode cX1_text 39 = .ok (.invokevirtual 127, 3) := by decide +kernel
theorem dX1_text_42 : decode cX1_text 42 = .ok (.istore 5, 2) := by decide +kernel
theorem dX1_text_44 : decode cX1_text 44 = .ok (.iload 5, 2) := by decide +kernel
theorem dX1_text_46 : decode cX1_text 46 = .ok (.ifCond .ne 4, 3) := by decide +kernel
theorem dX1_text_49 : decode cX1_text 49 = .ok (.return_, 1) := by decide +kernel
theorem dX1_text_50 : decode cX1_text 50 = .ok (.aload_n 0, 1) := by decide +kernel
theorem dX1_text_51 : decode cX1_text 51 = .ok (.getfield 56, 3) := by decide +kernel
theorem dX1_text_54 : decode cX1_text 54 = .ok (.iload 5, 2) := by decide +kernel
theorem dX1_text_56 : decode cX1_text 56 = .ok (.lload_n 2, 1) := by decide +kernel
theorem dX1_text_57 : decode cX1_text 57 = .ok (.lastore, 1) := by decide +kernel
theorem dX1_text_58 : decode cX1_text 58 = .ok (.aload_n 0, 1) := by decide +kernel
theorem dX1_text_59 : decode cX1_text 59 = .ok (.getfield 9, 3) := by decide +kernel
theorem dX1_text_62 : decode cX1_text 62 = .ok (.iload_n 1, 1) := by decide +kernel
theorem dX1_text_63 : decode cX1_text 63 = .ok (.iload 5, 2) := by decide +kernel
theorem dX1_text_65 : decode cX1_text 65 = .ok (.iastore, 1) := by decide +kernel
theorem dX1_text_66 : decode cX1_text 66 = .ok (.return_, 1) := by decide +kernel
set_option maxRecDepth 20000 in
theorem ggX1_join_X1_isRoot : GoodIn wsX1_join wsX1_isRoot := goodIn_r _ [8, 9, 10, 7, 11] (by decide +kernel) (by decide +kernel)
set_option maxRecDepth 20000 in
theorem gX1_join_X1_isRoot : GoodIn wsX1_join (va_wsS RX1 98 yX1_isRoot wsX1_isRoot) := goodIn_app (goodIn_of _ (by decide +kernel)) ggX1_join_X1_isRoot
set_option maxRecDepth 20000 in
theorem ggX1_join_X1_isText : GoodIn wsX1_join wsX1_isText := goodIn_r _ [15, 16, 1, 5, 6, 7, 8, 9, 10, 11, 58, 59, 60, 61, 62, 63, 64, 65, 66, 67, 68, 69, 70, 71, 72, 73, 74, 75, 76, 77, 78] (by decide +kernel) (by decide +kernel)
set_option maxRecDepth 20000 in
theorem gX1_join_X1_isText : GoodIn wsX1_join (wsV RX1 130 RX1 yX1_isText wsX1_isText) := goodIn_app (goodIn_of _ (by decide +kernel)) ggX1_join_X1_isText
set_option maxRecDepth 20000 in
theorem ggX1_join_X1_says : GoodIn wsX1_join wsX1_says := goodIn_r _ [20, 21, 58, 59, 60, 61, 62, 63, 64, 65, 66, 67, 68, 69, 70, 71, 72, 73, 74, 75, 76, 77, 78] (by decide +kernel) (by decide +kernel)
set_option maxRecDepth 20000 in
theorem gX1_join_X1_says : GoodIn wsX1_join (wsV RX1 102 RX1 yX1_says wsX1_says) := goodIn_app (goodIn_of _ (by decide +kernel)) ggX1_join_X1_says
set_option maxRecDepth 20000 in
theorem ggX1_join_X1_make : GoodIn wsX1_join wsX1_make := goodIn_r _ [25, 16, 26, 2, 27, 28, 29, 30, 31, 32, 33, 34, 7, 35, 36, 37, 38, 39, 40, 41, 42, 1, 43, 44, 3, 4, 45, 46, 47, 48, 49, 50, 51, 52, 53, 58, 59, 60, 61, 62, 63, 64, 65, 66, 67, 68, 69, 70, 71, 72, 73, 74, 75, 76, 77, 78] (by decide +kernel) (by decide +kernel)
set_option maxRecDepth 20000 in
theorem gX1_join_X1_make : GoodIn wsX1_join (wsV RX1 106 RX1 yX1_make wsX1_make) := goodIn_app (goodIn_of _ (by decide +kernel)) ggX1_join_X1_make
set_option maxRecDepth 20000 in
theorem ggX1_join_X1_full : GoodIn wsX1_join wsX1_full := goodIn_r _ [57, 21, 58, 59, 60, 61, 62, 63, 64, 65, 66, 67, 68, 69, 70, 71, 72, 73, 74, 75, 76, 77, 78] (by decide +kernel) (by decide +kernel)
set_option maxRecDepth 20000 in
theorem gX1_join_X1_full : GoodIn wsX1_join (wsV RX1 127 RX1 yX1_full wsX1_full) := goodIn_app (goodIn_of _ (by decide +kernel)) ggX1_join_X1_full
theorem dX1_join_0 : decode cX1_join 0 = .ok (.aload_n 0, 1) := by decide +kernel
theorem dX1_join_1 : decode cX1_join 1 = .ok (.iload_n 1, 1) := by decide +kernel
theorem dX1_join_2 : decode cX1_join 2 = .ok (.invokestatic 98, 3) := by decide +kernel
theorem dX1_join_5 : decode cX1_join 5 = .ok (.ifCond .eq 23, 3) := by decide +kernel
theorem dX1_join_8 : decode cX1_join 8 = .ok (.aload_n 0, 1) := by decide +kernel
theorem dX1_join_9 : decode cX1_join 9 = .ok (.iload_n 2, 1) := by decide +kernel
theorem dX1_join_10 : decode cX1_join 10 = .ok (.invokevirtual 130, 3) := by decide +kernel
theorem dX1_join_13 : decode cX1_join 13 = .ok (.ifCond .eq 15, 3) := by decide +kernel
theorem dX1_join_16 : decode cX1_join 16 = .ok (.aload_n 0, 1) := by decide +kernel
theorem dX1_join_17 : decode cX1_join 17 = .ok (.iload_n 3, 1) := by decide +kernel
theorem dX1_join_18 : decode cX1_join 18 = .ok (.invokevirtual 130, 3) := by decide +kernel
theorem dX1_join_21 : decode cX1_join 21 = .ok (.ifCond .eq 7, 3) := by decide +kernel
theorem dX1_join_24 : decode cX1_join 24 = .ok (.iconst 1, 1) := by decide +kernel
theorem dX1_join_25 : decode cX1_join 25 = .ok (.goto 4, 3) := by decide +kernel
theorem dX1_join_28 : decode cX1_join 28 = .ok (.iconst 0, 1) := by decide +kernel
theorem dX1_join_29 : decode cX1_join 29 = .ok (.invokevirtual 102, 3) := by decide +kernel
theorem dX1_join_32 : decode cX1_join 32 = .ok (.ifCond .ne 4, 3) := by decide +kernel
theorem dX1_join_35 : decode cX1_join 35 = .ok (.return_, 1) := by decide +kernel
theorem dX1_join_36 : decode cX1_join 36 = .ok (.aload_n 0, 1) := by decide +kernel
theorem dX1_join_37 : decode cX1_join 37 = .ok (.getfield 9, 3) := by decide +kernel
theorem dX1_join_40 : decode cX1_join 40 = .ok (.iload_n 2, 1) := by decide +kernel
theorem dX1_join_41 : decode cX1_join 41 = .ok (.iaload, 1) := by decide +kernel
theorem dX1_join_42 : decode cX1_join 42 = .ok (.istore 4, 2) := by decide +kernel
theorem dX1_join_44 : decode cX1_join 44 = .ok (.aload_n 0, 1) := by decide +kernel
theorem dX1_join_45 : decode cX1_join 45 = .ok (.getfield 9, 3) := by decide +kernel
theorem dX1_join_48 : decode cX1_join 48 = .ok (.iload_n 3, 1) := by decide +kernel
theorem dX1_join_49 : decode cX1_join 49 = .ok (.iaload, 1) := by decide +kernel
theorem dX1_join_50 : decode cX1_join 50 = .ok (.istore 5, 2) := by decide +kernel
theorem dX1_join_52 : decode cX1_join 52 = .ok (.aload_n 0, 1) := by decide +kernel
theorem dX1_join_53 : decode cX1_join 53 = .ok (.getfield 44, 3) := by decide +kernel
theorem dX1_join_56 : decode cX1_join 56 = .ok (.iload 4, 2) := by decide +kernel
theorem dX1_join_58 : decode cX1_join 58 = .ok (.iaload, 1) := by decide +kernel
theorem dX1_join_59 : decode cX1_join 59 = .ok (.aload_n 0, 1) := by decide +kernel
theorem dX1_join_60 : decode cX1_join 60 = .ok (.getfield 44, 3) := by decide +kernel
theorem dX1_join_63 : decode cX1_join 63 = .ok (.iload 5, 2) := by decide +kernel
theorem dX1_join_65 : decode cX1_join 65 = .ok (.iaload, 1) := by decide +kernel
theorem dX1_join_66 : decode cX1_join 66 = .ok (.iadd, 1) := by decide +kernel
theorem dX1_join_67 : decode cX1_join 67 = .ok (.istore 6, 2) := by decide +kernel
theorem dX1_join_69 : decode cX1_join 69 = .ok (.aload_n 0, 1) := by decide +kernel
theorem dX1_join_70 : decode cX1_join 70 = .ok (.getfield 44, 3) := by decide +kernel
theorem dX1_join_73 : decode cX1_join 73 = .ok (.iload 4, 2) := by decide +kernel
theorem dX1_join_75 : decode cX1_join 75 = .ok (.iaload, 1) := by decide +kernel
theorem dX1_join_76 : decode cX1_join 76 = .ok (.ifCond .eq 13, 3) := by decide +kernel
theorem dX1_join_79 : decode cX1_join 79 = .ok (.aload_n 0, 1) := by decide +kernel
theorem dX1_join_80 : decode cX1_join 80 = .ok (.getfield 44, 3) := by decide +kernel
theorem dX1_join_83 : decode cX1_join 83 = .ok (.iload 5, 2) := by decide +kernel
theorem dX1_join_85 : decode cX1_join 85 = .ok (.iaload, 1) := by decide +kernel
theorem dX1_join_86 : decode cX1_join 86 = .ok (.ifCond .ne 27, 3) := by decide +kernel
theorem dX1_join_89 : decode cX1_join 89 = .ok (.aload_n 0, 1) := by decide +kernel
theorem dX1_join_90 : decode cX1_join 90 = .ok (.getfield 9, 3) := by decide +kernel
theorem dX1_join_93 : decode cX1_join 93 = .ok (.iload_n 1, 1) := by decide +kernel
theorem dX1_join_94 : decode cX1_join 94 = .ok (.aload_n 0, 1) := by decide +kernel
theorem dX1_join_95 : decode cX1_join 95 = .ok (.getfield 44, 3) := by decide +kernel
theorem dX1_join_98 : decode cX1_join 98 = .ok (.iload 4, 2) := by decide +kernel
theorem dX1_join_100 : decode cX1_join 100 = .ok (.iaload, 1) := by decide +kernel
theorem dX1_join_101 : decode cX1_join 101 = .ok (.ifCond .ne 8, 3) := by decide +kernel
theorem dX1_join_104 : decode cX1_join 104 = .ok (.iload 5, 2) := by decide +kernel
theorem dX1_join_106 : decode cX1_join 106 = .ok (.goto 5, 3) := by decide +kernel
theorem dX1_join_109 : decode cX1_join 109 = .ok (.iload 4, 2) := by decide +kernel
theorem dX1_join_111 : decode cX1_join 111 = .ok (.iastore, 1) := by decide +kernel
theorem dX1_join_112 : decode cX1_join 112 = .ok (.return_, 1) := by decide +kernel
theorem dX1_join_113 : decode cX1_join 113 = .ok (.iload 6, 2) := by decide +kernel
theorem dX1_join_115 : decode cX1_join 115 = .ok (.sipush 4000, 3) := by decide +kernel
theorem dX1_join_118 : decode cX1_join 118 = .ok (.if_icmp .le 7, 3) := by decide +kernel
theorem dX1_join_121 : decode cX1_join 121 = .ok (.iconst 0, 1) := by decide +kernel
theorem dX1_join_122 : decode cX1_join 122 = .ok (.goto 22, 3) := by decide +kernel
theorem dX1_join_125 : decode cX1_join 125 = .ok (.aload_n 0, 1) := by decide +kernel
theorem dX1_join_126 : decode cX1_join 126 = .ok (.iload 6, 2) := by decide +kernel
theorem dX1_join_128 : decode cX1_join 128 = .ok (.bipush 24, 2) := by decide +kernel
theorem dX1_join_130 : decode cX1_join 130 = .ok (.if_icmp .le 7, 3) := by decide +kernel
theorem dX1_join_133 : decode cX1_join 133 = .ok (.iconst 3, 1) := by decide +kernel
theorem dX1_join_134 : decode cX1_join 134 = .ok (.goto 4, 3) := by decide +kernel
theorem dX1_join_137 : decode cX1_join 137 = .ok (.iconst 2, 1) := by decide +kernel
theorem dX1_join_138 : decode cX1_join 138 = .ok (.iload 6, 2) := by decide +kernel
theorem dX1_join_140 : decode cX1_join 140 = .ok (.iconst 2, 1) := by decide +kernel
theorem dX1_join_141 : decode cX1_join 141 = .ok (.invokevirtual 106, 3) := by decide +kernel
theorem dX1_join_144 : decode cX1_join 144 = .ok (.istore 7, 2) := by decide +kernel
theorem dX1_join_146 : decode cX1_join 146 = .ok (.aload_n 0, 1) := by decide +kernel
theorem dX1_join_147 : decode cX1_join 147 = .ok (.iload 7, 2) := by decide +kernel
theorem dX1_join_149 : decode cX1_join 149 = .ok (.invokevirtual 127, 3) := by decide +kernel
theorem dX1_join_152 : decode cX1_join 152 = .ok (.ifCond .ne 4, 3) := by decide +kernel
theorem dX1_join_155 : decode cX1_join 155 = .ok (.return_, 1) := by decide +kernel
theorem dX1_join_156 : decode cX1_join 156 = .ok (.aload_n 0, 1) := by decide +kernel
theorem dX1_join_157 : decode cX1_join 157 = .ok (.getfield 50, 3) := by decide +kernel
theorem dX1_join_160 : decode cX1_join 160 = .ok (.iload 7, 2) := by decide +kernel
theorem dX1_join_162 : decode cX1_join 162 = .ok (.iload 4, 2) := by decide +kernel
theorem dX1_join_164 : decode cX1_join 164 = .ok (.iastore, 1) := by decide +kernel
theorem dX1_join_165 : decode cX1_join 165 = .ok (.aload_n 0, 1) := by decide +kernel
theorem dX1_join_166 : decode cX1_join 166 = .ok (.getfield 53, 3) := by decide +kernel
theorem dX1_join_169 : decode cX1_join 169 = .ok (.iload 7, 2) := by decide +kernel
theorem dX1_join_171 : decode cX1_join 171 = .ok (.iload 5, 2) := by decide +kernel
theorem dX1_join_173 : decode cX1_join 173 = .ok (.iastore, 1) := by decide +kernel
theorem dX1_join_174 : decode cX1_join 174 = .ok (.aload_n 0, 1) := by decide +kernel
theorem dX1_join_175 : decode cX1_join 175 = .ok (.getfield 9, 3) := by decide +kernel
theorem dX1_join_178 : decode cX1_join 178 = .ok (.iload_n 1, 1) := by decide +kernel
theorem dX1_join_179 : decode cX1_join 179 = .ok (.iload 7, 2) := by decide +kernel
theorem dX1_join_181 : decode cX1_join 181 = .ok (.iastore, 1) := by decide +kernel
theorem dX1_join_182 : decode cX1_join 182 = .ok (.return_, 1) := by decide +kernel
set_option maxRecDepth 20000 in
theorem ggX1_partOf_X1_goOver : GoodIn wsX1_partOf wsX1_goOver := goodIn_r _ [7, 8, 9, 1, 2, 10, 11, 12, 13, 6, 14, 15, 16, 17, 18, 19, 20, 21, 22, 23, 24, 25, 26, 27, 28, 29, 30, 31, 32, 33, 34, 35, 36, 37, 38, 39, 40, 41, 42, 43, 44, 45, 46, 47, 48, 49, 50, 51, 52, 53, 54, 55, 56, 57, 58, 59, 60, 61, 62, 63] (by decide +kernel) (by decide +kernel)
set_option maxRecDepth 20000 in
theorem gX1_partOf_X1_goOver : GoodIn wsX1_partOf (wsV RX1 133 RX1 yX1_goOver wsX1_goOver) := goodIn_app (goodIn_of _ (by decide +kernel)) ggX1_partOf_X1_goOver
set_option maxRecDepth 20000 in
theorem ggX1_partOf_X1_make : GoodIn wsX1_partOf wsX1_make := goodIn_r _ [14, 8, 15, 9, 16, 17, 18, 19, 20, 21, 22, 23, 6, 24, 25, 26, 27, 28, 29, 30, 31, 32, 33, 34, 1, 2, 10, 35, 36, 37, 38, 39, 40, 41, 42, 43, 44, 45, 46, 47, 48, 49, 50, 51, 52, 53, 54, 55, 56, 57, 58, 59, 60, 61, 62, 63] (by decide +kernel) (by decide +kernel)
set_option maxRecDepth 20000 in
theorem gX1_partOf_X1_make : GoodIn wsX1_partOf (wsV RX1 106 RX1 yX1_make wsX1_make) := goodIn_app (goodIn_of _ (by decide +kernel)) ggX1_partOf_X1_make
theorem dX1_partOf_0 : decode cX1_partOf 0 = .ok (.aload_n 0, 1) := by decide +kernel
theorem dX1_partOf_1 : decode cX1_partOf 1 = .ok (.iload_n 2, 1) := by decide +kernel
theorem dX1_partOf_2 : decode cX1_partOf 2 = .ok (.invokevirtual 133, 3) := by decide +kernel
theorem dX1_partOf_5 : decode cX1_partOf 5 = .ok (.ifCond .ne 5, 3) := by decide +kernel
theorem dX1_partOf_8 : decode cX1_partOf 8 = .ok (.iconst 0, 1) := by decide +kernel
theorem dX1_partOf_9 : decode cX1_partOf 9 = .ok (.ireturn, 1) := by decide +kernel
theorem dX1_partOf_10 : decode cX1_partOf 10 = .ok (.aload_n 0, 1) := by decide +kernel
theorem dX1_partOf_11 : decode cX1_partOf 11 = .ok (.iload_n 1, 1) := by decide +kernel
theorem dX1_partOf_12 : decode cX1_partOf 12 = .ok (.iload 4, 2) := by decide +kernel
theorem dX1_partOf_14 : decode cX1_partOf 14 = .ok (.iload_n 3, 1) := by decide +kernel
theorem dX1_partOf_15 : decode cX1_partOf 15 = .ok (.isub, 1) := by decide +kernel
theorem dX1_partOf_16 : decode cX1_partOf 16 = .ok (.iconst 1, 1) := by decide +kernel
theorem dX1_partOf_17 : decode cX1_partOf 17 = .ok (.invokevirtual 106, 3) := by decide +kernel
theorem dX1_partOf_20 : decode cX1_partOf 20 = .ok (.istore 5, 2) := by decide +kernel
theorem dX1_partOf_22 : decode cX1_partOf 22 = .ok (.aload_n 0, 1) := by decide +kernel
theorem dX1_partOf_23 : decode cX1_partOf 23 = .ok (.getfield 50, 3) := by decide +kernel
theorem dX1_partOf_26 : decode cX1_partOf 26 = .ok (.iload 5, 2) := by decide +kernel
theorem dX1_partOf_28 : decode cX1_partOf 28 = .ok (.iload_n 2, 1) := by decide +kernel
theorem dX1_partOf_29 : decode cX1_partOf 29 = .ok (.iastore, 1) := by decide +kernel
theorem dX1_partOf_30 : decode cX1_partOf 30 = .ok (.aload_n 0, 1) := by decide +kernel
theorem dX1_partOf_31 : decode cX1_partOf 31 = .ok (.getfield 53, 3) := by decide +kernel
theorem dX1_partOf_34 : decode cX1_partOf 34 = .ok (.iload 5, 2) := by decide +kernel
theorem dX1_partOf_36 : decode cX1_partOf 36 = .ok (.iload_n 3, 1) := by decide +kernel
theorem dX1_partOf_37 : decode cX1_partOf 37 = .ok (.iastore, 1) := by decide +kernel
theorem dX1_partOf_38 : decode cX1_partOf 38 = .ok (.iload 5, 2) := by decide +kernel
theorem dX1_partOf_40 : decode cX1_partOf 40 = .ok (.ireturn, 1) := by decide +kernel
set_option maxRecDepth 20000 in
theorem ggX1_part_X1_isRoot : GoodIn wsX1_part wsX1_isRoot := goodIn_r _ [6, 7, 8, 5, 9] (by decide +kernel) (by decide +kernel)
set_option maxRecDepth 20000 in
theorem gX1_part_X1_isRoot : GoodIn wsX1_part (va_wsS RX1 98 yX1_isRoot wsX1_isRoot) := goodIn_app (goodIn_of _ (by decide +kernel)) ggX1_part_X1_isRoot
set_option maxRecDepth 20000 in
theorem ggX1_part_X1_isText : GoodIn wsX1_part wsX1_isText := goodIn_r _ [13, 14, 2, 3, 4, 5, 6, 7, 8, 9, 66, 67, 68, 69, 70, 71, 72, 73, 74, 75, 76, 77, 78, 79, 80, 81, 82, 83, 84, 85, 86] (by decide +kernel) (by decide +kernel)
set_option maxRecDepth 20000 in
theorem gX1_part_X1_isText : GoodIn wsX1_part (wsV RX1 130 RX1 yX1_isText wsX1_isText) := goodIn_app (goodIn_of _ (by decide +kernel)) ggX1_part_X1_isText
set_option maxRecDepth 20000 in
theorem ggX1_part_X1_says : GoodIn wsX1_part wsX1_says := goodIn_r _ [18, 19, 66, 67, 68, 69, 70, 71, 72, 73, 74, 75, 76, 77, 78, 79, 80, 81, 82, 83, 84, 85, 86] (by decide +kernel) (by decide +kernel)
set_option maxRecDepth 20000 in
theorem gX1_part_X1_says : GoodIn wsX1_part (wsV RX1 102 RX1 yX1_says wsX1_says) := goodIn_app (goodIn_of _ (by decide +kernel)) ggX1_part_X1_says
set_option maxRecDepth 20000 in
theorem ggX1_part_X1_partOf : GoodIn wsX1_part wsX1_partOf := goodIn_r _ [23, 24, 25, 26, 27, 28, 5, 29, 14, 1, 30, 31, 32, 33, 34, 35, 36, 37, 38, 39, 40, 41, 42, 43, 44, 45, 46, 47, 48, 49, 50, 51, 2, 52, 53, 54, 55, 56, 57, 58, 59, 60, 61, 66, 67, 68, 69, 70, 71, 72, 73, 74, 75, 76, 77, 78, 79, 80, 81, 82, 83, 84, 85, 86] (by decide +kernel) (by decide +kernel)
set_option maxRecDepth 20000 in
theorem gX1_part_X1_partOf : GoodIn wsX1_part (wsV RX1 136 RX1 yX1_partOf wsX1_partOf) := goodIn_app (goodIn_of _ (by decide +kernel)) ggX1_part_X1_partOf
set_option maxRecDepth 20000 in
theorem ggX1_part_X1_full : GoodIn wsX1_part wsX1_full := goodIn_r _ [65, 19, 66, 67, 68, 69, 70, 71, 72, 73, 74, 75, 76, 77, 78, 79, 80, 81, 82, 83, 84, 85, 86] (by decide +kernel) (by decide +kernel)
set_option maxRecDepth 20000 in
theorem gX1_part_X1_full : GoodIn wsX1_part (wsV RX1 127 RX1 yX1_full wsX1_full) := goodIn_app (goodIn_of _ (by decide +kernel)) ggX1_part_X1_full
theorem dX1_part_0 : decode cX1_part 0 = .ok (.iload_n 1, 1) := by decide +kernel
theorem dX1_part_1 : decode cX1_part 1 = .ok (.invokestatic 98, 3) := by decide +kernel
theorem dX1_part_4 : decode cX1_part 4 = .ok (.ifCond .eq 15, 3) := by decide +kernel
theorem dX1_part_7 : decode cX1_part 7 = .ok (.aload_n 0, 1) := by decide +kernel
theorem dX1_part_8 : decode cX1_part 8 = .ok (.iload_n 2, 1) := by decide +kernel
theorem dX1_part_9 : decode cX1_part 9 = .ok (.invokevirtual 130, 3) := by decide +kernel
theorem dX1_part_12 : decode cX1_part 12 = .ok (.ifCond .eq 7, 3) := by decide +kernel
theorem dX1_part_15 : decode cX1_part 15 = .ok (.iconst 1, 1) := by decide +kernel
theorem dX1_part_16 : decode cX1_part 16 = .ok (.goto 4, 3) := by decide +kernel
theorem dX1_part_19 : decode cX1_part 19 = .ok (.iconst 0, 1) := by decide +kernel
theorem dX1_part_20 : decode cX1_part 20 = .ok (.istore 5, 2) := by decide +kernel
theorem dX1_part_22 : decode cX1_part 22 = .ok (.aload_n 0, 1) := by decide +kernel
theorem dX1_part_23 : decode cX1_part 23 = .ok (.iload 5, 2) := by decide +kernel
theorem dX1_part_25 : decode cX1_part 25 = .ok (.ifCond .eq 33, 3) := by decide +kernel
theorem dX1_part_28 : decode cX1_part 28 = .ok (.iload_n 3, 1) := by decide +kernel
theorem dX1_part_29 : decode cX1_part 29 = .ok (.ifCond .lt 29, 3) := by decide +kernel
theorem dX1_part_32 : decode cX1_part 32 = .ok (.iload_n 3, 1) := by decide +kernel
theorem dX1_part_33 : decode cX1_part 33 = .ok (.iload 4, 2) := by decide +kernel
theorem dX1_part_35 : decode cX1_part 35 = .ok (.if_icmp .gt 23, 3) := by decide +kernel
theorem dX1_part_38 : decode cX1_part 38 = .ok (.iload 4, 2) := by decide +kernel
theorem dX1_part_40 : decode cX1_part 40 = .ok (.aload_n 0, 1) := by decide +kernel
theorem dX1_part_41 : decode cX1_part 41 = .ok (.getfield 44, 3) := by decide +kernel
theorem dX1_part_44 : decode cX1_part 44 = .ok (.aload_n 0, 1) := by decide +kernel
theorem dX1_part_45 : decode cX1_part 45 = .ok (.getfield 9, 3) := by decide +kernel
theorem dX1_part_48 : decode cX1_part 48 = .ok (.iload_n 2, 1) := by decide +kernel
theorem dX1_part_49 : decode cX1_part 49 = .ok (.iaload, 1) := by decide +kernel
theorem dX1_part_50 : decode cX1_part 50 = .ok (.iaload, 1) := by decide +kernel
theorem dX1_part_51 : decode cX1_part 51 = .ok (.if_icmp .gt 7, 3) := by decide +kernel
theorem dX1_part_54 : decode cX1_part 54 = .ok (.iconst 1, 1) := by decide +kernel
theorem dX1_part_55 : decode cX1_part 55 = .ok (.goto 4, 3) := by decide +kernel
theorem dX1_part_58 : decode cX1_part 58 = .ok (.iconst 0, 1) := by decide +kernel
theorem dX1_part_59 : decode cX1_part 59 = .ok (.invokevirtual 102, 3) := by decide +kernel
theorem dX1_part_62 : decode cX1_part 62 = .ok (.ifCond .ne 4, 3) := by decide +kernel
theorem dX1_part_65 : decode cX1_part 65 = .ok (.return_, 1) := by decide +kernel
theorem dX1_part_66 : decode cX1_part 66 = .ok (.aload_n 0, 1) := by decide +kernel
theorem dX1_part_67 : decode cX1_part 67 = .ok (.aload_n 0, 1) := by decide +kernel
theorem dX1_part_68 : decode cX1_part 68 = .ok (.iconst 2, 1) := by decide +kernel
theorem dX1_part_69 : decode cX1_part 69 = .ok (.aload_n 0, 1) := by decide +kernel
theorem dX1_part_70 : decode cX1_part 70 = .ok (.getfield 9, 3) := by decide +kernel
theorem dX1_part_73 : decode cX1_part 73 = .ok (.iload_n 2, 1) := by decide +kernel
theorem dX1_part_74 : decode cX1_part 74 = .ok (.iaload, 1) := by decide +kernel
theorem dX1_part_75 : decode cX1_part 75 = .ok (.iload_n 3, 1) := by decide +kernel
theorem dX1_part_76 : decode cX1_part 76 = .ok (.iload 4, 2) := by decide +kernel
theorem dX1_part_78 : decode cX1_part 78 = .ok (.invokevirtual 136, 3) := by decide +kernel
theorem dX1_part_81 : decode cX1_part 81 = .ok (.invokevirtual 127, 3) := by decide +kernel
theorem dX1_part_84 : decode cX1_part 84 = .ok (.istore 6, 2) := by decide +kernel
theorem dX1_part_86 : decode cX1_part 86 = .ok (.iload 6, 2) := by decide +kernel
theorem dX1_part_88 : decode cX1_part 88 = .ok (.ifCond .le 11, 3) := by decide +kernel
theorem dX1_part_91 : decode cX1_part 91 = .ok (.aload_n 0, 1) := by decide +kernel
theorem dX1_part_92 : decode cX1_part 92 = .ok (.getfield 9, 3) := by decide +kernel
theorem dX1_part_95 : decode cX1_part 95 = .ok (.iload_n 1, 1) := by decide +kernel
theorem dX1_part_96 : decode cX1_part 96 = .ok (.iload 6, 2) := by decide +kernel
theorem dX1_part_98 : decode cX1_part 98 = .ok (.iastore, 1) := by decide +kernel
theorem dX1_part_99 : decode cX1_part 99 = .ok (.return_, 1) := by decide +kernel
set_option maxRecDepth 20000 in
theorem ggX1_length_X1_isText : GoodIn wsX1_length wsX1_isText := goodIn_r _ [7, 8, 2, 9, 10, 6, 11, 12, 13, 14, 20, 21, 22, 23, 24, 25, 26, 27, 28, 29, 30, 31, 32, 33, 34, 35, 36, 37, 38, 39, 40] (by decide +kernel) (by decide +kernel)
set_option maxRecDepth 20000 in
theorem gX1_length_X1_isText : GoodIn wsX1_length (wsV RX1 130 RX1 yX1_isText wsX1_isText) := goodIn_app (goodIn_of _ (by decide +kernel)) ggX1_length_X1_isText
set_option maxRecDepth 20000 in
theorem ggX1_length_X1_says : GoodIn wsX1_length wsX1_says := goodIn_r _ [18, 19, 20, 21, 22, 23, 24, 25, 26, 27, 28, 29, 30, 31, 32, 33, 34, 35, 36, 37, 38, 39, 40] (by decide +kernel) (by decide +kernel)
set_option maxRecDepth 20000 in
theorem gX1_length_X1_says : GoodIn wsX1_length (wsV RX1 102 RX1 yX1_says wsX1_says) := goodIn_app (goodIn_of _ (by decide +kernel)) ggX1_length_X1_says
theorem dX1_length_0 : decode cX1_length 0 = .ok (.aload_n 0, 1) := by decide +kernel
theorem dX1_length_1 : decode cX1_length 1 = .ok (.aload_n 0, 1) := by decide +kernel
theorem dX1_length_2 : decode cX1_length 2 = .ok (.iload_n 1, 1) := by decide +kernel
theorem dX1_length_3 : decode cX1_length 3 = .ok (.invokevirtual 130, 3) := by decide +kernel
theorem dX1_length_6 : decode cX1_length 6 = .ok (.invokevirtual 102, 3) := by decide +kernel
theorem dX1_length_9 : decode cX1_length 9 = .ok (.ifCond .eq 17, 3) := by decide +kernel
theorem dX1_length_12 : decode cX1_length 12 = .ok (.aload_n 0, 1) := by decide +kernel
theorem dX1_length_13 : decode cX1_length 13 = .ok (.getfield 44, 3) := by decide +kernel
theorem dX1_length_16 : decode cX1_length 16 = .ok (.aload_n 0, 1) := by decide +kernel
theorem dX1_length_17 : decode cX1_length 17 = .ok (.getfield 9, 3) := by decide +kernel
theorem dX1_length_20 : decode cX1_length 20 = .ok (.iload_n 1, 1) := by decide +kernel
theorem dX1_length_21 : decode cX1_length 21 = .ok (.iaload, 1) := by decide +kernel
theorem dX1_length_22 : decode cX1_length 22 = .ok (.iaload, 1) := by decide +kernel
theorem dX1_length_23 : decode cX1_length 23 = .ok (.goto 4, 3) := by decide +kernel
theorem dX1_length_26 : decode cX1_length 26 = .ok (.iconst 0, 1) := by decide +kernel
theorem dX1_length_27 : decode cX1_length 27 = .ok (.ireturn, 1) := by decide +kernel
set_option maxRecDepth 20000 in
theorem ggX1_unit_X1_isText : GoodIn wsX1_unit wsX1_isText := goodIn_r _ [8, 9, 2, 10, 11, 7, 12, 13, 14, 15, 64, 65, 66, 67, 68, 69, 70, 71, 72, 73, 74, 75, 76, 77, 78, 79, 80, 81, 82, 83, 84] (by decide +kernel) (by decide +kernel)
set_option maxRecDepth 20000 in
theorem gX1_unit_X1_isText : GoodIn wsX1_unit (wsV RX1 130 RX1 yX1_isText wsX1_isText) := goodIn_app (goodIn_of _ (by decide +kernel)) ggX1_unit_X1_isText
set_option maxRecDepth 20000 in
theorem ggX1_unit_X1_in : GoodIn wsX1_unit wsX1_in := goodIn_r _ [15] (by decide +kernel) (by decide +kernel)
set_option maxRecDepth 20000 in
theorem gX1_unit_X1_in : GoodIn wsX1_unit (va_wsS RX1 76 yX1_in wsX1_in) := goodIn_app (goodIn_of _ (by decide +kernel)) ggX1_unit_X1_in
set_option maxRecDepth 20000 in
theorem ggX1_unit_X1_says : GoodIn wsX1_unit wsX1_says := goodIn_r _ [19, 3, 64, 65, 66, 67, 68, 69, 70, 71, 72, 73, 74, 75, 76, 77, 78, 79, 80, 81, 82, 83, 84] (by decide +kernel) (by decide +kernel)
set_option maxRecDepth 20000 in
theorem gX1_unit_X1_says : GoodIn wsX1_unit (wsV RX1 102 RX1 yX1_says wsX1_says) := goodIn_app (goodIn_of _ (by decide +kernel)) ggX1_unit_X1_says
set_option maxRecDepth 20000 in
theorem ggX1_unit_X1_goOver : GoodIn wsX1_unit wsX1_goOver := goodIn_r _ [23, 9, 1, 24, 25, 26, 27, 28, 29, 7, 30, 31, 32, 33, 34, 35, 36, 37, 38, 39, 40, 41, 42, 43, 44, 45, 46, 47, 2, 48, 49, 50, 51, 52, 53, 54, 55, 56, 57, 64, 65, 66, 67, 68, 69, 70, 71, 72, 73, 74, 75, 76, 77, 78, 79, 80, 81, 82, 83, 84] (by decide +kernel) (by decide +kernel)
set_option maxRecDepth 20000 in
theorem gX1_unit_X1_goOver : GoodIn wsX1_unit (wsV RX1 133 RX1 yX1_goOver wsX1_goOver) := goodIn_app (goodIn_of _ (by decide +kernel)) ggX1_unit_X1_goOver
set_option maxRecDepth 20000 in
theorem ggX1_unit_X1_unitOf : GoodIn wsX1_unit wsX1_unitOf := goodIn_r _ [61, 32, 25, 24, 1, 62, 63, 64, 65, 66, 67, 68, 69, 70, 71, 72, 73, 74, 75, 76, 77, 78, 79, 80, 81, 82, 83, 84] (by decide +kernel) (by decide +kernel)
set_option maxRecDepth 20000 in
theorem gX1_unit_X1_unitOf : GoodIn wsX1_unit (wsV RX1 140 RX1 yX1_unitOf wsX1_unitOf) := goodIn_app (goodIn_of _ (by decide +kernel)) ggX1_unit_X1_unitOf
theorem dX1_unit_0 : decode cX1_unit 0 = .ok (.aload_n 0, 1) := by decide +kernel
theorem dX1_unit_1 : decode cX1_unit 1 = .ok (.iload_n 1, 1) := by decide +kernel
theorem dX1_unit_2 : decode cX1_unit 2 = .ok (.invokevirtual 130, 3) := by decide +kernel
theorem dX1_unit_5 : decode cX1_unit 5 = .ok (.istore_n 3, 1) := by decide +kernel
theorem dX1_unit_6 : decode cX1_unit 6 = .ok (.aload_n 0, 1) := by decide +kernel
theorem dX1_unit_7 : decode cX1_unit 7 = .ok (.iload_n 3, 1) := by decide +kernel
theorem dX1_unit_8 : decode cX1_unit 8 = .ok (.ifCond .eq 28, 3) := by decide +kernel
theorem dX1_unit_11 : decode cX1_unit 11 = .ok (.iload_n 2, 1) := by decide +kernel
theorem dX1_unit_12 : decode cX1_unit 12 = .ok (.iconst 0, 1) := by decide +kernel
theorem dX1_unit_13 : decode cX1_unit 13 = .ok (.aload_n 0, 1) := by decide +kernel
theorem dX1_unit_14 : decode cX1_unit 14 = .ok (.getfield 44, 3) := by decide +kernel
theorem dX1_unit_17 : decode cX1_unit 17 = .ok (.aload_n 0, 1) := by decide +kernel
theorem dX1_unit_18 : decode cX1_unit 18 = .ok (.getfield 9, 3) := by decide +kernel
theorem dX1_unit_21 : decode cX1_unit 21 = .ok (.iload_n 1, 1) := by decide +kernel
theorem dX1_unit_22 : decode cX1_unit 22 = .ok (.iaload, 1) := by decide +kernel
theorem dX1_unit_23 : decode cX1_unit 23 = .ok (.iaload, 1) := by decide +kernel
theorem dX1_unit_24 : decode cX1_unit 24 = .ok (.iconst 1, 1) := by decide +kernel
theorem dX1_unit_25 : decode cX1_unit 25 = .ok (.isub, 1) := by decide +kernel
theorem dX1_unit_26 : decode cX1_unit 26 = .ok (.invokestatic 76, 3) := by decide +kernel
theorem dX1_unit_29 : decode cX1_unit 29 = .ok (.ifCond .eq 7, 3) := by decide +kernel
theorem dX1_unit_32 : decode cX1_unit 32 = .ok (.iconst 1, 1) := by decide +kernel
theorem dX1_unit_33 : decode cX1_unit 33 = .ok (.goto 4, 3) := by decide +kernel
theorem dX1_unit_36 : decode cX1_unit 36 = .ok (.iconst 0, 1) := by decide +kernel
theorem dX1_unit_37 : decode cX1_unit 37 = .ok (.invokevirtual 102, 3) := by decide +kernel
theorem dX1_unit_40 : decode cX1_unit 40 = .ok (.ifCond .ne 5, 3) := by decide +kernel
theorem dX1_unit_43 : decode cX1_unit 43 = .ok (.iconst 0, 1) := by decide +kernel
theorem dX1_unit_44 : decode cX1_unit 44 = .ok (.ireturn, 1) := by decide +kernel
theorem dX1_unit_45 : decode cX1_unit 45 = .ok (.aload_n 0, 1) := by decide +kernel
theorem dX1_unit_46 : decode cX1_unit 46 = .ok (.aload_n 0, 1) := by decide +kernel
theorem dX1_unit_47 : decode cX1_unit 47 = .ok (.getfield 9, 3) := by decide +kernel
theorem dX1_unit_50 : decode cX1_unit 50 = .ok (.iload_n 1, 1) := by decide +kernel
theorem dX1_unit_51 : decode cX1_unit 51 = .ok (.iaload, 1) := by decide +kernel
theorem dX1_unit_52 : decode cX1_unit 52 = .ok (.invokevirtual 133, 3) := by decide +kernel
theorem dX1_unit_55 : decode cX1_unit 55 = .ok (.ifCond .ne 10, 3) := by decide +kernel
theorem dX1_unit_58 : decode cX1_unit 58 = .ok (.aload_n 0, 1) := by decide +kernel
theorem dX1_unit_59 : decode cX1_unit 59 = .ok (.iconst 2, 1) := by decide +kernel
theorem dX1_unit_60 : decode cX1_unit 60 = .ok (.putfield 73, 3) := by decide +kernel
theorem dX1_unit_63 : decode cX1_unit 63 = .ok (.iconst 0, 1) := by decide +kernel
theorem dX1_unit_64 : decode cX1_unit 64 = .ok (.ireturn, 1) := by decide +kernel
theorem dX1_unit_65 : decode cX1_unit 65 = .ok (.aload_n 0, 1) := by decide +kernel
theorem dX1_unit_66 : decode cX1_unit 66 = .ok (.aload_n 0, 1) := by decide +kernel
theorem dX1_unit_67 : decode cX1_unit 67 = .ok (.getfield 9, 3) := by decide +kernel
theorem dX1_unit_70 : decode cX1_unit 70 = .ok (.iload_n 1, 1) := by decide +kernel
theorem dX1_unit_71 : decode cX1_unit 71 = .ok (.iaload, 1) := by decide +kernel
theorem dX1_unit_72 : decode cX1_unit 72 = .ok (.iload_n 2, 1) := by decide +kernel
theorem dX1_unit_73 : decode cX1_unit 73 = .ok (.invokevirtual 140, 3) := by decide +kernel
theorem dX1_unit_76 : decode cX1_unit 76 = .ok (.ireturn, 1) := by decide +kernel
set_option maxRecDepth 20000 in
theorem ggX1_order_X1_unitOf : GoodIn wsX1_order wsX1_unitOf := goodIn_r _ [6, 7, 8, 9, 1, 10, 11, 12, 13, 14, 15, 16, 17, 18, 19, 20, 21, 22, 23, 24, 25, 26, 27, 28, 29, 30, 31, 32] (by decide +kernel) (by decide +kernel)
set_option maxRecDepth 20000 in
theorem gX1_order_X1_unitOf : GoodIn wsX1_order (wsV RX1 140 RX1 yX1_unitOf wsX1_unitOf) := goodIn_app (goodIn_of _ (by decide +kernel)) ggX1_order_X1_unitOf
theorem dX1_order_0 : decode cX1_order 0 = .ok (.aload_n 0, 1) := by decide +kernel
theorem dX1_order_1 : decode cX1_order 1 = .ok (.getfield 44, 3) := by decide +kernel
theorem dX1_order_4 : decode cX1_order 4 = .ok (.iload_n 1, 1) := by decide +kernel
theorem dX1_order_5 : decode cX1_order 5 = .ok (.iaload, 1) := by decide +kernel
theorem dX1_order_6 : decode cX1_order 6 = .ok (.aload_n 0, 1) := by decide +kernel
theorem dX1_order_7 : decode cX1_order 7 = .ok (.getfield 44, 3) := by decide +kernel
theorem dX1_order_10 : decode cX1_order 10 = .ok (.iload_n 2, 1) := by decide +kernel
theorem dX1_order_11 : decode cX1_order 11 = .ok (.iaload, 1) := by decide +kernel
theorem dX1_order_12 : decode cX1_order 12 = .ok (.if_icmp .ge 12, 3) := by decide +kernel
theorem dX1_order_15 : decode cX1_order 15 = .ok (.aload_n 0, 1) := by decide +kernel
theorem dX1_order_16 : decode cX1_order 16 = .ok (.getfield 44, 3) := by decide +kernel
theorem dX1_order_19 : decode cX1_order 19 = .ok (.iload_n 1, 1) := by decide +kernel
theorem dX1_order_20 : decode cX1_order 20 = .ok (.iaload, 1) := by decide +kernel
theorem dX1_order_21 : decode cX1_order 21 = .ok (.goto 9, 3) := by decide +kernel
theorem dX1_order_24 : decode cX1_order 24 = .ok (.aload_n 0, 1) := by decide +kernel
theorem dX1_order_25 : decode cX1_order 25 = .ok (.getfield 44, 3) := by decide +kernel
theorem dX1_order_28 : decode cX1_order 28 = .ok (.iload_n 2, 1) := by decide +kernel
theorem dX1_order_29 : decode cX1_order 29 = .ok (.iaload, 1) := by decide +kernel
theorem dX1_order_30 : decode cX1_order 30 = .ok (.istore_n 3, 1) := by decide +kernel
theorem dX1_order_31 : decode cX1_order 31 = .ok (.iconst 0, 1) := by decide +kernel
theorem dX1_order_32 : decode cX1_order 32 = .ok (.istore 4, 2) := by decide +kernel
theorem dX1_order_34 : decode cX1_order 34 = .ok (.iload 4, 2) := by decide +kernel
theorem dX1_order_36 : decode cX1_order 36 = .ok (.iload_n 3, 1) := by decide +kernel
theorem dX1_order_37 : decode cX1_order 37 = .ok (.if_icmp .ge 47, 3) := by decide +kernel
theorem dX1_order_40 : decode cX1_order 40 = .ok (.aload_n 0, 1) := by decide +kernel
theorem dX1_order_41 : decode cX1_order 41 = .ok (.iload_n 1, 1) := by decide +kernel
theorem dX1_order_42 : decode cX1_order 42 = .ok (.iload 4, 2) := by decide +kernel
theorem dX1_order_44 : decode cX1_order 44 = .ok (.invokevirtual 140, 3) := by decide +kernel
theorem dX1_order_47 : decode cX1_order 47 = .ok (.istore 5, 2) := by decide +kernel
theorem dX1_order_49 : decode cX1_order 49 = .ok (.aload_n 0, 1) := by decide +kernel
theorem dX1_order_50 : decode cX1_order 50 = .ok (.iload_n 2, 1) := by decide +kernel
theorem dX1_order_51 : decode cX1_order 51 = .ok (.iload 4, 2) := by decide +kernel
theorem dX1_order_53 : decode cX1_order 53 = .ok (.invokevirtual 140, 3) := by decide +kernel
theorem dX1_order_56 : decode cX1_order 56 = .ok (.istore 6, 2) := by decide +kernel
theorem dX1_order_58 : decode cX1_order 58 = .ok (.iload 5, 2) := by decide +kernel
theorem dX1_order_60 : decode cX1_order 60 = .ok (.iload 6, 2) := by decide +kernel
theorem dX1_order_62 : decode cX1_order 62 = .ok (.if_icmp .eq 16, 3) := by decide +kernel
theorem dX1_order_65 : decode cX1_order 65 = .ok (.iload 5, 2) := by decide +kernel
theorem dX1_order_67 : decode cX1_order 67 = .ok (.iload 6, 2) := by decide +kernel
theorem dX1_order_69 : decode cX1_order 69 = .ok (.if_icmp .ge 7, 3) := by decide +kernel
theorem dX1_order_72 : decode cX1_order 72 = .ok (.iconst (-1), 1) := by decide +kernel
theorem dX1_order_73 : decode cX1_order 73 = .ok (.goto 4, 3) := by decide +kernel
theorem dX1_order_76 : decode cX1_order 76 = .ok (.iconst 1, 1) := by decide +kernel
theorem dX1_order_77 : decode cX1_order 77 = .ok (.ireturn, 1) := by decide +kernel
theorem dX1_order_78 : decode cX1_order 78 = .ok (.iinc 4 1, 3) := by decide +kernel
theorem dX1_order_81 : decode cX1_order 81 = .ok (.goto (-47), 3) := by decide +kernel
theorem dX1_order_84 : decode cX1_order 84 = .ok (.aload_n 0, 1) := by decide +kernel
theorem dX1_order_85 : decode cX1_order 85 = .ok (.getfield 44, 3) := by decide +kernel
theorem dX1_order_88 : decode cX1_order 88 = .ok (.iload_n 1, 1) := by decide +kernel
theorem dX1_order_89 : decode cX1_order 89 = .ok (.iaload, 1) := by decide +kernel
theorem dX1_order_90 : decode cX1_order 90 = .ok (.aload_n 0, 1) := by decide +kernel
theorem dX1_order_91 : decode cX1_order 91 = .ok (.getfield 44, 3) := by decide +kernel
theorem dX1_order_94 : decode cX1_order 94 = .ok (.iload_n 2, 1) := by decide +kernel
theorem dX1_order_95 : decode cX1_order 95 = .ok (.iaload, 1) := by decide +kernel
theorem dX1_order_96 : decode cX1_order 96 = .ok (.if_icmp .ne 7, 3) := by decide +kernel
theorem dX1_order_99 : decode cX1_order 99 = .ok (.iconst 0, 1) := by decide +kernel
theorem dX1_order_100 : decode cX1_order 100 = .ok (.goto 23, 3) := by decide +kernel
theorem dX1_order_103 : decode cX1_order 103 = .ok (.aload_n 0, 1) := by decide +kernel
theorem dX1_order_104 : decode cX1_order 104 = .ok (.getfield 44, 3) := by decide +kernel
theorem dX1_order_107 : decode cX1_order 107 = .ok (.iload_n 1, 1) := by decide +kernel
theorem dX1_order_108 : decode cX1_order 108 = .ok (.iaload, 1) := by decide +kernel
theorem dX1_order_109 : decode cX1_order 109 = .ok (.aload_n 0, 1) := by decide +kernel
theorem dX1_order_110 : decode cX1_order 110 = .ok (.getfield 44, 3) := by decide +kernel
theorem dX1_order_113 : decode cX1_order 113 = .ok (.iload_n 2, 1) := by decide +kernel
theorem dX1_order_114 : decode cX1_order 114 = .ok (.iaload, 1) := by decide +kernel
theorem dX1_order_115 : decode cX1_order 115 = .ok (.if_icmp .ge 7, 3) := by decide +kernel
theorem dX1_order_118 : decode cX1_order 118 = .ok (.iconst (-1), 1) := by decide +kernel
theorem dX1_order_119 : decode cX1_order 119 = .ok (.goto 4, 3) := by decide +kernel
theorem dX1_order_122 : decode cX1_order 122 = .ok (.iconst 1, 1) := by decide +kernel
theorem dX1_order_123 : decode cX1_order 123 = .ok (.ireturn, 1) := by decide +kernel
set_option maxRecDepth 20000 in
theorem ggX1_compare_X1_isText : GoodIn wsX1_compare wsX1_isText := goodIn_r _ [7, 8, 1, 9, 10, 6, 11, 12, 13, 14, 68, 69, 70, 71, 72, 73, 74, 75, 76, 77, 78, 79, 80, 81, 82, 83, 84, 85, 86, 87, 88] (by decide +kernel) (by decide +kernel)
set_option maxRecDepth 20000 in
theorem gX1_compare_X1_isText : GoodIn wsX1_compare (wsV RX1 130 RX1 yX1_isText wsX1_isText) := goodIn_app (goodIn_of _ (by decide +kernel)) ggX1_compare_X1_isText
set_option maxRecDepth 20000 in
theorem ggX1_compare_X1_says : GoodIn wsX1_compare wsX1_says := goodIn_r _ [18, 2, 68, 69, 70, 71, 72, 73, 74, 75, 76, 77, 78, 79, 80, 81, 82, 83, 84, 85, 86, 87, 88] (by decide +kernel) (by decide +kernel)
set_option maxRecDepth 20000 in
theorem gX1_compare_X1_says : GoodIn wsX1_compare (wsV RX1 102 RX1 yX1_says wsX1_says) := goodIn_app (goodIn_of _ (by decide +kernel)) ggX1_compare_X1_says
set_option maxRecDepth 20000 in
theorem ggX1_compare_X1_goOver : GoodIn wsX1_compare wsX1_goOver := goodIn_r _ [22, 8, 23, 24, 25, 26, 27, 28, 29, 6, 30, 31, 32, 33, 34, 35, 36, 37, 38, 39, 40, 41, 42, 43, 44, 45, 46, 47, 1, 48, 49, 50, 51, 52, 53, 54, 55, 56, 57, 68, 69, 70, 71, 72, 73, 74, 75, 76, 77, 78, 79, 80, 81, 82, 83, 84, 85, 86, 87, 88] (by decide +kernel) (by decide +kernel)
set_option maxRecDepth 20000 in
theorem gX1_compare_X1_goOver : GoodIn wsX1_compare (wsV RX1 133 RX1 yX1_goOver wsX1_goOver) := goodIn_app (goodIn_of _ (by decide +kernel)) ggX1_compare_X1_goOver
set_option maxRecDepth 20000 in
theorem ggX1_compare_X1_order : GoodIn wsX1_compare wsX1_order := goodIn_r _ [61, 23, 62, 63, 64, 6, 65, 32, 25, 24, 66, 67, 68, 69, 70, 71, 72, 73, 74, 75, 76, 77, 78, 79, 80, 81, 82, 83, 84, 85, 86, 87, 88] (by decide +kernel) (by decide +kernel)
set_option maxRecDepth 20000 in
theorem gX1_compare_X1_order : GoodIn wsX1_compare (wsV RX1 144 RX1 yX1_order wsX1_order) := goodIn_app (goodIn_of _ (by decide +kernel)) ggX1_compare_X1_order
theorem dX1_compare_0 : decode cX1_compare 0 = .ok (.aload_n 0, 1) := by decide +kernel
theorem dX1_compare_1 : decode cX1_compare 1 = .ok (.aload_n 0, 1) := by decide +kernel
theorem dX1_compare_2 : decode cX1_compare 2 = .ok (.iload_n 1, 1) := by decide +kernel
theorem dX1_compare_3 : decode cX1_compare 3 = .ok (.invokevirtual 130, 3) := by decide +kernel
theorem dX1_compare_6 : decode cX1_compare 6 = .ok (.ifCond .eq 15, 3) := by decide +kernel
theorem dX1_compare_9 : decode cX1_compare 9 = .ok (.aload_n 0, 1) := by decide +kernel
theorem dX1_compare_10 : decode cX1_compare 10 = .ok (.iload_n 2, 1) := by decide +kernel
theorem dX1_compare_11 : decode cX1_compare 11 = .ok (.invokevirtual 130, 3) := by decide +kernel
theorem dX1_compare_14 : decode cX1_compare 14 = .ok (.ifCond .eq 7, 3) := by decide +kernel
theorem dX1_compare_17 : decode cX1_compare 17 = .ok (.iconst 1, 1) := by decide +kernel
theorem dX1_compare_18 : decode cX1_compare 18 = .ok (.goto 4, 3) := by decide +kernel
theorem dX1_compare_21 : decode cX1_compare 21 = .ok (.iconst 0, 1) := by decide +kernel
theorem dX1_compare_22 : decode cX1_compare 22 = .ok (.invokevirtual 102, 3) := by decide +kernel
theorem dX1_compare_25 : decode cX1_compare 25 = .ok (.ifCond .ne 5, 3) := by decide +kernel
theorem dX1_compare_28 : decode cX1_compare 28 = .ok (.iconst 0, 1) := by decide +kernel
theorem dX1_compare_29 : decode cX1_compare 29 = .ok (.ireturn, 1) := by decide +kernel
theorem dX1_compare_30 : decode cX1_compare 30 = .ok (.aload_n 0, 1) := by decide +kernel
theorem dX1_compare_31 : decode cX1_compare 31 = .ok (.aload_n 0, 1) := by decide +kernel
theorem dX1_compare_32 : decode cX1_compare 32 = .ok (.getfield 9, 3) := by decide +kernel
theorem dX1_compare_35 : decode cX1_compare 35 = .ok (.iload_n 1, 1) := by decide +kernel
theorem dX1_compare_36 : decode cX1_compare 36 = .ok (.iaload, 1) := by decide +kernel
theorem dX1_compare_37 : decode cX1_compare 37 = .ok (.invokevirtual 133, 3) := by decide +kernel
theorem dX1_compare_40 : decode cX1_compare 40 = .ok (.ifCond .eq 16, 3) := by decide +kernel
theorem dX1_compare_43 : decode cX1_compare 43 = .ok (.aload_n 0, 1) := by decide +kernel
theorem dX1_compare_44 : decode cX1_compare 44 = .ok (.aload_n 0, 1) := by decide +kernel
theorem dX1_compare_45 : decode cX1_compare 45 = .ok (.getfield 9, 3) := by decide +kernel
theorem dX1_compare_48 : decode cX1_compare 48 = .ok (.iload_n 2, 1) := by decide +kernel
theorem dX1_compare_49 : decode cX1_compare 49 = .ok (.iaload, 1) := by decide +kernel
theorem dX1_compare_50 : decode cX1_compare 50 = .ok (.invokevirtual 133, 3) := by decide +kernel
theorem dX1_compare_53 : decode cX1_compare 53 = .ok (.ifCond .ne 10, 3) := by decide +kernel
theorem dX1_compare_56 : decode cX1_compare 56 = .ok (.aload_n 0, 1) := by decide +kernel
theorem dX1_compare_57 : decode cX1_compare 57 = .ok (.iconst 2, 1) := by decide +kernel
theorem dX1_compare_58 : decode cX1_compare 58 = .ok (.putfield 73, 3) := by decide +kernel
theorem dX1_compare_61 : decode cX1_compare 61 = .ok (.iconst 0, 1) := by decide +kernel
theorem dX1_compare_62 : decode cX1_compare 62 = .ok (.ireturn, 1) := by decide +kernel
theorem dX1_compare_63 : decode cX1_compare 63 = .ok (.aload_n 0, 1) := by decide +kernel
theorem dX1_compare_64 : decode cX1_compare 64 = .ok (.aload_n 0, 1) := by decide +kernel
theorem dX1_compare_65 : decode cX1_compare 65 = .ok (.getfield 9, 3) := by decide +kernel
theorem dX1_compare_68 : decode cX1_compare 68 = .ok (.iload_n 1, 1) := by decide +kernel
theorem dX1_compare_69 : decode cX1_compare 69 = .ok (.iaload, 1) := by decide +kernel
theorem dX1_compare_70 : decode cX1_compare 70 = .ok (.aload_n 0, 1) := by decide +kernel
theorem dX1_compare_71 : decode cX1_compare 71 = .ok (.getfield 9, 3) := by decide +kernel
theorem dX1_compare_74 : decode cX1_compare 74 = .ok (.iload_n 2, 1) := by decide +kernel
theorem dX1_compare_75 : decode cX1_compare 75 = .ok (.iaload, 1) := by decide +kernel
theorem dX1_compare_76 : decode cX1_compare 76 = .ok (.invokevirtual 144, 3) := by decide +kernel
theorem dX1_compare_79 : decode cX1_compare 79 = .ok (.ireturn, 1) := by decide +kernel
set_option maxRecDepth 20000 in
theorem ggX1_find_X1_look : GoodIn wsX1_find wsX1_look := goodIn_r _ [9, 10, 1, 2, 11, 12, 13, 14, 15, 16, 3, 17, 18, 19, 20, 21, 22, 8, 23, 35, 36, 37, 38, 39, 40, 41, 42, 43, 44, 45, 46, 47, 48, 49, 50, 51, 52, 53, 54, 55] (by decide +kernel) (by decide +kernel)
set_option maxRecDepth 20000 in
theorem gX1_find_X1_look : GoodIn wsX1_find (wsV RX1 87 RX1 yX1_look wsX1_look) := goodIn_app (goodIn_of _ (by decide +kernel)) ggX1_find_X1_look
set_option maxRecDepth 20000 in
theorem ggX1_find_X1_order : GoodIn wsX1_find wsX1_order := goodIn_r _ [27, 4, 28, 29, 30, 8, 31, 32, 18, 17, 33, 34, 35, 36, 37, 38, 39, 40, 41, 42, 43, 44, 45, 46, 47, 48, 49, 50, 51, 52, 53, 54, 55] (by decide +kernel) (by decide +kernel)
set_option maxRecDepth 20000 in
theorem gX1_find_X1_order : GoodIn wsX1_find (wsV RX1 144 RX1 yX1_order wsX1_order) := goodIn_app (goodIn_of _ (by decide +kernel)) ggX1_find_X1_order
theorem dX1_find_0 : decode cX1_find 0 = .ok (.aload_n 0, 1) := by decide +kernel
theorem dX1_find_1 : decode cX1_find 1 = .ok (.invokevirtual 87, 3) := by decide +kernel
theorem dX1_find_4 : decode cX1_find 4 = .ok (.iconst 1, 1) := by decide +kernel
theorem dX1_find_5 : decode cX1_find 5 = .ok (.istore_n 2, 1) := by decide +kernel
theorem dX1_find_6 : decode cX1_find 6 = .ok (.iload_n 2, 1) := by decide +kernel
theorem dX1_find_7 : decode cX1_find 7 = .ok (.aload_n 0, 1) := by decide +kernel
theorem dX1_find_8 : decode cX1_find 8 = .ok (.getfield 13, 3) := by decide +kernel
theorem dX1_find_11 : decode cX1_find 11 = .ok (.if_icmp .ge 54, 3) := by decide +kernel
theorem dX1_find_14 : decode cX1_find 14 = .ok (.aload_n 0, 1) := by decide +kernel
theorem dX1_find_15 : decode cX1_find 15 = .ok (.getfield 62, 3) := by decide +kernel
theorem dX1_find_18 : decode cX1_find 18 = .ok (.iload_n 2, 1) := by decide +kernel
theorem dX1_find_19 : decode cX1_find 19 = .ok (.baload, 1) := by decide +kernel
theorem dX1_find_20 : decode cX1_find 20 = .ok (.ifCond .eq 39, 3) := by decide +kernel
theorem dX1_find_23 : decode cX1_find 23 = .ok (.aload_n 0, 1) := by decide +kernel
theorem dX1_find_24 : decode cX1_find 24 = .ok (.getfield 17, 3) := by decide +kernel
theorem dX1_find_27 : decode cX1_find 27 = .ok (.iload_n 2, 1) := by decide +kernel
theorem dX1_find_28 : decode cX1_find 28 = .ok (.iaload, 1) := by decide +kernel
theorem dX1_find_29 : decode cX1_find 29 = .ok (.iconst 5, 1) := by decide +kernel
theorem dX1_find_30 : decode cX1_find 30 = .ok (.if_icmp .ne 29, 3) := by decide +kernel
theorem dX1_find_33 : decode cX1_find 33 = .ok (.aload_n 0, 1) := by decide +kernel
theorem dX1_find_34 : decode cX1_find 34 = .ok (.getfield 44, 3) := by decide +kernel
theorem dX1_find_37 : decode cX1_find 37 = .ok (.iload_n 2, 1) := by decide +kernel
theorem dX1_find_38 : decode cX1_find 38 = .ok (.iaload, 1) := by decide +kernel
theorem dX1_find_39 : decode cX1_find 39 = .ok (.aload_n 0, 1) := by decide +kernel
theorem dX1_find_40 : decode cX1_find 40 = .ok (.getfield 44, 3) := by decide +kernel
theorem dX1_find_43 : decode cX1_find 43 = .ok (.iload_n 1, 1) := by decide +kernel
theorem dX1_find_44 : decode cX1_find 44 = .ok (.iaload, 1) := by decide +kernel
theorem dX1_find_45 : decode cX1_find 45 = .ok (.if_icmp .ne 14, 3) := by decide +kernel
theorem dX1_find_48 : decode cX1_find 48 = .ok (.aload_n 0, 1) := by decide +kernel
theorem dX1_find_49 : decode cX1_find 49 = .ok (.iload_n 2, 1) := by decide +kernel
theorem dX1_find_50 : decode cX1_find 50 = .ok (.iload_n 1, 1) := by decide +kernel
theorem dX1_find_51 : decode cX1_find 51 = .ok (.invokevirtual 144, 3) := by decide +kernel
theorem dX1_find_54 : decode cX1_find 54 = .ok (.ifCond .ne 5, 3) := by decide +kernel
theorem dX1_find_57 : decode cX1_find 57 = .ok (.iload_n 2, 1) := by decide +kernel
theorem dX1_find_58 : decode cX1_find 58 = .ok (.ireturn, 1) := by decide +kernel
theorem dX1_find_59 : decode cX1_find 59 = .ok (.iinc 2 1, 3) := by decide +kernel
theorem dX1_find_62 : decode cX1_find 62 = .ok (.goto (-56), 3) := by decide +kernel
theorem dX1_find_65 : decode cX1_find 65 = .ok (.iconst 0, 1) := by decide +kernel
theorem dX1_find_66 : decode cX1_find 66 = .ok (.ireturn, 1) := by decide +kernel
set_option maxRecDepth 20000 in
theorem ggX1_name_X1_isRoot : GoodIn wsX1_name wsX1_isRoot := goodIn_r _ [7, 8, 9, 6, 10] (by decide +kernel) (by decide +kernel)
set_option maxRecDepth 20000 in
theorem gX1_name_X1_isRoot : GoodIn wsX1_name (va_wsS RX1 98 yX1_isRoot wsX1_isRoot) := goodIn_app (goodIn_of _ (by decide +kernel)) ggX1_name_X1_isRoot
set_option maxRecDepth 20000 in
theorem ggX1_name_X1_isText : GoodIn wsX1_name wsX1_isText := goodIn_r _ [14, 2, 1, 4, 5, 6, 7, 8, 9, 10, 80, 81, 82, 83, 84, 85, 86, 87, 88, 89, 90, 91, 92, 93, 94, 95, 96, 97, 98, 99, 100] (by decide +kernel) (by decide +kernel)
set_option maxRecDepth 20000 in
theorem gX1_name_X1_isText : GoodIn wsX1_name (wsV RX1 130 RX1 yX1_isText wsX1_isText) := goodIn_app (goodIn_of _ (by decide +kernel)) ggX1_name_X1_isText
set_option maxRecDepth 20000 in
theorem ggX1_name_X1_says : GoodIn wsX1_name wsX1_says := goodIn_r _ [18, 19, 80, 81, 82, 83, 84, 85, 86, 87, 88, 89, 90, 91, 92, 93, 94, 95, 96, 97, 98, 99, 100] (by decide +kernel) (by decide +kernel)
set_option maxRecDepth 20000 in
theorem gX1_name_X1_says : GoodIn wsX1_name (wsV RX1 102 RX1 yX1_says wsX1_says) := goodIn_app (goodIn_of _ (by decide +kernel)) ggX1_name_X1_says
set_option maxRecDepth 20000 in
theorem ggX1_name_X1_goOver : GoodIn wsX1_name wsX1_goOver := goodIn_r _ [23, 2, 3, 24, 25, 26, 27, 28, 29, 6, 30, 31, 32, 33, 34, 35, 36, 37, 38, 39, 40, 41, 42, 43, 44, 45, 46, 47, 1, 48, 49, 50, 51, 52, 53, 54, 55, 56, 57, 80, 81, 82, 83, 84, 85, 86, 87, 88, 89, 90, 91, 92, 93, 94, 95, 96, 97, 98, 99, 100] (by decide +kernel) (by decide +kernel)
set_option maxRecDepth 20000 in
theorem gX1_name_X1_goOver : GoodIn wsX1_name (wsV RX1 133 RX1 yX1_goOver wsX1_goOver) := goodIn_app (goodIn_of _ (by decide +kernel)) ggX1_name_X1_goOver
set_option maxRecDepth 20000 in
theorem ggX1_name_X1_find : GoodIn wsX1_name wsX1_find := goodIn_r _ [61, 31, 47, 2, 3, 43, 44, 45, 6, 46, 41, 1, 42, 34, 48, 35, 49, 24, 25, 26, 50, 51, 52, 53, 62, 63, 64, 65, 66, 67, 68, 69, 32, 70, 71, 80, 81, 82, 83, 84, 85, 86, 87, 88, 89, 90, 91, 92, 93, 94, 95, 96, 97, 98, 99, 100] (by decide +kernel) (by decide +kernel)
set_option maxRecDepth 20000 in
theorem gX1_name_X1_find : GoodIn wsX1_name (wsV RX1 147 RX1 yX1_find wsX1_find) := goodIn_app (goodIn_of _ (by decide +kernel)) ggX1_name_X1_find
set_option maxRecDepth 20000 in
theorem ggX1_name_X1_partOf : GoodIn wsX1_name wsX1_partOf := goodIn_r _ [75, 24, 25, 20, 21, 22, 6, 23, 2, 3, 26, 27, 28, 29, 30, 31, 32, 33, 34, 35, 36, 37, 38, 39, 40, 41, 42, 43, 44, 45, 46, 47, 1, 48, 49, 50, 51, 52, 53, 54, 55, 56, 57, 80, 81, 82, 83, 84, 85, 86, 87, 88, 89, 90, 91, 92, 93, 94, 95, 96, 97, 98, 99, 100] (by decide +kernel) (by decide +kernel)
set_option maxRecDepth 20000 in
theorem gX1_name_X1_partOf : GoodIn wsX1_name (wsV RX1 136 RX1 yX1_partOf wsX1_partOf) := goodIn_app (goodIn_of _ (by decide +kernel)) ggX1_name_X1_partOf
set_option maxRecDepth 20000 in
theorem ggX1_name_X1_full : GoodIn wsX1_name wsX1_full := goodIn_r _ [79, 19, 80, 81, 82, 83, 84, 85, 86, 87, 88, 89, 90, 91, 92, 93, 94, 95, 96, 97, 98, 99, 100] (by decide +kernel) (by decide +kernel)
set_option maxRecDepth 20000 in
theorem gX1_name_X1_full : GoodIn wsX1_name (wsV RX1 127 RX1 yX1_full wsX1_full) := goodIn_app (goodIn_of _ (by decide +kernel)) ggX1_name_X1_full
theorem dX1_name_0 : decode cX1_name 0 = .ok (.aload_n 0, 1) := by decide +kernel
theorem dX1_name_1 : decode cX1_name 1 = .ok (.iload_n 1, 1) := by decide +kernel
theorem dX1_name_2 : decode cX1_name 2 = .ok (.invokestatic 98, 3) := by decide +kernel
theorem dX1_name_5 : decode cX1_name 5 = .ok (.ifCond .eq 15, 3) := by decide +kernel
theorem dX1_name_8 : decode cX1_name 8 = .ok (.aload_n 0, 1) := by decide +kernel
theorem dX1_name_9 : decode cX1_name 9 = .ok (.iload_n 2, 1) := by decide +kernel
theorem dX1_name_10 : decode cX1_name 10 = .ok (.invokevirtual 130, 3) := by decide +kernel
theorem dX1_name_13 : decode cX1_name 13 = .ok (.ifCond .eq 7, 3) := by decide +kernel
theorem dX1_name_16 : decode cX1_name 16 = .ok (.iconst 1, 1) := by decide +kernel
theorem dX1_name_17 : decode cX1_name 17 = .ok (.goto 4, 3) := by decide +kernel
theorem dX1_name_20 : decode cX1_name 20 = .ok (.iconst 0, 1) := by decide +kernel
theorem dX1_name_21 : decode cX1_name 21 = .ok (.invokevirtual 102, 3) := by decide +kernel
theorem dX1_name_24 : decode cX1_name 24 = .ok (.ifCond .ne 4, 3) := by decide +kernel
theorem dX1_name_27 : decode cX1_name 27 = .ok (.return_, 1) := by decide +kernel
theorem dX1_name_28 : decode cX1_name 28 = .ok (.aload_n 0, 1) := by decide +kernel
theorem dX1_name_29 : decode cX1_name 29 = .ok (.getfield 9, 3) := by decide +kernel
theorem dX1_name_32 : decode cX1_name 32 = .ok (.iload_n 2, 1) := by decide +kernel
theorem dX1_name_33 : decode cX1_name 33 = .ok (.iaload, 1) := by decide +kernel
theorem dX1_name_34 : decode cX1_name 34 = .ok (.istore_n 3, 1) := by decide +kernel
theorem dX1_name_35 : decode cX1_name 35 = .ok (.aload_n 0, 1) := by decide +kernel
theorem dX1_name_36 : decode cX1_name 36 = .ok (.getfield 17, 3) := by decide +kernel
theorem dX1_name_39 : decode cX1_name 39 = .ok (.iload_n 3, 1) := by decide +kernel
theorem dX1_name_40 : decode cX1_name 40 = .ok (.iaload, 1) := by decide +kernel
theorem dX1_name_41 : decode cX1_name 41 = .ok (.iconst 5, 1) := by decide +kernel
theorem dX1_name_42 : decode cX1_name 42 = .ok (.if_icmp .ne 11, 3) := by decide +kernel
theorem dX1_name_45 : decode cX1_name 45 = .ok (.aload_n 0, 1) := by decide +kernel
theorem dX1_name_46 : decode cX1_name 46 = .ok (.getfield 9, 3) := by decide +kernel
theorem dX1_name_49 : decode cX1_name 49 = .ok (.iload_n 1, 1) := by decide +kernel
theorem dX1_name_50 : decode cX1_name 50 = .ok (.iload_n 3, 1) := by decide +kernel
theorem dX1_name_51 : decode cX1_name 51 = .ok (.iastore, 1) := by decide +kernel
theorem dX1_name_52 : decode cX1_name 52 = .ok (.return_, 1) := by decide +kernel
theorem dX1_name_53 : decode cX1_name 53 = .ok (.aload_n 0, 1) := by decide +kernel
theorem dX1_name_54 : decode cX1_name 54 = .ok (.iload_n 3, 1) := by decide +kernel
theorem dX1_name_55 : decode cX1_name 55 = .ok (.invokevirtual 133, 3) := by decide +kernel
theorem dX1_name_58 : decode cX1_name 58 = .ok (.ifCond .eq 11, 3) := by decide +kernel
theorem dX1_name_61 : decode cX1_name 61 = .ok (.aload_n 0, 1) := by decide +kernel
theorem dX1_name_62 : decode cX1_name 62 = .ok (.iload_n 3, 1) := by decide +kernel
theorem dX1_name_63 : decode cX1_name 63 = .ok (.invokevirtual 147, 3) := by decide +kernel
theorem dX1_name_66 : decode cX1_name 66 = .ok (.goto 4, 3) := by decide +kernel
theorem dX1_name_69 : decode cX1_name 69 = .ok (.iconst 0, 1) := by decide +kernel
theorem dX1_name_70 : decode cX1_name 70 = .ok (.istore 4, 2) := by decide +kernel
theorem dX1_name_72 : decode cX1_name 72 = .ok (.iload 4, 2) := by decide +kernel
theorem dX1_name_74 : decode cX1_name 74 = .ok (.ifCond .ne 22, 3) := by decide +kernel
theorem dX1_name_77 : decode cX1_name 77 = .ok (.aload_n 0, 1) := by decide +kernel
theorem dX1_name_78 : decode cX1_name 78 = .ok (.aload_n 0, 1) := by decide +kernel
theorem dX1_name_79 : decode cX1_name 79 = .ok (.iconst 5, 1) := by decide +kernel
theorem dX1_name_80 : decode cX1_name 80 = .ok (.iload_n 3, 1) := by decide +kernel
theorem dX1_name_81 : decode cX1_name 81 = .ok (.iconst 0, 1) := by decide +kernel
theorem dX1_name_82 : decode cX1_name 82 = .ok (.aload_n 0, 1) := by decide +kernel
theorem dX1_name_83 : decode cX1_name 83 = .ok (.getfield 44, 3) := by decide +kernel
theorem dX1_name_86 : decode cX1_name 86 = .ok (.iload_n 3, 1) := by decide +kernel
theorem dX1_name_87 : decode cX1_name 87 = .ok (.iaload, 1) := by decide +kernel
theorem dX1_name_88 : decode cX1_name 88 = .ok (.invokevirtual 136, 3) := by decide +kernel
theorem dX1_name_91 : decode cX1_name 91 = .ok (.invokevirtual 127, 3) := by decide +kernel
theorem dX1_name_94 : decode cX1_name 94 = .ok (.istore 4, 2) := by decide +kernel
theorem dX1_name_96 : decode cX1_name 96 = .ok (.iload 4, 2) := by decide +kernel
theorem dX1_name_98 : decode cX1_name 98 = .ok (.ifCond .le 11, 3) := by decide +kernel
theorem dX1_name_101 : decode cX1_name 101 = .ok (.aload_n 0, 1) := by decide +kernel
theorem dX1_name_102 : decode cX1_name 102 = .ok (.getfield 9, 3) := by decide +kernel
theorem dX1_name_105 : decode cX1_name 105 = .ok (.iload_n 1, 1) := by decide +kernel
theorem dX1_name_106 : decode cX1_name 106 = .ok (.iload 4, 2) := by decide +kernel
theorem dX1_name_108 : decode cX1_name 108 = .ok (.iastore, 1) := by decide +kernel
theorem dX1_name_109 : decode cX1_name 109 = .ok (.return_, 1) := by decide +kernel
/-! contracts: model -/
-- OwnMemoryModel.thrown
abbrev rX1_thrown : Room := { frames := 0, cells := 0, slots := 0, locals := 0 }
theorem nX1_thrown : yX1_thrown.cls = RX1 ∧ yX1_thrown.cls ≠ "java/lang/invoke/MethodHandle" ∧ yX1_thrown.cls ≠ "java/lang/invoke/VarHandle" ∧ (parseMethodDescriptor yX1_thrown.desc).map (fun d => d.parameters.length) = some 0 := by decide +kernel
noncomputable def fX1_thrown (F : Nat) (σ : mS) : Option (Int32 × mS) := some ((m_thrown σ), σ)
set_option maxHeartbeats 4000000 in
set_option maxRecDepth 100000 in
theorem kX1_thrown (l : Launch) (G : gT) (h0 : Nat) (h : (Nat → Nat)) (sz F : Nat) (σ : mS) (r : Int32) (σr : mS) (hg : fX1_thrown F σ = some (r, σr)) : Met l yX1_thrown wsX1_thrown rX1_thrown (mPre G h0 h σ sz []) (mQi G h0 h r σr (mA G h0 h σ sz)) 0 0 (mA G h0 h σ sz) := by
  refine mMet (Qc := mQi G h0 h r σr) (by decide +kernel) rfl rfl (Nat.le_of_ble_eq_true rfl) ?_
  intro p e s m args below meth c A S hr hlocks hK hA H locs hI ls hl
  have hl : lv_has ls 1 [(0, .ref h0)] := hl
  have hin : ∀ w ∈ wsX10, w ∈ wsX1_thrown := in_ws
  have hx := S.1
  have hb := S.2.1
  have hts := S.2.2.2.2
  have hown := S.2.2.2.1
  unfold fX1_thrown at hg
  refine lv_aload_n hx hb dX1_thrown_0 rfl (lv_at hl 0 rfl) ?_
  refine mg_thrown S hin hK hI (ix := 73) (by decide +kernel) dX1_thrown_1 ?_
  exact me_i S hr hlocks hK hI hg dX1_thrown_4
-- OwnMemoryModel.in
abbrev rX1_in : Room := { frames := 0, cells := 0, slots := 0, locals := 0 }
theorem nX1_in : yX1_in.cls ≠ "java/lang/invoke/MethodHandle" ∧ yX1_in.cls ≠ "java/lang/invoke/VarHandle" ∧ (parseMethodDescriptor yX1_in.desc).map (fun d => d.parameters.length) = some 3 := by decide +kernel
noncomputable def fX1_in (F : Nat) (p1 : Int32) (p2 : Int32) (p3 : Int32) : Option Int32 := cIf (p1 < p2) (some 0) (cIf (p3 < p1) (some 0) (some 1))
set_option maxHeartbeats 4000000 in
set_option maxRecDepth 100000 in
theorem kX1_in (l : Launch) (sz F : Nat) (p1 : Int32) (p2 : Int32) (p3 : Int32) (r : Int32) (hg : fX1_in F p1 p2 p3 = some r) : Met l yX1_in wsX1_in rX1_in (sPre sz [.int p1, .int p2, .int p3]) (sQi r sz) 0 0 (fun q => sz ≤ q) := by
  refine sMet (own := RX1) (Qc := sQi r) (by decide +kernel) rfl rfl (Nat.le_of_ble_eq_true rfl) ?_
  intro p e s m args below meth c S hr hlocks H locs hS ls hl
  have hl : lv_has ls 3 [(0, .int p1), (1, .int p2), (2, .int p3)] := hl
  have hx := S.1
  have hb := S.2.1
  have hts := S.2.2.2.2
  have hown := S.2.2.2.1
  unfold fX1_in at hg
  refine lv_iload_n hx hb dX1_in_0 rfl (lv_at hl 0 rfl) ?_
  refine lv_iload_n hx hb dX1_in_1 rfl (lv_at hl 1 rfl) ?_
  refine lv_icmp_lt (tgt := 14) hx hb dX1_in_2 (by decide) (fun c1 => ?_) (fun c1 => ?_)
  · have hg := cIf_te c1 hg
    refine lv_iconst (v := 0) hx hb dX1_in_14 (by decide) ?_
    exact se_z S hr hlocks hS rfl hg dX1_in_15
  · have hg := cIf_fe c1 hg
    refine lv_iload_n hx hb dX1_in_5 rfl (lv_at hl 0 rfl) ?_
    refine lv_iload_n hx hb dX1_in_6 rfl (lv_at hl 2 rfl) ?_
    refine lv_icmp_gt (tgt := 14) hx hb dX1_in_7 (by decide) (fun c2 => ?_) (fun c2 => ?_)
    · have hg := cIf_te c2 hg
      refine lv_iconst (v := 0) hx hb dX1_in_14 (by decide) ?_
      exact se_z S hr hlocks hS rfl hg dX1_in_15
    · have hg := cIf_fe c2 hg
      refine lv_iconst (v := 1) hx hb dX1_in_10 (by decide) ?_
      refine lv_goto (tgt := 15) hx hb dX1_in_11 (by decide) ?_
      exact se_z S hr hlocks hS rfl hg dX1_in_15
-- OwnMemoryModel.isRoot
abbrev rX1_isRoot : Room := { frames := 1, cells := 0, slots := 0, locals := 22 }
theorem nX1_isRoot : yX1_isRoot.cls ≠ "java/lang/invoke/MethodHandle" ∧ yX1_isRoot.cls ≠ "java/lang/invoke/VarHandle" ∧ (parseMethodDescriptor yX1_isRoot.desc).map (fun d => d.parameters.length) = some 1 := by decide +kernel
noncomputable def fX1_isRoot (F : Nat) (p1 : Int32) : Option Int32 := bnp (fX1_in F p1 0 23) (fun r1 => ck (narrow .boolean (.int r1) = .int r1) (some r1))
set_option maxHeartbeats 4000000 in
set_option maxRecDepth 100000 in
theorem kX1_isRoot (l : Launch) (sz F : Nat) (p1 : Int32) (r : Int32) (hg : fX1_isRoot F p1 = some r) : Met l yX1_isRoot wsX1_isRoot rX1_isRoot (sPre sz [.int p1]) (sQi r sz) 0 0 (fun q => sz ≤ q) := by
  refine sMet (own := RX1) (Qc := sQi r) (by decide +kernel) rfl rfl (Nat.le_of_ble_eq_true rfl) ?_
  intro p e s m args below meth c S hr hlocks H locs hS ls hl
  have hl : lv_has ls 1 [(0, .int p1)] := hl
  have hx := S.1
  have hb := S.2.1
  have hts := S.2.2.2.2
  have hown := S.2.2.2.1
  unfold fX1_isRoot at hg
  refine lv_iload_n hx hb dX1_isRoot_0 rfl (lv_at hl 0 rfl) ?_
  refine lv_iconst (v := 0) hx hb dX1_isRoot_1 (by decide) ?_
  refine lv_bipush (v := 23) hx hb dX1_isRoot_2 (by decide) ?_
  obtain ⟨r1, er1, hg⟩ := bnp_e hg
  refine ss_i S hS (As := [.int p1, .int 0, .int 23]) (rest := []) (kX1_in l H.size F p1 0 23 r1 er1) (va_cwS 3 hts gX1_isRoot_X1_in rfl rfl rfl nX1_in ⟨Nat.le_of_ble_eq_true rfl, Nat.le_of_ble_eq_true rfl⟩) rfl hl.1 rfl (Nat.le_of_ble_eq_true rfl) dX1_isRoot_4 ⟨Nat.le_refl _, Nat.le_refl _⟩ (fun H locs hS => ?_)
  obtain ⟨hz, hg⟩ := ck_e hg
  exact se_z S hr hlocks hS hz hg dX1_isRoot_7
-- OwnMemoryModel.says
abbrev rX1_says : Room := { frames := 0, cells := 0, slots := 0, locals := 0 }
theorem nX1_says : yX1_says.cls = RX1 ∧ yX1_says.cls ≠ "java/lang/invoke/MethodHandle" ∧ yX1_says.cls ≠ "java/lang/invoke/VarHandle" ∧ (parseMethodDescriptor yX1_says.desc).map (fun d => d.parameters.length) = some 1 := by decide +kernel
noncomputable def fX1_says (F : Nat) (σ : mS) (p1 : Int32) : Option (Int32 × mS) := cIf (p1 = 0) (nmd (m_s_thrown σ 1) (fun σ2 => ck (narrow .boolean (.int p1) = .int p1) (some (p1, σ2)))) (nmd (m_s_thrown σ 0) (fun σ3 => ck (narrow .boolean (.int p1) = .int p1) (some (p1, σ3))))
set_option maxHeartbeats 4000000 in
set_option maxRecDepth 100000 in
theorem kX1_says (l : Launch) (G : gT) (h0 : Nat) (h : (Nat → Nat)) (sz F : Nat) (σ : mS) (p1 : Int32) (r : Int32) (σr : mS) (hg : fX1_says F σ p1 = some (r, σr)) : Met l yX1_says wsX1_says rX1_says (mPre G h0 h σ sz [.int p1]) (mQi G h0 h r σr (mA G h0 h σ sz)) 0 0 (mA G h0 h σ sz) := by
  refine mMet (Qc := mQi G h0 h r σr) (by decide +kernel) rfl rfl (Nat.le_of_ble_eq_true rfl) ?_
  intro p e s m args below meth c A S hr hlocks hK hA H locs hI ls hl
  have hl : lv_has ls 2 [(0, .ref h0), (1, .int p1)] := hl
  have hin : ∀ w ∈ wsX10, w ∈ wsX1_says := in_ws
  have hx := S.1
  have hb := S.2.1
  have hts := S.2.2.2.2
  have hown := S.2.2.2.1
  unfold fX1_says at hg
  refine lv_aload_n hx hb dX1_says_0 rfl (lv_at hl 0 rfl) ?_
  refine lv_iload_n hx hb dX1_says_1 rfl (lv_at hl 1 rfl) ?_
  refine lv_if_eq (tgt := 9) hx hb dX1_says_2 (by decide) (fun c1 => ?_) (fun c1 => ?_)
  · have hg := cIf_te c1 hg
    refine lv_iconst (v := 1) hx hb dX1_says_9 (by decide) ?_
    obtain ⟨σ2, eσ2, hg⟩ := nmd_e hg
    refine mp_thrown S hin hK hI (ix := 73) (by decide +kernel) eσ2 dX1_says_10 (fun H locs hI => ?_)
    refine lv_iload_n hx hb dX1_says_13 rfl (lv_at hl 1 rfl) ?_
    obtain ⟨hz, hg⟩ := ck_e hg
    exact me_z S hr hlocks hK hI hz hg dX1_says_14
  · have hg := cIf_fe c1 hg
    refine lv_iconst (v := 0) hx hb dX1_says_5 (by decide) ?_
    refine lv_goto (tgt := 10) hx hb dX1_says_6 (by decide) ?_
    obtain ⟨σ3, eσ3, hg⟩ := nmd_e hg
    refine mp_thrown S hin hK hI (ix := 73) (by decide +kernel) eσ3 dX1_says_10 (fun H locs hI => ?_)
    refine lv_iload_n hx hb dX1_says_13 rfl (lv_at hl 1 rfl) ?_
    obtain ⟨hz, hg⟩ := ck_e hg
    exact me_z S hr hlocks hK hI hz hg dX1_says_14
-- OwnMemoryModel.words
abbrev rX1_words : Room := { frames := 0, cells := 0, slots := 0, locals := 0 }
theorem nX1_words : yX1_words.cls = RX1 ∧ yX1_words.cls ≠ "java/lang/invoke/MethodHandle" ∧ yX1_words.cls ≠ "java/lang/invoke/VarHandle" ∧ (parseMethodDescriptor yX1_words.desc).map (fun d => d.parameters.length) = some 1 := by decide +kernel
noncomputable def JX1_words_55 (F : Nat) (σ : mS) (v1 : Int32) : Option (Int32 × mS) := ck (vp_in v1 4096) (nmd (m_length σ v1.toNatClampNeg) (fun x8 => some ((4 + ((x8 + 1) / 2)), σ)))
noncomputable def fX1_words (F : Nat) (σ : mS) (p1 : Int32) : Option (Int32 × mS) := ck (vp_in p1 4096) (nmd (m_kind σ p1.toNatClampNeg) (fun x2 => cIf (x2 = 1) (ck (vp_in p1 4096) (nmd (m_links σ p1.toNatClampNeg) (fun x13 => ck (vp_in p1 4096) (nmd (m_values σ p1.toNatClampNeg) (fun x15 => ck (vp_in p1 4096) (nmd (m_plain σ p1.toNatClampNeg) (fun x17 => some ((((3 + x13) + (2 * x15)) + x17), σ)))))))) (ck (vp_in p1 4096) (nmd (m_kind σ p1.toNatClampNeg) (fun x5 => cIf (x5 = 2) (JX1_words_55 F σ p1) (ck (vp_in p1 4096) (nmd (m_kind σ p1.toNatClampNeg) (fun x10 => cIf (x10 = 5) (JX1_words_55 F σ p1) (some (6, σ))))))))))
set_option maxHeartbeats 4000000 in
set_option maxRecDepth 100000 in
theorem jX1_words_55 {p : Program} {l : Launch} {e : Env} {s : State} {m : MethodId} {args : Array Value} {below : List Frame} {meth : Method} {c : Code} {A : Nat → Prop} {G : gT} {h0 : Nat} {h : (Nat → Nat)} {F : Nat} (S : CallFix p m c cX1_words 2 s args wsX1_words RX1) (hr : meth.sig.returnType = some .int) (hlocks : meth.locks = false) (hin : ∀ w ∈ wsX10, w ∈ wsX1_words) (hK : gK G s) (hA : ∀ q, s.heap.size ≤ q → A q) {res : (Int32 × mS)} (σ : mS) (v1 : Int32) (H : Heap) (locs : List Loc) (ls : Array Slot) (hg : JX1_words_55 F σ v1 = some res) (hI : mI s A G h0 h σ H locs) (hl : lv_has ls 2 [(0, .ref h0), (1, .int v1)]) : W p l e rX1_words s m args below meth c H locs 0 0 (MQ below (mQi G h0 h res.1 res.2 A) args s 0 0 A) (F0 m 55 ls []) := by
  have hx := S.1
  have hb := S.2.1
  have hts := S.2.2.2.2
  have hown := S.2.2.2.1
  unfold JX1_words_55 at hg
  refine lv_iconst (v := 4) hx hb dX1_words_55 (by decide) ?_
  refine lv_aload_n hx hb dX1_words_56 rfl (lv_at hl 0 rfl) ?_
  refine mg_length S hin hK hI (ix := 44) (by decide +kernel) dX1_words_57 ?_
  refine lv_iload_n hx hb dX1_words_60 rfl (lv_at hl 1 rfl) ?_
  obtain ⟨c7, hg⟩ := ck_e hg
  obtain ⟨x8, ex8, hg⟩ := nmd_e hg
  refine mr_length S hK hI c7 ex8 dX1_words_61 ?_
  refine lv_iconst (v := 1) hx hb dX1_words_62 (by decide) ?_
  refine lv_iadd hx hb dX1_words_63 ?_
  refine lv_iconst (v := 2) hx hb dX1_words_64 (by decide) ?_
  refine lv_idiv hx hb dX1_words_65 (by decide) ?_
  refine lv_iadd hx hb dX1_words_66 ?_
  refine lv_goto (tgt := 72) hx hb dX1_words_67 (by decide) ?_
  exact me_i S hr hlocks hK hI hg dX1_words_72
set_option maxHeartbeats 4000000 in
set_option maxRecDepth 100000 in
theorem kX1_words (l : Launch) (G : gT) (h0 : Nat) (h : (Nat → Nat)) (sz F : Nat) (σ : mS) (p1 : Int32) (r : Int32) (σr : mS) (hg : fX1_words F σ p1 = some (r, σr)) : Met l yX1_words wsX1_words rX1_words (mPre G h0 h σ sz [.int p1]) (mQi G h0 h r σr (mA G h0 h σ sz)) 0 0 (mA G h0 h σ sz) := by
  refine mMet (Qc := mQi G h0 h r σr) (by decide +kernel) rfl rfl (Nat.le_of_ble_eq_true rfl) ?_
  intro p e s m args below meth c A S hr hlocks hK hA H locs hI ls hl
  have hl : lv_has ls 2 [(0, .ref h0), (1, .int p1)] := hl
  have hin : ∀ w ∈ wsX10, w ∈ wsX1_words := in_ws
  have hx := S.1
  have hb := S.2.1
  have hts := S.2.2.2.2
  have hown := S.2.2.2.1
  unfold fX1_words at hg
  refine lv_aload_n hx hb dX1_words_0 rfl (lv_at hl 0 rfl) ?_
  refine mg_kind S hin hK hI (ix := 17) (by decide +kernel) dX1_words_1 ?_
  refine lv_iload_n hx hb dX1_words_4 rfl (lv_at hl 1 rfl) ?_
  obtain ⟨c1, hg⟩ := ck_e hg
  obtain ⟨x2, ex2, hg⟩ := nmd_e hg
  refine mr_kind S hK hI c1 ex2 dX1_words_5 ?_
  refine lv_iconst (v := 1) hx hb dX1_words_6 (by decide) ?_
  refine lv_icmp_ne (tgt := 35) hx hb dX1_words_7 (by decide) (fun c3 => ?_) (fun c3 => ?_)
  · have hg := cIf_fe c3 hg
    refine lv_aload_n hx hb dX1_words_35 rfl (lv_at hl 0 rfl) ?_
    refine mg_kind S hin hK hI (ix := 17) (by decide +kernel) dX1_words_36 ?_
    refine lv_iload_n hx hb dX1_words_39 rfl (lv_at hl 1 rfl) ?_
    obtain ⟨c4, hg⟩ := ck_e hg
    obtain ⟨x5, ex5, hg⟩ := nmd_e hg
    refine mr_kind S hK hI c4 ex5 dX1_words_40 ?_
    refine lv_iconst (v := 2) hx hb dX1_words_41 (by decide) ?_
    refine lv_icmp_eq (tgt := 55) hx hb dX1_words_42 (by decide) (fun c6 => ?_) (fun c6 => ?_)
    · have hg := cIf_te c6 hg
      exact jX1_words_55 S hr hlocks hin hK hA σ p1 H locs ls hg hI (lv_sub hl [0, 1] rfl)
    · have hg := cIf_fe c6 hg
      refine lv_aload_n hx hb dX1_words_45 rfl (lv_at hl 0 rfl) ?_
      refine mg_kind S hin hK hI (ix := 17) (by decide +kernel) dX1_words_46 ?_
      refine lv_iload_n hx hb dX1_words_49 rfl (lv_at hl 1 rfl) ?_
      obtain ⟨c9, hg⟩ := ck_e hg
      obtain ⟨x10, ex10, hg⟩ := nmd_e hg
      refine mr_kind S hK hI c9 ex10 dX1_words_50 ?_
      refine lv_iconst (v := 5) hx hb dX1_words_51 (by decide) ?_
      refine lv_icmp_ne (tgt := 70) hx hb dX1_words_52 (by decide) (fun c11 => ?_) (fun c11 => ?_)
      · have hg := cIf_fe c11 hg
        refine lv_bipush (v := 6) hx hb dX1_words_70 (by decide) ?_
        exact me_i S hr hlocks hK hI hg dX1_words_72
      · have hg := cIf_te c11 hg
        exact jX1_words_55 S hr hlocks hin hK hA σ p1 H locs ls hg hI (lv_sub hl [0, 1] rfl)
  · have hg := cIf_te c3 hg
    refine lv_iconst (v := 3) hx hb dX1_words_10 (by decide) ?_
    refine lv_aload_n hx hb dX1_words_11 rfl (lv_at hl 0 rfl) ?_
    refine mg_links S hin hK hI (ix := 20) (by decide +kernel) dX1_words_12 ?_
    refine lv_iload_n hx hb dX1_words_15 rfl (lv_at hl 1 rfl) ?_
    obtain ⟨c12, hg⟩ := ck_e hg
    obtain ⟨x13, ex13, hg⟩ := nmd_e hg
    refine mr_links S hK hI c12 ex13 dX1_words_16 ?_
    refine lv_iadd hx hb dX1_words_17 ?_
    refine lv_iconst (v := 2) hx hb dX1_words_18 (by decide) ?_
    refine lv_aload_n hx hb dX1_words_19 rfl (lv_at hl 0 rfl) ?_
    refine mg_values S hin hK hI (ix := 23) (by decide +kernel) dX1_words_20 ?_
    refine lv_iload_n hx hb dX1_words_23 rfl (lv_at hl 1 rfl) ?_
    obtain ⟨c14, hg⟩ := ck_e hg
    obtain ⟨x15, ex15, hg⟩ := nmd_e hg
    refine mr_values S hK hI c14 ex15 dX1_words_24 ?_
    refine lv_imul hx hb dX1_words_25 ?_
    refine lv_iadd hx hb dX1_words_26 ?_
    refine lv_aload_n hx hb dX1_words_27 rfl (lv_at hl 0 rfl) ?_
    refine mg_plain S hin hK hI (ix := 26) (by decide +kernel) dX1_words_28 ?_
    refine lv_iload_n hx hb dX1_words_31 rfl (lv_at hl 1 rfl) ?_
    obtain ⟨c16, hg⟩ := ck_e hg
    obtain ⟨x17, ex17, hg⟩ := nmd_e hg
    refine mr_plain S hK hI c16 ex17 dX1_words_32 ?_
    refine lv_iadd hx hb dX1_words_33 ?_
    exact me_i S hr hlocks hK hI hg dX1_words_34
-- OwnMemoryModel.come
abbrev rX1_come : Room := { frames := 0, cells := 0, slots := 0, locals := 0 }
theorem nX1_come : yX1_come.cls = RX1 ∧ yX1_come.cls ≠ "java/lang/invoke/MethodHandle" ∧ yX1_come.cls ≠ "java/lang/invoke/VarHandle" ∧ (parseMethodDescriptor yX1_come.desc).map (fun d => d.parameters.length) = some 1 := by decide +kernel
noncomputable def fX1_come (F : Nat) (σ : mS) (p1 : Int32) : Option mS := cIf (p1 = 0) (some σ) (ck (vp_in p1 4096) (nmd (m_there σ p1.toNatClampNeg) (fun x3 => cIf (x3 = 0) (ck (vp_in p1 4096) (nmd (m_s_there σ (upd (m_there σ) p1.toNatClampNeg (vp_nar .boolean 1))) (fun σ6 => ck (vp_in (m_wait σ6) 4096) (nmd (m_s_waiting σ6 (upd (m_waiting σ6) (m_wait σ6).toNatClampNeg p1)) (fun σ8 => nmd (m_s_wait σ8 ((m_wait σ8) + 1)) (fun σ9 => some σ9)))))) (some σ))))
set_option maxHeartbeats 4000000 in
set_option maxRecDepth 100000 in
theorem kX1_come (l : Launch) (G : gT) (h0 : Nat) (h : (Nat → Nat)) (sz F : Nat) (σ : mS) (p1 : Int32) (σr : mS) (hg : fX1_come F σ p1 = some σr) : Met l yX1_come wsX1_come rX1_come (mPre G h0 h σ sz [.int p1]) (mQv G h0 h σr (mA G h0 h σ sz)) 0 0 (mA G h0 h σ sz) := by
  refine mMet (Qc := mQv G h0 h σr) (by decide +kernel) rfl rfl (Nat.le_of_ble_eq_true rfl) ?_
  intro p e s m args below meth c A S hr hlocks hK hA H locs hI ls hl
  have hl : lv_has ls 2 [(0, .ref h0), (1, .int p1)] := hl
  have hin : ∀ w ∈ wsX10, w ∈ wsX1_come := in_ws
  have hx := S.1
  have hb := S.2.1
  have hts := S.2.2.2.2
  have hown := S.2.2.2.1
  unfold fX1_come at hg
  refine lv_iload_n hx hb dX1_come_0 rfl (lv_at hl 1 rfl) ?_
  refine lv_if_eq (tgt := 13) hx hb dX1_come_1 (by decide) (fun c1 => ?_) (fun c1 => ?_)
  · have hg := cIf_te c1 hg
    exact me_v S hr hlocks hK hI hg dX1_come_13
  · have hg := cIf_fe c1 hg
    refine lv_aload_n hx hb dX1_come_4 rfl (lv_at hl 0 rfl) ?_
    refine mg_there S hin hK hI (ix := 62) (by decide +kernel) dX1_come_5 ?_
    refine lv_iload_n hx hb dX1_come_8 rfl (lv_at hl 1 rfl) ?_
    obtain ⟨c2, hg⟩ := ck_e hg
    obtain ⟨x3, ex3, hg⟩ := nmd_e hg
    refine mr_there S hK hI c2 ex3 dX1_come_9 ?_
    refine lv_if_eq (tgt := 14) hx hb dX1_come_10 (by decide) (fun c4 => ?_) (fun c4 => ?_)
    · have hg := cIf_te c4 hg
      refine lv_aload_n hx hb dX1_come_14 rfl (lv_at hl 0 rfl) ?_
      refine mg_there S hin hK hI (ix := 62) (by decide +kernel) dX1_come_15 ?_
      refine lv_iload_n hx hb dX1_come_18 rfl (lv_at hl 1 rfl) ?_
      refine lv_iconst (v := 1) hx hb dX1_come_19 (by decide) ?_
      obtain ⟨c5, hg⟩ := ck_e hg
      obtain ⟨σ6, eσ6, hg⟩ := nmd_e hg
      refine mu_there S hK hI c5 eσ6 dX1_come_20 (fun H locs hI => ?_)
      refine lv_aload_n hx hb dX1_come_21 rfl (lv_at hl 0 rfl) ?_
      refine mg_waiting S hin hK hI (ix := 66) (by decide +kernel) dX1_come_22 ?_
      refine lv_aload_n hx hb dX1_come_25 rfl (lv_at hl 0 rfl) ?_
      refine mg_wait S hin hK hI (ix := 80) (by decide +kernel) dX1_come_26 ?_
      refine lv_iload_n hx hb dX1_come_29 rfl (lv_at hl 1 rfl) ?_
      obtain ⟨c7, hg⟩ := ck_e hg
      obtain ⟨σ8, eσ8, hg⟩ := nmd_e hg
      refine mu_waiting S hK hI c7 eσ8 dX1_come_30 (fun H locs hI => ?_)
      refine lv_aload_n hx hb dX1_come_31 rfl (lv_at hl 0 rfl) ?_
      refine lv_dup hx hb dX1_come_32 rfl ?_
      refine mg_wait S hin hK hI (ix := 80) (by decide +kernel) dX1_come_33 ?_
      refine lv_iconst (v := 1) hx hb dX1_come_36 (by decide) ?_
      refine lv_iadd hx hb dX1_come_37 ?_
      obtain ⟨σ9, eσ9, hg⟩ := nmd_e hg
      refine mp_wait S hin hK hI (ix := 80) (by decide +kernel) eσ9 dX1_come_38 (fun H locs hI => ?_)
      exact me_v S hr hlocks hK hI hg dX1_come_41
    · have hg := cIf_fe c4 hg
      exact me_v S hr hlocks hK hI hg dX1_come_13
-- OwnMemoryModel.look
abbrev rX1_look : Room := { frames := 1, cells := 0, slots := 0, locals := 21 }
theorem nX1_look : yX1_look.cls = RX1 ∧ yX1_look.cls ≠ "java/lang/invoke/MethodHandle" ∧ yX1_look.cls ≠ "java/lang/invoke/VarHandle" ∧ (parseMethodDescriptor yX1_look.desc).map (fun d => d.parameters.length) = some 0 := by decide +kernel
noncomputable def LX1_look_7 (F : Nat) (K : Int32 → mS → Option mS) : Nat → Int32 → mS → Option mS
  | 0, _, _ => none
  | n + 1, v1, σ => cIf ((m_objects σ) ≤ v1) (K v1 σ) (ck (vp_in v1 4096) (nmd (m_s_there σ (upd (m_there σ) v1.toNatClampNeg (vp_nar .boolean 0))) (fun σ4 => nmd (v1 + 1) (fun x5 => LX1_look_7 F K  n x5 σ4))))
noncomputable def LX1_look_30 (F : Nat) (K : Int32 → mS → Option mS) : Nat → Int32 → mS → Option mS
  | 0, _, _ => none
  | n + 1, v1, σ => cIf (24 ≤ v1) (K v1 σ) (ck (vp_in v1 24) (nmd (m_root σ v1.toNatClampNeg) (fun x10 => bnp (fX1_come F σ x10) (fun σ11 => nmd (v1 + 1) (fun x12 => LX1_look_30 F K  n x12 σ11)))))
noncomputable def LX1_look_74 (F : Nat) (K : Int32 → mS → Option mS) (v1 : Int32) (v2 : Int32) : Nat → Int32 → mS → Option mS
  | 0, _, _ => none
  | n + 1, v3, σ => ck (vp_in v2 4096) (nmd (m_links σ v2.toNatClampNeg) (fun x20 => cIf (((8 * v2) + x20) ≤ v3) (K v3 σ) (ck (vp_in v3 32768) (nmd (m_link σ v3.toNatClampNeg) (fun x23 => bnp (fX1_come F σ x23) (fun σ24 => nmd (v3 + 1) (fun x25 => LX1_look_74 F K v1 v2 n x25 σ24)))))))
noncomputable def LX1_look_110 (F : Nat) (K : Int32 → mS → Option mS) (v1 : Int32) (v2 : Int32) : Nat → Int32 → mS → Option mS
  | 0, _, _ => none
  | n + 1, v3, σ => ck (vp_in v2 4096) (nmd (m_values σ v2.toNatClampNeg) (fun x30 => cIf (((8 * v2) + x30) ≤ v3) (K v3 σ) (ck (vp_in v3 32768) (nmd (m_refers σ v3.toNatClampNeg) (fun x33 => bnp (fX1_come F σ x33) (fun σ34 => nmd (v3 + 1) (fun x35 => LX1_look_110 F K v1 v2 n x35 σ34)))))))
noncomputable def LX1_look_54 (F : Nat) (K : Int32 → mS → Option mS) : Nat → Int32 → mS → Option mS
  | 0, _, _ => none
  | n + 1, v1, σ => cIf ((m_wait σ) ≤ v1) (K v1 σ) (ck (vp_in v1 4096) (nmd (m_waiting σ v1.toNatClampNeg) (fun x17 => nmd (8 * x17) (fun x18 => LX1_look_74 F (fun w26 σ27 => nmd (8 * x17) (fun x28 => LX1_look_110 F (fun w36 σ37 => ck (vp_in x17 4096) (nmd (m_kind σ37 x17.toNatClampNeg) (fun x39 => cIf (x39 = 3) (ck (vp_in x17 4096) (nmd (m_a σ37 x17.toNatClampNeg) (fun x64 => bnp (fX1_come F σ37 x64) (fun σ65 => ck (vp_in x17 4096) (nmd (m_kind σ65 x17.toNatClampNeg) (fun x67 => cIf (x67 = 3) (ck (vp_in x17 4096) (nmd (m_b σ65 x17.toNatClampNeg) (fun x78 => bnp (fX1_come F σ65 x78) (fun σ79 => ck (vp_in x17 4096) (nmd (m_kind σ79 x17.toNatClampNeg) (fun x81 => cIf (x81 = 4) (ck (vp_in x17 4096) (nmd (m_spread σ79 x17.toNatClampNeg) (fun x85 => bnp (fX1_come F σ79 x85) (fun σ86 => nmd (v1 + 1) (fun x87 => LX1_look_54 F K  n x87 σ86))))) (nmd (v1 + 1) (fun x83 => LX1_look_54 F K  n x83 σ79)))))))) (ck (vp_in x17 4096) (nmd (m_kind σ65 x17.toNatClampNeg) (fun x70 => cIf (x70 = 4) (ck (vp_in x17 4096) (nmd (m_spread σ65 x17.toNatClampNeg) (fun x74 => bnp (fX1_come F σ65 x74) (fun σ75 => nmd (v1 + 1) (fun x76 => LX1_look_54 F K  n x76 σ75))))) (nmd (v1 + 1) (fun x72 => LX1_look_54 F K  n x72 σ65))))))))))) (ck (vp_in x17 4096) (nmd (m_kind σ37 x17.toNatClampNeg) (fun x42 => cIf (x42 = 3) (ck (vp_in x17 4096) (nmd (m_b σ37 x17.toNatClampNeg) (fun x53 => bnp (fX1_come F σ37 x53) (fun σ54 => ck (vp_in x17 4096) (nmd (m_kind σ54 x17.toNatClampNeg) (fun x56 => cIf (x56 = 4) (ck (vp_in x17 4096) (nmd (m_spread σ54 x17.toNatClampNeg) (fun x60 => bnp (fX1_come F σ54 x60) (fun σ61 => nmd (v1 + 1) (fun x62 => LX1_look_54 F K  n x62 σ61))))) (nmd (v1 + 1) (fun x58 => LX1_look_54 F K  n x58 σ54)))))))) (ck (vp_in x17 4096) (nmd (m_kind σ37 x17.toNatClampNeg) (fun x45 => cIf (x45 = 4) (ck (vp_in x17 4096) (nmd (m_spread σ37 x17.toNatClampNeg) (fun x49 => bnp (fX1_come F σ37 x49) (fun σ50 => nmd (v1 + 1) (fun x51 => LX1_look_54 F K  n x51 σ50))))) (nmd (v1 + 1) (fun x47 => LX1_look_54 F K  n x47 σ37))))))))))) v1 x17 F x28 σ27)) v1 x17 F x18 σ))))
noncomputable def fX1_look (F : Nat) (σ : mS) : Option mS := nmd (m_s_wait σ 0) (fun σ1 => LX1_look_7 F (fun w6 σ7 => LX1_look_30 F (fun w13 σ14 => LX1_look_54 F (fun w88 σ89 => some σ89)  F 0 σ14)  F 0 σ7)  F 0 σ1)
set_option maxHeartbeats 4000000 in
set_option maxRecDepth 100000 in
theorem lX1_look_7 {p : Program} {l : Launch} {e : Env} {s : State} {m : MethodId} {args : Array Value} {below : List Frame} {meth : Method} {c : Code} {A : Nat → Prop} {G : gT} {h0 : Nat} {h : (Nat → Nat)} {F : Nat} (S : CallFix p m c cX1_look 4 s args wsX1_look RX1) (hr : meth.sig.returnType = none) (hlocks : meth.locks = false) (hin : ∀ w ∈ wsX10, w ∈ wsX1_look) (hK : gK G s) (hA : ∀ q, s.heap.size ≤ q → A q) {K : Int32 → mS → Option mS} {res : mS} (n : Nat) : ∀ (v1 : Int32) (σ : mS) (H : Heap) (locs : List Loc) (ls : Array Slot), LX1_look_7 F K n v1 σ = some res → mI s A G h0 h σ H locs → lv_has ls 4 [(0, .ref h0), (1, .int v1)] → (∀ (v1 : Int32) (σ : mS) (H : Heap) (locs : List Loc) (ls : Array Slot), K v1 σ = some res → mI s A G h0 h σ H locs → lv_has ls 4 [(0, .ref h0), (1, .int v1)] → W p l e rX1_look s m args below meth c H locs 0 0 (MQ below (mQv G h0 h res A) args s 0 0 A) (F0 m 28 ls [])) → W p l e rX1_look s m args below meth c H locs 0 0 (MQ below (mQv G h0 h res A) args s 0 0 A) (F0 m 7 ls []) := by
  have hx := S.1
  have hb := S.2.1
  have hts := S.2.2.2.2
  have hown := S.2.2.2.1
  induction n with
  | zero => intro v1 σ H locs ls hg; rw [LX1_look_7] at hg; cases hg
  | succ n ih =>
    intro v1 σ H locs ls hg hI hl kk
    rw [LX1_look_7] at hg
    refine lv_iload_n hx hb dX1_look_7 rfl (lv_at hl 1 rfl) ?_
    refine lv_aload_n hx hb dX1_look_8 rfl (lv_at hl 0 rfl) ?_
    refine mg_objects S hin hK hI (ix := 13) (by decide +kernel) dX1_look_9 ?_
    refine lv_icmp_ge (tgt := 28) hx hb dX1_look_12 (by decide) (fun c2 => ?_) (fun c2 => ?_)
    · have hg := cIf_te c2 hg
      exact kk v1 σ H locs ls hg hI (lv_sub hl [0, 1] rfl)
    · have hg := cIf_fe c2 hg
      refine lv_aload_n hx hb dX1_look_15 rfl (lv_at hl 0 rfl) ?_
      refine mg_there S hin hK hI (ix := 62) (by decide +kernel) dX1_look_16 ?_
      refine lv_iload_n hx hb dX1_look_19 rfl (lv_at hl 1 rfl) ?_
      refine lv_iconst (v := 0) hx hb dX1_look_20 (by decide) ?_
      obtain ⟨c3, hg⟩ := ck_e hg
      obtain ⟨σ4, eσ4, hg⟩ := nmd_e hg
      refine mu_there S hK hI c3 eσ4 dX1_look_21 (fun H locs hI => ?_)
      obtain ⟨x5, ex5, hg⟩ := nmd_e hg
      refine lv_iinc (v := x5) (lv' := [(1, .int x5), (0, .ref h0)]) hx hb dX1_look_22 hl (k := 1) rfl (by rw [ex5]; rfl) (by decide) rfl (fun ls hl => ?_)
      refine lv_goto (tgt := 7) hx hb dX1_look_25 (by decide) ?_
      exact ih x5 σ4 H locs ls hg hI (lv_sub hl [1, 0] rfl) kk
set_option maxHeartbeats 4000000 in
set_option maxRecDepth 100000 in
theorem lX1_look_30 {p : Program} {l : Launch} {e : Env} {s : State} {m : MethodId} {args : Array Value} {below : List Frame} {meth : Method} {c : Code} {A : Nat → Prop} {G : gT} {h0 : Nat} {h : (Nat → Nat)} {F : Nat} (S : CallFix p m c cX1_look 4 s args wsX1_look RX1) (hr : meth.sig.returnType = none) (hlocks : meth.locks = false) (hin : ∀ w ∈ wsX10, w ∈ wsX1_look) (hK : gK G s) (hA : ∀ q, s.heap.size ≤ q → A q) {K : Int32 → mS → Option mS} {res : mS} (n : Nat) : ∀ (v1 : Int32) (σ : mS) (H : Heap) (locs : List Loc) (ls : Array Slot), LX1_look_30 F K n v1 σ = some res → mI s A G h0 h σ H locs → lv_has ls 4 [(0, .ref h0), (1, .int v1)] → (∀ (v1 : Int32) (σ : mS) (H : Heap) (locs : List Loc) (ls : Array Slot), K v1 σ = some res → mI s A G h0 h σ H locs → lv_has ls 4 [(0, .ref h0), (1, .int v1)] → W p l e rX1_look s m args below meth c H locs 0 0 (MQ below (mQv G h0 h res A) args s 0 0 A) (F0 m 52 ls [])) → W p l e rX1_look s m args below meth c H locs 0 0 (MQ below (mQv G h0 h res A) args s 0 0 A) (F0 m 30 ls []) := by
  have hx := S.1
  have hb := S.2.1
  have hts := S.2.2.2.2
  have hown := S.2.2.2.1
  induction n with
  | zero => intro v1 σ H locs ls hg; rw [LX1_look_30] at hg; cases hg
  | succ n ih =>
    intro v1 σ H locs ls hg hI hl kk
    rw [LX1_look_30] at hg
    refine lv_iload_n hx hb dX1_look_30 rfl (lv_at hl 1 rfl) ?_
    refine lv_bipush (v := 24) hx hb dX1_look_31 (by decide) ?_
    refine lv_icmp_ge (tgt := 52) hx hb dX1_look_33 (by decide) (fun c8 => ?_) (fun c8 => ?_)
    · have hg := cIf_te c8 hg
      exact kk v1 σ H locs ls hg hI (lv_sub hl [0, 1] rfl)
    · have hg := cIf_fe c8 hg
      refine lv_aload_n hx hb dX1_look_36 rfl (lv_at hl 0 rfl) ?_
      refine lv_aload_n hx hb dX1_look_37 rfl (lv_at hl 0 rfl) ?_
      refine mg_root S hin hK hI (ix := 9) (by decide +kernel) dX1_look_38 ?_
      refine lv_iload_n hx hb dX1_look_41 rfl (lv_at hl 1 rfl) ?_
      obtain ⟨c9, hg⟩ := ck_e hg
      obtain ⟨x10, ex10, hg⟩ := nmd_e hg
      refine mr_root S hK hI c9 ex10 dX1_look_42 ?_
      obtain ⟨σ11, eσ11, hg⟩ := bnp_e hg
      refine mc_v S hK hA hI (As := [.int x10]) (rest := []) (kX1_come l G h0 h H.size F σ x10  σ11 eσ11) (cwV 1 hts gX1_look_X1_come rfl rfl rfl nX1_come ⟨Nat.le_of_ble_eq_true rfl, Nat.le_of_ble_eq_true rfl⟩) rfl hl.1 rfl (Nat.le_of_ble_eq_true rfl) dX1_look_43 ⟨Nat.le_refl _, Nat.le_refl _⟩ (fun H locs hI => ?_)
      obtain ⟨x12, ex12, hg⟩ := nmd_e hg
      refine lv_iinc (v := x12) (lv' := [(1, .int x12), (0, .ref h0)]) hx hb dX1_look_46 hl (k := 1) rfl (by rw [ex12]; rfl) (by decide) rfl (fun ls hl => ?_)
      refine lv_goto (tgt := 30) hx hb dX1_look_49 (by decide) ?_
      exact ih x12 σ11 H locs ls hg hI (lv_sub hl [1, 0] rfl) kk
set_option maxHeartbeats 4000000 in
set_option maxRecDepth 100000 in
theorem lX1_look_74 {p : Program} {l : Launch} {e : Env} {s : State} {m : MethodId} {args : Array Value} {below : List Frame} {meth : Method} {c : Code} {A : Nat → Prop} {G : gT} {h0 : Nat} {h : (Nat → Nat)} {F : Nat} (S : CallFix p m c cX1_look 4 s args wsX1_look RX1) (hr : meth.sig.returnType = none) (hlocks : meth.locks = false) (hin : ∀ w ∈ wsX10, w ∈ wsX1_look) (hK : gK G s) (hA : ∀ q, s.heap.size ≤ q → A q) {K : Int32 → mS → Option mS} {res : mS} (v1 : Int32) (v2 : Int32) (n : Nat) : ∀ (v3 : Int32) (σ : mS) (H : Heap) (locs : List Loc) (ls : Array Slot), LX1_look_74 F K v1 v2 n v3 σ = some res → mI s A G h0 h σ H locs → lv_has ls 4 [(0, .ref h0), (1, .int v1), (2, .int v2), (3, .int v3)] → (∀ (v3 : Int32) (σ : mS) (H : Heap) (locs : List Loc) (ls : Array Slot), K v3 σ = some res → mI s A G h0 h σ H locs → lv_has ls 4 [(0, .ref h0), (1, .int v1), (2, .int v2), (3, .int v3)] → W p l e rX1_look s m args below meth c H locs 0 0 (MQ below (mQv G h0 h res A) args s 0 0 A) (F0 m 105 ls [])) → W p l e rX1_look s m args below meth c H locs 0 0 (MQ below (mQv G h0 h res A) args s 0 0 A) (F0 m 74 ls []) := by
  have hx := S.1
  have hb := S.2.1
  have hts := S.2.2.2.2
  have hown := S.2.2.2.1
  induction n with
  | zero => intro v3 σ H locs ls hg; rw [LX1_look_74] at hg; cases hg
  | succ n ih =>
    intro v3 σ H locs ls hg hI hl kk
    rw [LX1_look_74] at hg
    refine lv_iload_n hx hb dX1_look_74 rfl (lv_at hl 3 rfl) ?_
    refine lv_bipush (v := 8) hx hb dX1_look_75 (by decide) ?_
    refine lv_iload_n hx hb dX1_look_77 rfl (lv_at hl 2 rfl) ?_
    refine lv_imul hx hb dX1_look_78 ?_
    refine lv_aload_n hx hb dX1_look_79 rfl (lv_at hl 0 rfl) ?_
    refine mg_links S hin hK hI (ix := 20) (by decide +kernel) dX1_look_80 ?_
    refine lv_iload_n hx hb dX1_look_83 rfl (lv_at hl 2 rfl) ?_
    obtain ⟨c19, hg⟩ := ck_e hg
    obtain ⟨x20, ex20, hg⟩ := nmd_e hg
    refine mr_links S hK hI c19 ex20 dX1_look_84 ?_
    refine lv_iadd hx hb dX1_look_85 ?_
    refine lv_icmp_ge (tgt := 105) hx hb dX1_look_86 (by decide) (fun c21 => ?_) (fun c21 => ?_)
    · have hg := cIf_te c21 hg
      exact kk v3 σ H locs ls hg hI (lv_sub hl [0, 1, 2, 3] rfl)
    · have hg := cIf_fe c21 hg
      refine lv_aload_n hx hb dX1_look_89 rfl (lv_at hl 0 rfl) ?_
      refine lv_aload_n hx hb dX1_look_90 rfl (lv_at hl 0 rfl) ?_
      refine mg_link S hin hK hI (ix := 30) (by decide +kernel) dX1_look_91 ?_
      refine lv_iload_n hx hb dX1_look_94 rfl (lv_at hl 3 rfl) ?_
      obtain ⟨c22, hg⟩ := ck_e hg
      obtain ⟨x23, ex23, hg⟩ := nmd_e hg
      refine mr_link S hK hI c22 ex23 dX1_look_95 ?_
      obtain ⟨σ24, eσ24, hg⟩ := bnp_e hg
      refine mc_v S hK hA hI (As := [.int x23]) (rest := []) (kX1_come l G h0 h H.size F σ x23  σ24 eσ24) (cwV 1 hts gX1_look_X1_come rfl rfl rfl nX1_come ⟨Nat.le_of_ble_eq_true rfl, Nat.le_of_ble_eq_true rfl⟩) rfl hl.1 rfl (Nat.le_of_ble_eq_true rfl) dX1_look_96 ⟨Nat.le_refl _, Nat.le_refl _⟩ (fun H locs hI => ?_)
      obtain ⟨x25, ex25, hg⟩ := nmd_e hg
      refine lv_iinc (v := x25) (lv' := [(3, .int x25), (0, .ref h0), (1, .int v1), (2, .int v2)]) hx hb dX1_look_99 hl (k := 3) rfl (by rw [ex25]; rfl) (by decide) rfl (fun ls hl => ?_)
      refine lv_goto (tgt := 74) hx hb dX1_look_102 (by decide) ?_
      exact ih x25 σ24 H locs ls hg hI (lv_sub hl [1, 2, 3, 0] rfl) kk
set_option maxHeartbeats 4000000 in
set_option maxRecDepth 100000 in
theorem lX1_look_110 {p : Program} {l : Launch} {e : Env} {s : State} {m : MethodId} {args : Array Value} {below : List Frame} {meth : Method} {c : Code} {A : Nat → Prop} {G : gT} {h0 : Nat} {h : (Nat → Nat)} {F : Nat} (S : CallFix p m c cX1_look 4 s args wsX1_look RX1) (hr : meth.sig.returnType = none) (hlocks : meth.locks = false) (hin : ∀ w ∈ wsX10, w ∈ wsX1_look) (hK : gK G s) (hA : ∀ q, s.heap.size ≤ q → A q) {K : Int32 → mS → Option mS} {res : mS} (v1 : Int32) (v2 : Int32) (n : Nat) : ∀ (v3 : Int32) (σ : mS) (H : Heap) (locs : List Loc) (ls : Array Slot), LX1_look_110 F K v1 v2 n v3 σ = some res → mI s A G h0 h σ H locs → lv_has ls 4 [(0, .ref h0), (1, .int v1), (2, .int v2), (3, .int v3)] → (∀ (v3 : Int32) (σ : mS) (H : Heap) (locs : List Loc) (ls : Array Slot), K v3 σ = some res → mI s A G h0 h σ H locs → lv_has ls 4 [(0, .ref h0), (1, .int v1), (2, .int v2), (3, .int v3)] → W p l e rX1_look s m args below meth c H locs 0 0 (MQ below (mQv G h0 h res A) args s 0 0 A) (F0 m 141 ls [])) → W p l e rX1_look s m args below meth c H locs 0 0 (MQ below (mQv G h0 h res A) args s 0 0 A) (F0 m 110 ls []) := by
  have hx := S.1
  have hb := S.2.1
  have hts := S.2.2.2.2
  have hown := S.2.2.2.1
  induction n with
  | zero => intro v3 σ H locs ls hg; rw [LX1_look_110] at hg; cases hg
  | succ n ih =>
    intro v3 σ H locs ls hg hI hl kk
    rw [LX1_look_110] at hg
    refine lv_iload_n hx hb dX1_look_110 rfl (lv_at hl 3 rfl) ?_
    refine lv_bipush (v := 8) hx hb dX1_look_111 (by decide) ?_
    refine lv_iload_n hx hb dX1_look_113 rfl (lv_at hl 2 rfl) ?_
    refine lv_imul hx hb dX1_look_114 ?_
    refine lv_aload_n hx hb dX1_look_115 rfl (lv_at hl 0 rfl) ?_
    refine mg_values S hin hK hI (ix := 23) (by decide +kernel) dX1_look_116 ?_
    refine lv_iload_n hx hb dX1_look_119 rfl (lv_at hl 2 rfl) ?_
    obtain ⟨c29, hg⟩ := ck_e hg
    obtain ⟨x30, ex30, hg⟩ := nmd_e hg
    refine mr_values S hK hI c29 ex30 dX1_look_120 ?_
    refine lv_iadd hx hb dX1_look_121 ?_
    refine lv_icmp_ge (tgt := 141) hx hb dX1_look_122 (by decide) (fun c31 => ?_) (fun c31 => ?_)
    · have hg := cIf_te c31 hg
      exact kk v3 σ H locs ls hg hI (lv_sub hl [0, 1, 2, 3] rfl)
    · have hg := cIf_fe c31 hg
      refine lv_aload_n hx hb dX1_look_125 rfl (lv_at hl 0 rfl) ?_
      refine lv_aload_n hx hb dX1_look_126 rfl (lv_at hl 0 rfl) ?_
      refine mg_refers S hin hK hI (ix := 37) (by decide +kernel) dX1_look_127 ?_
      refine lv_iload_n hx hb dX1_look_130 rfl (lv_at hl 3 rfl) ?_
      obtain ⟨c32, hg⟩ := ck_e hg
      obtain ⟨x33, ex33, hg⟩ := nmd_e hg
      refine mr_refers S hK hI c32 ex33 dX1_look_131 ?_
      obtain ⟨σ34, eσ34, hg⟩ := bnp_e hg
      refine mc_v S hK hA hI (As := [.int x33]) (rest := []) (kX1_come l G h0 h H.size F σ x33  σ34 eσ34) (cwV 1 hts gX1_look_X1_come rfl rfl rfl nX1_come ⟨Nat.le_of_ble_eq_true rfl, Nat.le_of_ble_eq_true rfl⟩) rfl hl.1 rfl (Nat.le_of_ble_eq_true rfl) dX1_look_132 ⟨Nat.le_refl _, Nat.le_refl _⟩ (fun H locs hI => ?_)
      obtain ⟨x35, ex35, hg⟩ := nmd_e hg
      refine lv_iinc (v := x35) (lv' := [(3, .int x35), (0, .ref h0), (1, .int v1), (2, .int v2)]) hx hb dX1_look_135 hl (k := 3) rfl (by rw [ex35]; rfl) (by decide) rfl (fun ls hl => ?_)
      refine lv_goto (tgt := 110) hx hb dX1_look_138 (by decide) ?_
      exact ih x35 σ34 H locs ls hg hI (lv_sub hl [1, 2, 3, 0] rfl) kk
set_option maxHeartbeats 4000000 in
set_option maxRecDepth 100000 in
theorem lX1_look_54 {p : Program} {l : Launch} {e : Env} {s : State} {m : MethodId} {args : Array Value} {below : List Frame} {meth : Method} {c : Code} {A : Nat → Prop} {G : gT} {h0 : Nat} {h : (Nat → Nat)} {F : Nat} (S : CallFix p m c cX1_look 4 s args wsX1_look RX1) (hr : meth.sig.returnType = none) (hlocks : meth.locks = false) (hin : ∀ w ∈ wsX10, w ∈ wsX1_look) (hK : gK G s) (hA : ∀ q, s.heap.size ≤ q → A q) {K : Int32 → mS → Option mS} {res : mS} (n : Nat) : ∀ (v1 : Int32) (σ : mS) (H : Heap) (locs : List Loc) (ls : Array Slot), LX1_look_54 F K n v1 σ = some res → mI s A G h0 h σ H locs → lv_has ls 4 [(0, .ref h0), (1, .int v1)] → (∀ (v1 : Int32) (σ : mS) (H : Heap) (locs : List Loc) (ls : Array Slot), K v1 σ = some res → mI s A G h0 h σ H locs → lv_has ls 4 [(0, .ref h0), (1, .int v1)] → W p l e rX1_look s m args below meth c H locs 0 0 (MQ below (mQv G h0 h res A) args s 0 0 A) (F0 m 207 ls [])) → W p l e rX1_look s m args below meth c H locs 0 0 (MQ below (mQv G h0 h res A) args s 0 0 A) (F0 m 54 ls []) := by
  have hx := S.1
  have hb := S.2.1
  have hts := S.2.2.2.2
  have hown := S.2.2.2.1
  induction n with
  | zero => intro v1 σ H locs ls hg; rw [LX1_look_54] at hg; cases hg
  | succ n ih =>
    intro v1 σ H locs ls hg hI hl kk
    rw [LX1_look_54] at hg
    refine lv_iload_n hx hb dX1_look_54 rfl (lv_at hl 1 rfl) ?_
    refine lv_aload_n hx hb dX1_look_55 rfl (lv_at hl 0 rfl) ?_
    refine mg_wait S hin hK hI (ix := 80) (by decide +kernel) dX1_look_56 ?_
    refine lv_icmp_ge (tgt := 207) hx hb dX1_look_59 (by decide) (fun c15 => ?_) (fun c15 => ?_)
    · have hg := cIf_te c15 hg
      exact kk v1 σ H locs ls hg hI (lv_sub hl [0, 1] rfl)
    · have hg := cIf_fe c15 hg
      refine lv_aload_n hx hb dX1_look_62 rfl (lv_at hl 0 rfl) ?_
      refine mg_waiting S hin hK hI (ix := 66) (by decide +kernel) dX1_look_63 ?_
      refine lv_iload_n hx hb dX1_look_66 rfl (lv_at hl 1 rfl) ?_
      obtain ⟨c16, hg⟩ := ck_e hg
      obtain ⟨x17, ex17, hg⟩ := nmd_e hg
      refine mr_waiting S hK hI c16 ex17 dX1_look_67 ?_
      refine lv_istore_n (lv' := [(2, .int x17), (0, .ref h0), (1, .int v1)]) hx hb dX1_look_68 rfl hl (by decide) rfl (fun ls hl => ?_)
      refine lv_bipush (v := 8) hx hb dX1_look_69 (by decide) ?_
      refine lv_iload_n hx hb dX1_look_71 rfl (lv_at hl 0 rfl) ?_
      refine lv_imul hx hb dX1_look_72 ?_
      obtain ⟨x18, ex18, hg⟩ := nmd_e hg
      refine wn_i ex18 ?_
      refine lv_istore_n (lv' := [(3, .int x18), (2, .int x17), (0, .ref h0), (1, .int v1)]) hx hb dX1_look_73 rfl hl (by decide) rfl (fun ls hl => ?_)
      refine lX1_look_74 S hr hlocks hin hK hA v1 x17 F x18 σ H locs ls hg hI (lv_sub hl [2, 3, 1, 0] rfl) (fun w26 σ27 H locs ls hg hI hl => ?_)
      refine lv_bipush (v := 8) hx hb dX1_look_105 (by decide) ?_
      refine lv_iload_n hx hb dX1_look_107 rfl (lv_at hl 2 rfl) ?_
      refine lv_imul hx hb dX1_look_108 ?_
      obtain ⟨x28, ex28, hg⟩ := nmd_e hg
      refine wn_i ex28 ?_
      refine lv_istore_n (lv' := [(3, .int x28), (0, .ref h0), (1, .int v1), (2, .int x17)]) hx hb dX1_look_109 rfl hl (by decide) rfl (fun ls hl => ?_)
      refine lX1_look_110 S hr hlocks hin hK hA v1 x17 F x28 σ27 H locs ls hg hI (lv_sub hl [1, 2, 3, 0] rfl) (fun w36 σ37 H locs ls hg hI hl => ?_)
      refine lv_aload_n hx hb dX1_look_141 rfl (lv_at hl 0 rfl) ?_
      refine mg_kind S hin hK hI (ix := 17) (by decide +kernel) dX1_look_142 ?_
      refine lv_iload_n hx hb dX1_look_145 rfl (lv_at hl 2 rfl) ?_
      obtain ⟨c38, hg⟩ := ck_e hg
      obtain ⟨x39, ex39, hg⟩ := nmd_e hg
      refine mr_kind S hK hI c38 ex39 dX1_look_146 ?_
      refine lv_iconst (v := 3) hx hb dX1_look_147 (by decide) ?_
      refine lv_icmp_ne (tgt := 161) hx hb dX1_look_148 (by decide) (fun c40 => ?_) (fun c40 => ?_)
      · have hg := cIf_fe c40 hg
        refine lv_aload_n hx hb dX1_look_161 rfl (lv_at hl 0 rfl) ?_
        refine mg_kind S hin hK hI (ix := 17) (by decide +kernel) dX1_look_162 ?_
        refine lv_iload_n hx hb dX1_look_165 rfl (lv_at hl 2 rfl) ?_
        obtain ⟨c41, hg⟩ := ck_e hg
        obtain ⟨x42, ex42, hg⟩ := nmd_e hg
        refine mr_kind S hK hI c41 ex42 dX1_look_166 ?_
        refine lv_iconst (v := 3) hx hb dX1_look_167 (by decide) ?_
        refine lv_icmp_ne (tgt := 181) hx hb dX1_look_168 (by decide) (fun c43 => ?_) (fun c43 => ?_)
        · have hg := cIf_fe c43 hg
          refine lv_aload_n hx hb dX1_look_181 rfl (lv_at hl 0 rfl) ?_
          refine mg_kind S hin hK hI (ix := 17) (by decide +kernel) dX1_look_182 ?_
          refine lv_iload_n hx hb dX1_look_185 rfl (lv_at hl 2 rfl) ?_
          obtain ⟨c44, hg⟩ := ck_e hg
          obtain ⟨x45, ex45, hg⟩ := nmd_e hg
          refine mr_kind S hK hI c44 ex45 dX1_look_186 ?_
          refine lv_iconst (v := 4) hx hb dX1_look_187 (by decide) ?_
          refine lv_icmp_ne (tgt := 201) hx hb dX1_look_188 (by decide) (fun c46 => ?_) (fun c46 => ?_)
          · have hg := cIf_fe c46 hg
            obtain ⟨x47, ex47, hg⟩ := nmd_e hg
            refine lv_iinc (v := x47) (lv' := [(1, .int x47), (0, .ref h0), (2, .int x17), (3, .int w36)]) hx hb dX1_look_201 hl (k := 1) rfl (by rw [ex47]; rfl) (by decide) rfl (fun ls hl => ?_)
            refine lv_goto (tgt := 54) hx hb dX1_look_204 (by decide) ?_
            exact ih x47 σ37 H locs ls hg hI (lv_sub hl [1, 0] rfl) kk
          · have hg := cIf_te c46 hg
            refine lv_aload_n hx hb dX1_look_191 rfl (lv_at hl 0 rfl) ?_
            refine lv_aload_n hx hb dX1_look_192 rfl (lv_at hl 0 rfl) ?_
            refine mg_spread S hin hK hI (ix := 59) (by decide +kernel) dX1_look_193 ?_
            refine lv_iload_n hx hb dX1_look_196 rfl (lv_at hl 2 rfl) ?_
            obtain ⟨c48, hg⟩ := ck_e hg
            obtain ⟨x49, ex49, hg⟩ := nmd_e hg
            refine mr_spread S hK hI c48 ex49 dX1_look_197 ?_
            obtain ⟨σ50, eσ50, hg⟩ := bnp_e hg
            refine mc_v S hK hA hI (As := [.int x49]) (rest := []) (kX1_come l G h0 h H.size F σ37 x49  σ50 eσ50) (cwV 1 hts gX1_look_X1_come rfl rfl rfl nX1_come ⟨Nat.le_of_ble_eq_true rfl, Nat.le_of_ble_eq_true rfl⟩) rfl hl.1 rfl (Nat.le_of_ble_eq_true rfl) dX1_look_198 ⟨Nat.le_refl _, Nat.le_refl _⟩ (fun H locs hI => ?_)
            obtain ⟨x51, ex51, hg⟩ := nmd_e hg
            refine lv_iinc (v := x51) (lv' := [(1, .int x51), (0, .ref h0), (2, .int x17), (3, .int w36)]) hx hb dX1_look_201 hl (k := 1) rfl (by rw [ex51]; rfl) (by decide) rfl (fun ls hl => ?_)
            refine lv_goto (tgt := 54) hx hb dX1_look_204 (by decide) ?_
            exact ih x51 σ50 H locs ls hg hI (lv_sub hl [1, 0] rfl) kk
        · have hg := cIf_te c43 hg
          refine lv_aload_n hx hb dX1_look_171 rfl (lv_at hl 0 rfl) ?_
          refine lv_aload_n hx hb dX1_look_172 rfl (lv_at hl 0 rfl) ?_
          refine mg_b S hin hK hI (ix := 53) (by decide +kernel) dX1_look_173 ?_
          refine lv_iload_n hx hb dX1_look_176 rfl (lv_at hl 2 rfl) ?_
          obtain ⟨c52, hg⟩ := ck_e hg
          obtain ⟨x53, ex53, hg⟩ := nmd_e hg
          refine mr_b S hK hI c52 ex53 dX1_look_177 ?_
          obtain ⟨σ54, eσ54, hg⟩ := bnp_e hg
          refine mc_v S hK hA hI (As := [.int x53]) (rest := []) (kX1_come l G h0 h H.size F σ37 x53  σ54 eσ54) (cwV 1 hts gX1_look_X1_come rfl rfl rfl nX1_come ⟨Nat.le_of_ble_eq_true rfl, Nat.le_of_ble_eq_true rfl⟩) rfl hl.1 rfl (Nat.le_of_ble_eq_true rfl) dX1_look_178 ⟨Nat.le_refl _, Nat.le_refl _⟩ (fun H locs hI => ?_)
          refine lv_aload_n hx hb dX1_look_181 rfl (lv_at hl 0 rfl) ?_
          refine mg_kind S hin hK hI (ix := 17) (by decide +kernel) dX1_look_182 ?_
          refine lv_iload_n hx hb dX1_look_185 rfl (lv_at hl 2 rfl) ?_
          obtain ⟨c55, hg⟩ := ck_e hg
          obtain ⟨x56, ex56, hg⟩ := nmd_e hg
          refine mr_kind S hK hI c55 ex56 dX1_look_186 ?_
          refine lv_iconst (v := 4) hx hb dX1_look_187 (by decide) ?_
          refine lv_icmp_ne (tgt := 201) hx hb dX1_look_188 (by decide) (fun c57 => ?_) (fun c57 => ?_)
          · have hg := cIf_fe c57 hg
            obtain ⟨x58, ex58, hg⟩ := nmd_e hg
            refine lv_iinc (v := x58) (lv' := [(1, .int x58), (0, .ref h0), (2, .int x17), (3, .int w36)]) hx hb dX1_look_201 hl (k := 1) rfl (by rw [ex58]; rfl) (by decide) rfl (fun ls hl => ?_)
            refine lv_goto (tgt := 54) hx hb dX1_look_204 (by decide) ?_
            exact ih x58 σ54 H locs ls hg hI (lv_sub hl [1, 0] rfl) kk
          · have hg := cIf_te c57 hg
            refine lv_aload_n hx hb dX1_look_191 rfl (lv_at hl 0 rfl) ?_
            refine lv_aload_n hx hb dX1_look_192 rfl (lv_at hl 0 rfl) ?_
            refine mg_spread S hin hK hI (ix := 59) (by decide +kernel) dX1_look_193 ?_
            refine lv_iload_n hx hb dX1_look_196 rfl (lv_at hl 2 rfl) ?_
            obtain ⟨c59, hg⟩ := ck_e hg
            obtain ⟨x60, ex60, hg⟩ := nmd_e hg
            refine mr_spread S hK hI c59 ex60 dX1_look_197 ?_
            obtain ⟨σ61, eσ61, hg⟩ := bnp_e hg
            refine mc_v S hK hA hI (As := [.int x60]) (rest := []) (kX1_come l G h0 h H.size F σ54 x60  σ61 eσ61) (cwV 1 hts gX1_look_X1_come rfl rfl rfl nX1_come ⟨Nat.le_of_ble_eq_true rfl, Nat.le_of_ble_eq_true rfl⟩) rfl hl.1 rfl (Nat.le_of_ble_eq_true rfl) dX1_look_198 ⟨Nat.le_refl _, Nat.le_refl _⟩ (fun H locs hI => ?_)
            obtain ⟨x62, ex62, hg⟩ := nmd_e hg
            refine lv_iinc (v := x62) (lv' := [(1, .int x62), (0, .ref h0), (2, .int x17), (3, .int w36)]) hx hb dX1_look_201 hl (k := 1) rfl (by rw [ex62]; rfl) (by decide) rfl (fun ls hl => ?_)
            refine lv_goto (tgt := 54) hx hb dX1_look_204 (by decide) ?_
            exact ih x62 σ61 H locs ls hg hI (lv_sub hl [1, 0] rfl) kk
      · have hg := cIf_te c40 hg
        refine lv_aload_n hx hb dX1_look_151 rfl (lv_at hl 0 rfl) ?_
        refine lv_aload_n hx hb dX1_look_152 rfl (lv_at hl 0 rfl) ?_
        refine mg_a S hin hK hI (ix := 50) (by decide +kernel) dX1_look_153 ?_
        refine lv_iload_n hx hb dX1_look_156 rfl (lv_at hl 2 rfl) ?_
        obtain ⟨c63, hg⟩ := ck_e hg
        obtain ⟨x64, ex64, hg⟩ := nmd_e hg
        refine mr_a S hK hI c63 ex64 dX1_look_157 ?_
        obtain ⟨σ65, eσ65, hg⟩ := bnp_e hg
        refine mc_v S hK hA hI (As := [.int x64]) (rest := []) (kX1_come l G h0 h H.size F σ37 x64  σ65 eσ65) (cwV 1 hts gX1_look_X1_come rfl rfl rfl nX1_come ⟨Nat.le_of_ble_eq_true rfl, Nat.le_of_ble_eq_true rfl⟩) rfl hl.1 rfl (Nat.le_of_ble_eq_true rfl) dX1_look_158 ⟨Nat.le_refl _, Nat.le_refl _⟩ (fun H locs hI => ?_)
        refine lv_aload_n hx hb dX1_look_161 rfl (lv_at hl 0 rfl) ?_
        refine mg_kind S hin hK hI (ix := 17) (by decide +kernel) dX1_look_162 ?_
        refine lv_iload_n hx hb dX1_look_165 rfl (lv_at hl 2 rfl) ?_
        obtain ⟨c66, hg⟩ := ck_e hg
        obtain ⟨x67, ex67, hg⟩ := nmd_e hg
        refine mr_kind S hK hI c66 ex67 dX1_look_166 ?_
        refine lv_iconst (v := 3) hx hb dX1_look_167 (by decide) ?_
        refine lv_icmp_ne (tgt := 181) hx hb dX1_look_168 (by decide) (fun c68 => ?_) (fun c68 => ?_)
        · have hg := cIf_fe c68 hg
          refine lv_aload_n hx hb dX1_look_181 rfl (lv_at hl 0 rfl) ?_
          refine mg_kind S hin hK hI (ix := 17) (by decide +kernel) dX1_look_182 ?_
          refine lv_iload_n hx hb dX1_look_185 rfl (lv_at hl 2 rfl) ?_
          obtain ⟨c69, hg⟩ := ck_e hg
          obtain ⟨x70, ex70, hg⟩ := nmd_e hg
          refine mr_kind S hK hI c69 ex70 dX1_look_186 ?_
          refine lv_iconst (v := 4) hx hb dX1_look_187 (by decide) ?_
          refine lv_icmp_ne (tgt := 201) hx hb dX1_look_188 (by decide) (fun c71 => ?_) (fun c71 => ?_)
          · have hg := cIf_fe c71 hg
            obtain ⟨x72, ex72, hg⟩ := nmd_e hg
            refine lv_iinc (v := x72) (lv' := [(1, .int x72), (0, .ref h0), (2, .int x17), (3, .int w36)]) hx hb dX1_look_201 hl (k := 1) rfl (by rw [ex72]; rfl) (by decide) rfl (fun ls hl => ?_)
            refine lv_goto (tgt := 54) hx hb dX1_look_204 (by decide) ?_
            exact ih x72 σ65 H locs ls hg hI (lv_sub hl [1, 0] rfl) kk
          · have hg := cIf_te c71 hg
            refine lv_aload_n hx hb dX1_look_191 rfl (lv_at hl 0 rfl) ?_
            refine lv_aload_n hx hb dX1_look_192 rfl (lv_at hl 0 rfl) ?_
            refine mg_spread S hin hK hI (ix := 59) (by decide +kernel) dX1_look_193 ?_
            refine lv_iload_n hx hb dX1_look_196 rfl (lv_at hl 2 rfl) ?_
            obtain ⟨c73, hg⟩ := ck_e hg
            obtain ⟨x74, ex74, hg⟩ := nmd_e hg
            refine mr_spread S hK hI c73 ex74 dX1_look_197 ?_
            obtain ⟨σ75, eσ75, hg⟩ := bnp_e hg
            refine mc_v S hK hA hI (As := [.int x74]) (rest := []) (kX1_come l G h0 h H.size F σ65 x74  σ75 eσ75) (cwV 1 hts gX1_look_X1_come rfl rfl rfl nX1_come ⟨Nat.le_of_ble_eq_true rfl, Nat.le_of_ble_eq_true rfl⟩) rfl hl.1 rfl (Nat.le_of_ble_eq_true rfl) dX1_look_198 ⟨Nat.le_refl _, Nat.le_refl _⟩ (fun H locs hI => ?_)
            obtain ⟨x76, ex76, hg⟩ := nmd_e hg
            refine lv_iinc (v := x76) (lv' := [(1, .int x76), (0, .ref h0), (2, .int x17), (3, .int w36)]) hx hb dX1_look_201 hl (k := 1) rfl (by rw [ex76]; rfl) (by decide) rfl (fun ls hl => ?_)
            refine lv_goto (tgt := 54) hx hb dX1_look_204 (by decide) ?_
            exact ih x76 σ75 H locs ls hg hI (lv_sub hl [1, 0] rfl) kk
        · have hg := cIf_te c68 hg
          refine lv_aload_n hx hb dX1_look_171 rfl (lv_at hl 0 rfl) ?_
          refine lv_aload_n hx hb dX1_look_172 rfl (lv_at hl 0 rfl) ?_
          refine mg_b S hin hK hI (ix := 53) (by decide +kernel) dX1_look_173 ?_
          refine lv_iload_n hx hb dX1_look_176 rfl (lv_at hl 2 rfl) ?_
          obtain ⟨c77, hg⟩ := ck_e hg
          obtain ⟨x78, ex78, hg⟩ := nmd_e hg
          refine mr_b S hK hI c77 ex78 dX1_look_177 ?_
          obtain ⟨σ79, eσ79, hg⟩ := bnp_e hg
          refine mc_v S hK hA hI (As := [.int x78]) (rest := []) (kX1_come l G h0 h H.size F σ65 x78  σ79 eσ79) (cwV 1 hts gX1_look_X1_come rfl rfl rfl nX1_come ⟨Nat.le_of_ble_eq_true rfl, Nat.le_of_ble_eq_true rfl⟩) rfl hl.1 rfl (Nat.le_of_ble_eq_true rfl) dX1_look_178 ⟨Nat.le_refl _, Nat.le_refl _⟩ (fun H locs hI => ?_)
          refine lv_aload_n hx hb dX1_look_181 rfl (lv_at hl 0 rfl) ?_
          refine mg_kind S hin hK hI (ix := 17) (by decide +kernel) dX1_look_182 ?_
          refine lv_iload_n hx hb dX1_look_185 rfl (lv_at hl 2 rfl) ?_
          obtain ⟨c80, hg⟩ := ck_e hg
          obtain ⟨x81, ex81, hg⟩ := nmd_e hg
          refine mr_kind S hK hI c80 ex81 dX1_look_186 ?_
          refine lv_iconst (v := 4) hx hb dX1_look_187 (by decide) ?_
          refine lv_icmp_ne (tgt := 201) hx hb dX1_look_188 (by decide) (fun c82 => ?_) (fun c82 => ?_)
          · have hg := cIf_fe c82 hg
            obtain ⟨x83, ex83, hg⟩ := nmd_e hg
            refine lv_iinc (v := x83) (lv' := [(1, .int x83), (0, .ref h0), (2, .int x17), (3, .int w36)]) hx hb dX1_look_201 hl (k := 1) rfl (by rw [ex83]; rfl) (by decide) rfl (fun ls hl => ?_)
            refine lv_goto (tgt := 54) hx hb dX1_look_204 (by decide) ?_
            exact ih x83 σ79 H locs ls hg hI (lv_sub hl [1, 0] rfl) kk
          · have hg := cIf_te c82 hg
            refine lv_aload_n hx hb dX1_look_191 rfl (lv_at hl 0 rfl) ?_
            refine lv_aload_n hx hb dX1_look_192 rfl (lv_at hl 0 rfl) ?_
            refine mg_spread S hin hK hI (ix := 59) (by decide +kernel) dX1_look_193 ?_
            refine lv_iload_n hx hb dX1_look_196 rfl (lv_at hl 2 rfl) ?_
            obtain ⟨c84, hg⟩ := ck_e hg
            obtain ⟨x85, ex85, hg⟩ := nmd_e hg
            refine mr_spread S hK hI c84 ex85 dX1_look_197 ?_
            obtain ⟨σ86, eσ86, hg⟩ := bnp_e hg
            refine mc_v S hK hA hI (As := [.int x85]) (rest := []) (kX1_come l G h0 h H.size F σ79 x85  σ86 eσ86) (cwV 1 hts gX1_look_X1_come rfl rfl rfl nX1_come ⟨Nat.le_of_ble_eq_true rfl, Nat.le_of_ble_eq_true rfl⟩) rfl hl.1 rfl (Nat.le_of_ble_eq_true rfl) dX1_look_198 ⟨Nat.le_refl _, Nat.le_refl _⟩ (fun H locs hI => ?_)
            obtain ⟨x87, ex87, hg⟩ := nmd_e hg
            refine lv_iinc (v := x87) (lv' := [(1, .int x87), (0, .ref h0), (2, .int x17), (3, .int w36)]) hx hb dX1_look_201 hl (k := 1) rfl (by rw [ex87]; rfl) (by decide) rfl (fun ls hl => ?_)
            refine lv_goto (tgt := 54) hx hb dX1_look_204 (by decide) ?_
            exact ih x87 σ86 H locs ls hg hI (lv_sub hl [1, 0] rfl) kk
set_option maxHeartbeats 4000000 in
set_option maxRecDepth 100000 in
theorem kX1_look (l : Launch) (G : gT) (h0 : Nat) (h : (Nat → Nat)) (sz F : Nat) (σ : mS) (σr : mS) (hg : fX1_look F σ = some σr) : Met l yX1_look wsX1_look rX1_look (mPre G h0 h σ sz []) (mQv G h0 h σr (mA G h0 h σ sz)) 0 0 (mA G h0 h σ sz) := by
  refine mMet (Qc := mQv G h0 h σr) (by decide +kernel) rfl rfl (Nat.le_of_ble_eq_true rfl) ?_
  intro p e s m args below meth c A S hr hlocks hK hA H locs hI ls hl
  have hl : lv_has ls 4 [(0, .ref h0)] := hl
  have hin : ∀ w ∈ wsX10, w ∈ wsX1_look := in_ws
  have hx := S.1
  have hb := S.2.1
  have hts := S.2.2.2.2
  have hown := S.2.2.2.1
  unfold fX1_look at hg
  refine lv_aload_n hx hb dX1_look_0 rfl (lv_at hl 0 rfl) ?_
  refine lv_iconst (v := 0) hx hb dX1_look_1 (by decide) ?_
  obtain ⟨σ1, eσ1, hg⟩ := nmd_e hg
  refine mp_wait S hin hK hI (ix := 80) (by decide +kernel) eσ1 dX1_look_2 (fun H locs hI => ?_)
  refine lv_iconst (v := 0) hx hb dX1_look_5 (by decide) ?_
  refine lv_istore_n (lv' := [(1, .int 0), (0, .ref h0)]) hx hb dX1_look_6 rfl hl (by decide) rfl (fun ls hl => ?_)
  refine lX1_look_7 S hr hlocks hin hK hA  F 0 σ1 H locs ls hg hI (lv_sub hl [1, 0] rfl) (fun w6 σ7 H locs ls hg hI hl => ?_)
  refine lv_iconst (v := 0) hx hb dX1_look_28 (by decide) ?_
  refine lv_istore_n (lv' := [(1, .int 0), (0, .ref h0)]) hx hb dX1_look_29 rfl hl (by decide) rfl (fun ls hl => ?_)
  refine lX1_look_30 S hr hlocks hin hK hA  F 0 σ7 H locs ls hg hI (lv_sub hl [1, 0] rfl) (fun w13 σ14 H locs ls hg hI hl => ?_)
  refine lv_iconst (v := 0) hx hb dX1_look_52 (by decide) ?_
  refine lv_istore_n (lv' := [(1, .int 0), (0, .ref h0)]) hx hb dX1_look_53 rfl hl (by decide) rfl (fun ls hl => ?_)
  refine lX1_look_54 S hr hlocks hin hK hA  F 0 σ14 H locs ls hg hI (lv_sub hl [1, 0] rfl) (fun w88 σ89 H locs ls hg hI hl => ?_)
  exact me_v S hr hlocks hK hI hg dX1_look_207
-- OwnMemoryModel.taken
abbrev rX1_taken : Room := { frames := 2, cells := 0, slots := 0, locals := 44 }
theorem nX1_taken : yX1_taken.cls = RX1 ∧ yX1_taken.cls ≠ "java/lang/invoke/MethodHandle" ∧ yX1_taken.cls ≠ "java/lang/invoke/VarHandle" ∧ (parseMethodDescriptor yX1_taken.desc).map (fun d => d.parameters.length) = some 0 := by decide +kernel
noncomputable def LX1_taken_8 (F : Nat) (K : Int32 → Int32 → mS → Option (Int32 × mS)) : Nat → Int32 → Int32 → mS → Option (Int32 × mS)
  | 0, _, _, _ => none
  | n + 1, v1, v2, σ => cIf ((m_wait σ) ≤ v2) (K v1 v2 σ) (ck (vp_in v2 4096) (nmd (m_waiting σ v2.toNatClampNeg) (fun x4 => bnd (fX1_words F σ x4) (fun r6 σ5 => nmd (v1 + r6) (fun x7 => nmd (v2 + 1) (fun x8 => LX1_taken_8 F K  n x7 x8 σ5))))))
noncomputable def fX1_taken (F : Nat) (σ : mS) : Option (Int32 × mS) := bnp (fX1_look F σ ) (fun σ1 => LX1_taken_8 F (fun w9 w10 σ11 => some (w9, σ11))  F 0 0 σ1)
set_option maxHeartbeats 4000000 in
set_option maxRecDepth 100000 in
theorem lX1_taken_8 {p : Program} {l : Launch} {e : Env} {s : State} {m : MethodId} {args : Array Value} {below : List Frame} {meth : Method} {c : Code} {A : Nat → Prop} {G : gT} {h0 : Nat} {h : (Nat → Nat)} {F : Nat} (S : CallFix p m c cX1_taken 3 s args wsX1_taken RX1) (hr : meth.sig.returnType = some .int) (hlocks : meth.locks = false) (hin : ∀ w ∈ wsX10, w ∈ wsX1_taken) (hK : gK G s) (hA : ∀ q, s.heap.size ≤ q → A q) {K : Int32 → Int32 → mS → Option (Int32 × mS)} {res : (Int32 × mS)} (n : Nat) : ∀ (v1 : Int32) (v2 : Int32) (σ : mS) (H : Heap) (locs : List Loc) (ls : Array Slot), LX1_taken_8 F K n v1 v2 σ = some res → mI s A G h0 h σ H locs → lv_has ls 3 [(0, .ref h0), (1, .int v1), (2, .int v2)] → (∀ (v1 : Int32) (v2 : Int32) (σ : mS) (H : Heap) (locs : List Loc) (ls : Array Slot), K v1 v2 σ = some res → mI s A G h0 h σ H locs → lv_has ls 3 [(0, .ref h0), (1, .int v1), (2, .int v2)] → W p l e rX1_taken s m args below meth c H locs 0 0 (MQ below (mQi G h0 h res.1 res.2 A) args s 0 0 A) (F0 m 35 ls [])) → W p l e rX1_taken s m args below meth c H locs 0 0 (MQ below (mQi G h0 h res.1 res.2 A) args s 0 0 A) (F0 m 8 ls []) := by
  have hx := S.1
  have hb := S.2.1
  have hts := S.2.2.2.2
  have hown := S.2.2.2.1
  induction n with
  | zero => intro v1 v2 σ H locs ls hg; rw [LX1_taken_8] at hg; cases hg
  | succ n ih =>
    intro v1 v2 σ H locs ls hg hI hl kk
    rw [LX1_taken_8] at hg
    refine lv_iload_n hx hb dX1_taken_8 rfl (lv_at hl 2 rfl) ?_
    refine lv_aload_n hx hb dX1_taken_9 rfl (lv_at hl 0 rfl) ?_
    refine mg_wait S hin hK hI (ix := 80) (by decide +kernel) dX1_taken_10 ?_
    refine lv_icmp_ge (tgt := 35) hx hb dX1_taken_13 (by decide) (fun c2 => ?_) (fun c2 => ?_)
    · have hg := cIf_te c2 hg
      exact kk v1 v2 σ H locs ls hg hI (lv_sub hl [0, 1, 2] rfl)
    · have hg := cIf_fe c2 hg
      refine lv_iload_n hx hb dX1_taken_16 rfl (lv_at hl 1 rfl) ?_
      refine lv_aload_n hx hb dX1_taken_17 rfl (lv_at hl 0 rfl) ?_
      refine lv_aload_n hx hb dX1_taken_18 rfl (lv_at hl 0 rfl) ?_
      refine mg_waiting S hin hK hI (ix := 66) (by decide +kernel) dX1_taken_19 ?_
      refine lv_iload_n hx hb dX1_taken_22 rfl (lv_at hl 2 rfl) ?_
      obtain ⟨c3, hg⟩ := ck_e hg
      obtain ⟨x4, ex4, hg⟩ := nmd_e hg
      refine mr_waiting S hK hI c3 ex4 dX1_taken_23 ?_
      obtain ⟨r6, σ5, er6, hg⟩ := bnd_e hg
      refine mc_i S hK hA hI (As := [.int x4]) (rest := [.int v1]) (kX1_words l G h0 h H.size F σ x4  r6 σ5 er6) (cwV 1 hts gX1_taken_X1_words rfl rfl rfl nX1_words ⟨Nat.le_of_ble_eq_true rfl, Nat.le_of_ble_eq_true rfl⟩) rfl hl.1 rfl (Nat.le_of_ble_eq_true rfl) dX1_taken_24 ⟨Nat.le_refl _, Nat.le_refl _⟩ (fun H locs hI => ?_)
      refine lv_iadd hx hb dX1_taken_27 ?_
      obtain ⟨x7, ex7, hg⟩ := nmd_e hg
      refine wn_i ex7 ?_
      refine lv_istore_n (lv' := [(1, .int x7), (0, .ref h0), (2, .int v2)]) hx hb dX1_taken_28 rfl hl (by decide) rfl (fun ls hl => ?_)
      obtain ⟨x8, ex8, hg⟩ := nmd_e hg
      refine lv_iinc (v := x8) (lv' := [(2, .int x8), (1, .int x7), (0, .ref h0)]) hx hb dX1_taken_29 hl (k := 2) rfl (by rw [ex8]; rfl) (by decide) rfl (fun ls hl => ?_)
      refine lv_goto (tgt := 8) hx hb dX1_taken_32 (by decide) ?_
      exact ih x7 x8 σ5 H locs ls hg hI (lv_sub hl [2, 1, 0] rfl) kk
set_option maxHeartbeats 4000000 in
set_option maxRecDepth 100000 in
theorem kX1_taken (l : Launch) (G : gT) (h0 : Nat) (h : (Nat → Nat)) (sz F : Nat) (σ : mS) (r : Int32) (σr : mS) (hg : fX1_taken F σ = some (r, σr)) : Met l yX1_taken wsX1_taken rX1_taken (mPre G h0 h σ sz []) (mQi G h0 h r σr (mA G h0 h σ sz)) 0 0 (mA G h0 h σ sz) := by
  refine mMet (Qc := mQi G h0 h r σr) (by decide +kernel) rfl rfl (Nat.le_of_ble_eq_true rfl) ?_
  intro p e s m args below meth c A S hr hlocks hK hA H locs hI ls hl
  have hl : lv_has ls 3 [(0, .ref h0)] := hl
  have hin : ∀ w ∈ wsX10, w ∈ wsX1_taken := by decide +kernel
  have hx := S.1
  have hb := S.2.1
  have hts := S.2.2.2.2
  have hown := S.2.2.2.1
  unfold fX1_taken at hg
  refine lv_aload_n hx hb dX1_taken_0 rfl (lv_at hl 0 rfl) ?_
  obtain ⟨σ1, eσ1, hg⟩ := bnp_e hg
  refine mc_v S hK hA hI (As := []) (rest := []) (kX1_look l G h0 h H.size F σ  σ1 eσ1) (cwV 0 hts gX1_taken_X1_look rfl rfl rfl nX1_look ⟨Nat.le_of_ble_eq_true rfl, Nat.le_of_ble_eq_true rfl⟩) rfl hl.1 rfl (Nat.le_of_ble_eq_true rfl) dX1_taken_1 ⟨Nat.le_refl _, Nat.le_refl _⟩ (fun H locs hI => ?_)
  refine lv_iconst (v := 0) hx hb dX1_taken_4 (by decide) ?_
  refine lv_istore_n (lv' := [(1, .int 0), (0, .ref h0)]) hx hb dX1_taken_5 rfl hl (by decide) rfl (fun ls hl => ?_)
  refine lv_iconst (v := 0) hx hb dX1_taken_6 (by decide) ?_
  refine lv_istore_n (lv' := [(2, .int 0), (1, .int 0), (0, .ref h0)]) hx hb dX1_taken_7 rfl hl (by decide) rfl (fun ls hl => ?_)
  refine lX1_taken_8 S hr hlocks hin hK hA  F 0 0 σ1 H locs ls hg hI (lv_sub hl [2, 1, 0] rfl) (fun w9 w10 σ11 H locs ls hg hI hl => ?_)
  refine lv_iload_n hx hb dX1_taken_35 rfl (lv_at hl 1 rfl) ?_
  exact me_i S hr hlocks hK hI hg dX1_taken_36
-- OwnMemoryModel.make
abbrev rX1_make : Room := { frames := 3, cells := 0, slots := 0, locals := 66 }
theorem nX1_make : yX1_make.cls = RX1 ∧ yX1_make.cls ≠ "java/lang/invoke/MethodHandle" ∧ yX1_make.cls ≠ "java/lang/invoke/VarHandle" ∧ (parseMethodDescriptor yX1_make.desc).map (fun d => d.parameters.length) = some 3 := by decide +kernel
noncomputable def fX1_make (F : Nat) (σ : mS) (p1 : Int32) (p2 : Int32) (p3 : Int32) : Option (Int32 × mS) := ck (vp_in (m_objects σ) 4096) (nmd (m_s_kind σ (upd (m_kind σ) (m_objects σ).toNatClampNeg p1)) (fun σ2 => ck (vp_in (m_objects σ2) 4096) (nmd (m_s_length σ2 (upd (m_length σ2) (m_objects σ2).toNatClampNeg p2)) (fun σ4 => ck (vp_in (m_objects σ4) 4096) (nmd (m_s_madeOf σ4 (upd (m_madeOf σ4) (m_objects σ4).toNatClampNeg p3)) (fun σ6 => bnd (fX1_taken F σ6 ) (fun r8 σ7 => bnd (fX1_words F σ7 (m_objects σ7)) (fun r10 σ9 => cIf ((r8 + r10) ≤ (m_limit σ9)) (nmd (m_s_objects σ9 ((m_objects σ9) + 1)) (fun σ12 => some (((m_objects σ12) - 1), σ12))) (ck (vp_in (m_objects σ9) 4096) (nmd (m_s_links σ9 (upd (m_links σ9) (m_objects σ9).toNatClampNeg 0)) (fun σ14 => ck (vp_in (m_objects σ14) 4096) (nmd (m_s_values σ14 (upd (m_values σ14) (m_objects σ14).toNatClampNeg 0)) (fun σ16 => ck (vp_in (m_objects σ16) 4096) (nmd (m_s_plain σ16 (upd (m_plain σ16) (m_objects σ16).toNatClampNeg 0)) (fun σ18 => some (0, σ18))))))))))))))))
set_option maxHeartbeats 4000000 in
set_option maxRecDepth 100000 in
theorem kX1_make (l : Launch) (G : gT) (h0 : Nat) (h : (Nat → Nat)) (sz F : Nat) (σ : mS) (p1 : Int32) (p2 : Int32) (p3 : Int32) (r : Int32) (σr : mS) (hg : fX1_make F σ p1 p2 p3 = some (r, σr)) : Met l yX1_make wsX1_make rX1_make (mPre G h0 h σ sz [.int p1, .int p2, .int p3]) (mQi G h0 h r σr (mA G h0 h σ sz)) 0 0 (mA G h0 h σ sz) := by
  refine mMet (Qc := mQi G h0 h r σr) (by decide +kernel) rfl rfl (Nat.le_of_ble_eq_true rfl) ?_
  intro p e s m args below meth c A S hr hlocks hK hA H locs hI ls hl
  have hl : lv_has ls 4 [(0, .ref h0), (1, .int p1), (2, .int p2), (3, .int p3)] := hl
  have hin : ∀ w ∈ wsX10, w ∈ wsX1_make := by decide +kernel
  have hx := S.1
  have hb := S.2.1
  have hts := S.2.2.2.2
  have hown := S.2.2.2.1
  unfold fX1_make at hg
  refine lv_aload_n hx hb dX1_make_0 rfl (lv_at hl 0 rfl) ?_
  refine mg_kind S hin hK hI (ix := 17) (by decide +kernel) dX1_make_1 ?_
  refine lv_aload_n hx hb dX1_make_4 rfl (lv_at hl 0 rfl) ?_
  refine mg_objects S hin hK hI (ix := 13) (by decide +kernel) dX1_make_5 ?_
  refine lv_iload_n hx hb dX1_make_8 rfl (lv_at hl 1 rfl) ?_
  obtain ⟨c1, hg⟩ := ck_e hg
  obtain ⟨σ2, eσ2, hg⟩ := nmd_e hg
  refine mu_kind S hK hI c1 eσ2 dX1_make_9 (fun H locs hI => ?_)
  refine lv_aload_n hx hb dX1_make_10 rfl (lv_at hl 0 rfl) ?_
  refine mg_length S hin hK hI (ix := 44) (by decide +kernel) dX1_make_11 ?_
  refine lv_aload_n hx hb dX1_make_14 rfl (lv_at hl 0 rfl) ?_
  refine mg_objects S hin hK hI (ix := 13) (by decide +kernel) dX1_make_15 ?_
  refine lv_iload_n hx hb dX1_make_18 rfl (lv_at hl 2 rfl) ?_
  obtain ⟨c3, hg⟩ := ck_e hg
  obtain ⟨σ4, eσ4, hg⟩ := nmd_e hg
  refine mu_length S hK hI c3 eσ4 dX1_make_19 (fun H locs hI => ?_)
  refine lv_aload_n hx hb dX1_make_20 rfl (lv_at hl 0 rfl) ?_
  refine mg_madeOf S hin hK hI (ix := 47) (by decide +kernel) dX1_make_21 ?_
  refine lv_aload_n hx hb dX1_make_24 rfl (lv_at hl 0 rfl) ?_
  refine mg_objects S hin hK hI (ix := 13) (by decide +kernel) dX1_make_25 ?_
  refine lv_iload_n hx hb dX1_make_28 rfl (lv_at hl 3 rfl) ?_
  obtain ⟨c5, hg⟩ := ck_e hg
  obtain ⟨σ6, eσ6, hg⟩ := nmd_e hg
  refine mu_madeOf S hK hI c5 eσ6 dX1_make_29 (fun H locs hI => ?_)
  refine lv_aload_n hx hb dX1_make_30 rfl (lv_at hl 0 rfl) ?_
  obtain ⟨r8, σ7, er8, hg⟩ := bnd_e hg
  refine mc_i S hK hA hI (As := []) (rest := []) (kX1_taken l G h0 h H.size F σ6  r8 σ7 er8) (cwV 0 hts gX1_make_X1_taken rfl rfl rfl nX1_taken ⟨Nat.le_of_ble_eq_true rfl, Nat.le_of_ble_eq_true rfl⟩) rfl hl.1 rfl (Nat.le_of_ble_eq_true rfl) dX1_make_31 ⟨Nat.le_refl _, Nat.le_refl _⟩ (fun H locs hI => ?_)
  refine lv_aload_n hx hb dX1_make_34 rfl (lv_at hl 0 rfl) ?_
  refine lv_aload_n hx hb dX1_make_35 rfl (lv_at hl 0 rfl) ?_
  refine mg_objects S hin hK hI (ix := 13) (by decide +kernel) dX1_make_36 ?_
  obtain ⟨r10, σ9, er10, hg⟩ := bnd_e hg
  refine mc_i S hK hA hI (As := [.int (m_objects σ7)]) (rest := [.int r8]) (kX1_words l G h0 h H.size F σ7 (m_objects σ7)  r10 σ9 er10) (cwV 1 hts gX1_make_X1_words rfl rfl rfl nX1_words ⟨Nat.le_of_ble_eq_true rfl, Nat.le_of_ble_eq_true rfl⟩) rfl hl.1 rfl (Nat.le_of_ble_eq_true rfl) dX1_make_39 ⟨Nat.le_refl _, Nat.le_refl _⟩ (fun H locs hI => ?_)
  refine lv_iadd hx hb dX1_make_42 ?_
  refine lv_aload_n hx hb dX1_make_43 rfl (lv_at hl 0 rfl) ?_
  refine mg_limit S hin hK hI (ix := 70) (by decide +kernel) dX1_make_44 ?_
  refine lv_icmp_le (tgt := 82) hx hb dX1_make_47 (by decide) (fun c11 => ?_) (fun c11 => ?_)
  · have hg := cIf_te c11 hg
    refine lv_aload_n hx hb dX1_make_82 rfl (lv_at hl 0 rfl) ?_
    refine lv_dup hx hb dX1_make_83 rfl ?_
    refine mg_objects S hin hK hI (ix := 13) (by decide +kernel) dX1_make_84 ?_
    refine lv_iconst (v := 1) hx hb dX1_make_87 (by decide) ?_
    refine lv_iadd hx hb dX1_make_88 ?_
    obtain ⟨σ12, eσ12, hg⟩ := nmd_e hg
    refine mp_objects S hin hK hI (ix := 13) (by decide +kernel) eσ12 dX1_make_89 (fun H locs hI => ?_)
    refine lv_aload_n hx hb dX1_make_92 rfl (lv_at hl 0 rfl) ?_
    refine mg_objects S hin hK hI (ix := 13) (by decide +kernel) dX1_make_93 ?_
    refine lv_iconst (v := 1) hx hb dX1_make_96 (by decide) ?_
    refine lv_isub hx hb dX1_make_97 ?_
    exact me_i S hr hlocks hK hI hg dX1_make_98
  · have hg := cIf_fe c11 hg
    refine lv_aload_n hx hb dX1_make_50 rfl (lv_at hl 0 rfl) ?_
    refine mg_links S hin hK hI (ix := 20) (by decide +kernel) dX1_make_51 ?_
    refine lv_aload_n hx hb dX1_make_54 rfl (lv_at hl 0 rfl) ?_
    refine mg_objects S hin hK hI (ix := 13) (by decide +kernel) dX1_make_55 ?_
    refine lv_iconst (v := 0) hx hb dX1_make_58 (by decide) ?_
    obtain ⟨c13, hg⟩ := ck_e hg
    obtain ⟨σ14, eσ14, hg⟩ := nmd_e hg
    refine mu_links S hK hI c13 eσ14 dX1_make_59 (fun H locs hI => ?_)
    refine lv_aload_n hx hb dX1_make_60 rfl (lv_at hl 0 rfl) ?_
    refine mg_values S hin hK hI (ix := 23) (by decide +kernel) dX1_make_61 ?_
    refine lv_aload_n hx hb dX1_make_64 rfl (lv_at hl 0 rfl) ?_
    refine mg_objects S hin hK hI (ix := 13) (by decide +kernel) dX1_make_65 ?_
    refine lv_iconst (v := 0) hx hb dX1_make_68 (by decide) ?_
    obtain ⟨c15, hg⟩ := ck_e hg
    obtain ⟨σ16, eσ16, hg⟩ := nmd_e hg
    refine mu_values S hK hI c15 eσ16 dX1_make_69 (fun H locs hI => ?_)
    refine lv_aload_n hx hb dX1_make_70 rfl (lv_at hl 0 rfl) ?_
    refine mg_plain S hin hK hI (ix := 26) (by decide +kernel) dX1_make_71 ?_
    refine lv_aload_n hx hb dX1_make_74 rfl (lv_at hl 0 rfl) ?_
    refine mg_objects S hin hK hI (ix := 13) (by decide +kernel) dX1_make_75 ?_
    refine lv_iconst (v := 0) hx hb dX1_make_78 (by decide) ?_
    obtain ⟨c17, hg⟩ := ck_e hg
    obtain ⟨σ18, eσ18, hg⟩ := nmd_e hg
    refine mu_plain S hK hI c17 eσ18 dX1_make_79 (fun H locs hI => ?_)
    refine lv_iconst (v := 0) hx hb dX1_make_80 (by decide) ?_
    exact me_i S hr hlocks hK hI hg dX1_make_81
-- OwnMemoryModel.collect
abbrev rX1_collect : Room := { frames := 3, cells := 0, slots := 0, locals := 66 }
theorem nX1_collect : yX1_collect.cls = RX1 ∧ yX1_collect.cls ≠ "java/lang/invoke/MethodHandle" ∧ yX1_collect.cls ≠ "java/lang/invoke/VarHandle" ∧ (parseMethodDescriptor yX1_collect.desc).map (fun d => d.parameters.length) = some 0 := by decide +kernel
noncomputable def fX1_collect (F : Nat) (σ : mS) : Option (Int32 × mS) := nmd (m_s_thrown σ 0) (fun σ1 => bnd (fX1_taken F σ1 ) (fun r3 σ2 => some (r3, σ2)))
set_option maxHeartbeats 4000000 in
set_option maxRecDepth 100000 in
theorem kX1_collect (l : Launch) (G : gT) (h0 : Nat) (h : (Nat → Nat)) (sz F : Nat) (σ : mS) (r : Int32) (σr : mS) (hg : fX1_collect F σ = some (r, σr)) : Met l yX1_collect wsX1_collect rX1_collect (mPre G h0 h σ sz []) (mQi G h0 h r σr (mA G h0 h σ sz)) 0 0 (mA G h0 h σ sz) := by
  refine mMet (Qc := mQi G h0 h r σr) (by decide +kernel) rfl rfl (Nat.le_of_ble_eq_true rfl) ?_
  intro p e s m args below meth c A S hr hlocks hK hA H locs hI ls hl
  have hl : lv_has ls 1 [(0, .ref h0)] := hl
  have hin : ∀ w ∈ wsX10, w ∈ wsX1_collect := by decide +kernel
  have hx := S.1
  have hb := S.2.1
  have hts := S.2.2.2.2
  have hown := S.2.2.2.1
  unfold fX1_collect at hg
  refine lv_aload_n hx hb dX1_collect_0 rfl (lv_at hl 0 rfl) ?_
  refine lv_iconst (v := 0) hx hb dX1_collect_1 (by decide) ?_
  obtain ⟨σ1, eσ1, hg⟩ := nmd_e hg
  refine mp_thrown S hin hK hI (ix := 73) (by decide +kernel) eσ1 dX1_collect_2 (fun H locs hI => ?_)
  refine lv_aload_n hx hb dX1_collect_5 rfl (lv_at hl 0 rfl) ?_
  obtain ⟨r3, σ2, er3, hg⟩ := bnd_e hg
  refine mc_i S hK hA hI (As := []) (rest := []) (kX1_taken l G h0 h H.size F σ1  r3 σ2 er3) (cwV 0 hts gX1_collect_X1_taken rfl rfl rfl nX1_taken ⟨Nat.le_of_ble_eq_true rfl, Nat.le_of_ble_eq_true rfl⟩) rfl hl.1 rfl (Nat.le_of_ble_eq_true rfl) dX1_collect_6 ⟨Nat.le_refl _, Nat.le_refl _⟩ (fun H locs hI => ?_)
  exact me_i S hr hlocks hK hI hg dX1_collect_9
-- OwnMemoryModel.stress
abbrev rX1_stress : Room := { frames := 0, cells := 0, slots := 0, locals := 0 }
theorem nX1_stress : yX1_stress.cls = RX1 ∧ yX1_stress.cls ≠ "java/lang/invoke/MethodHandle" ∧ yX1_stress.cls ≠ "java/lang/invoke/VarHandle" ∧ (parseMethodDescriptor yX1_stress.desc).map (fun d => d.parameters.length) = some 1 := by decide +kernel
noncomputable def fX1_stress (F : Nat) (σ : mS) (p1 : Int32) : Option mS := cIf (p1 < 0) (nmd (m_s_thrown σ 1) (fun σ2 => some σ2)) (nmd (m_s_thrown σ 0) (fun σ3 => some σ3))
set_option maxHeartbeats 4000000 in
set_option maxRecDepth 100000 in
theorem kX1_stress (l : Launch) (G : gT) (h0 : Nat) (h : (Nat → Nat)) (sz F : Nat) (σ : mS) (p1 : Int32) (σr : mS) (hg : fX1_stress F σ p1 = some σr) : Met l yX1_stress wsX1_stress rX1_stress (mPre G h0 h σ sz [.int p1]) (mQv G h0 h σr (mA G h0 h σ sz)) 0 0 (mA G h0 h σ sz) := by
  refine mMet (Qc := mQv G h0 h σr) (by decide +kernel) rfl rfl (Nat.le_of_ble_eq_true rfl) ?_
  intro p e s m args below meth c A S hr hlocks hK hA H locs hI ls hl
  have hl : lv_has ls 2 [(0, .ref h0), (1, .int p1)] := hl
  have hin : ∀ w ∈ wsX10, w ∈ wsX1_stress := in_ws
  have hx := S.1
  have hb := S.2.1
  have hts := S.2.2.2.2
  have hown := S.2.2.2.1
  unfold fX1_stress at hg
  refine lv_aload_n hx hb dX1_stress_0 rfl (lv_at hl 0 rfl) ?_
  refine lv_iload_n hx hb dX1_stress_1 rfl (lv_at hl 1 rfl) ?_
  refine lv_if_lt (tgt := 9) hx hb dX1_stress_2 (by decide) (fun c1 => ?_) (fun c1 => ?_)
  · have hg := cIf_te c1 hg
    refine lv_iconst (v := 1) hx hb dX1_stress_9 (by decide) ?_
    obtain ⟨σ2, eσ2, hg⟩ := nmd_e hg
    refine mp_thrown S hin hK hI (ix := 73) (by decide +kernel) eσ2 dX1_stress_10 (fun H locs hI => ?_)
    exact me_v S hr hlocks hK hI hg dX1_stress_13
  · have hg := cIf_fe c1 hg
    refine lv_iconst (v := 0) hx hb dX1_stress_5 (by decide) ?_
    refine lv_goto (tgt := 10) hx hb dX1_stress_6 (by decide) ?_
    obtain ⟨σ3, eσ3, hg⟩ := nmd_e hg
    refine mp_thrown S hin hK hI (ix := 73) (by decide +kernel) eσ3 dX1_stress_10 (fun H locs hI => ?_)
    exact me_v S hr hlocks hK hI hg dX1_stress_13
-- OwnMemoryModel.take
abbrev rX1_take : Room := { frames := 4, cells := 0, slots := 0, locals := 89 }
theorem nX1_take : yX1_take.cls = RX1 ∧ yX1_take.cls ≠ "java/lang/invoke/MethodHandle" ∧ yX1_take.cls ≠ "java/lang/invoke/VarHandle" ∧ (parseMethodDescriptor yX1_take.desc).map (fun d => d.parameters.length) = some 4 := by decide +kernel
noncomputable def JX1_take_44 (F : Nat) (σ : mS) (v1 : Int32) (v2 : Int32) (v3 : Int32) (v4 : Int32) (t1 : Int32) : Option mS := bnd (fX1_says F σ t1) (fun r4 σ3 => cIf (r4 = 0) (some σ3) (ck (vp_in (m_objects σ3) 4096) (nmd (m_s_links σ3 (upd (m_links σ3) (m_objects σ3).toNatClampNeg v2)) (fun σ7 => ck (vp_in (m_objects σ7) 4096) (nmd (m_s_values σ7 (upd (m_values σ7) (m_objects σ7).toNatClampNeg v3)) (fun σ9 => ck (vp_in (m_objects σ9) 4096) (nmd (m_s_plain σ9 (upd (m_plain σ9) (m_objects σ9).toNatClampNeg v4)) (fun σ11 => bnd (fX1_make F σ11 1 0 0) (fun r13 σ12 => cIf (r13 = 0) (nmd (m_s_thrown σ12 2) (fun σ17 => some σ17)) (ck (vp_in v1 24) (nmd (m_s_root σ12 (upd (m_root σ12) v1.toNatClampNeg r13)) (fun σ16 => some σ16))))))))))))
noncomputable def JX1_take_43 (F : Nat) (σ : mS) (v1 : Int32) (v2 : Int32) (v3 : Int32) (v4 : Int32) : Option mS := JX1_take_44 F σ v1 v2 v3 v4 0
noncomputable def fX1_take (F : Nat) (σ : mS) (p1 : Int32) (p2 : Int32) (p3 : Int32) (p4 : Int32) : Option mS := bnp (fX1_isRoot F p1) (fun r1 => cIf (r1 = 0) (JX1_take_43 F σ p1 p2 p3 p4) (bnp (fX1_in F p2 0 8) (fun r18 => cIf (r18 = 0) (JX1_take_43 F σ p1 p2 p3 p4) (bnp (fX1_in F p3 0 8) (fun r20 => cIf (r20 = 0) (JX1_take_43 F σ p1 p2 p3 p4) (bnp (fX1_in F p4 0 16) (fun r22 => cIf (r22 = 0) (JX1_take_43 F σ p1 p2 p3 p4) (JX1_take_44 F σ p1 p2 p3 p4 1))))))))
set_option maxHeartbeats 4000000 in
set_option maxRecDepth 100000 in
theorem jX1_take_44 {p : Program} {l : Launch} {e : Env} {s : State} {m : MethodId} {args : Array Value} {below : List Frame} {meth : Method} {c : Code} {A : Nat → Prop} {G : gT} {h0 : Nat} {h : (Nat → Nat)} {F : Nat} (S : CallFix p m c cX1_take 6 s args wsX1_take RX1) (hr : meth.sig.returnType = none) (hlocks : meth.locks = false) (hin : ∀ w ∈ wsX10, w ∈ wsX1_take) (hK : gK G s) (hA : ∀ q, s.heap.size ≤ q → A q) {res : mS} (σ : mS) (v1 : Int32) (v2 : Int32) (v3 : Int32) (v4 : Int32) (t1 : Int32) (H : Heap) (locs : List Loc) (ls : Array Slot) (hg : JX1_take_44 F σ v1 v2 v3 v4 t1 = some res) (hI : mI s A G h0 h σ H locs) (hl : lv_has ls 6 [(0, .ref h0), (1, .int v1), (2, .int v2), (3, .int v3), (4, .int v4)]) : W p l e rX1_take s m args below meth c H locs 0 0 (MQ below (mQv G h0 h res A) args s 0 0 A) (F0 m 44 ls [.int t1, .ref h0]) := by
  have hx := S.1
  have hb := S.2.1
  have hts := S.2.2.2.2
  have hown := S.2.2.2.1
  unfold JX1_take_44 at hg
  obtain ⟨r4, σ3, er4, hg⟩ := bnd_e hg
  refine mc_i S hK hA hI (As := [.int t1]) (rest := []) (kX1_says l G h0 h H.size F σ t1  r4 σ3 er4) (cwV 1 hts gX1_take_X1_says rfl rfl rfl nX1_says ⟨Nat.le_of_ble_eq_true rfl, Nat.le_of_ble_eq_true rfl⟩) rfl hl.1 rfl (Nat.le_of_ble_eq_true rfl) dX1_take_44 ⟨Nat.le_refl _, Nat.le_refl _⟩ (fun H locs hI => ?_)
  refine lv_if_ne (tgt := 51) hx hb dX1_take_47 (by decide) (fun c5 => ?_) (fun c5 => ?_)
  · have hg := cIf_fe c5 hg
    refine lv_aload_n hx hb dX1_take_51 rfl (lv_at hl 0 rfl) ?_
    refine mg_links S hin hK hI (ix := 20) (by decide +kernel) dX1_take_52 ?_
    refine lv_aload_n hx hb dX1_take_55 rfl (lv_at hl 0 rfl) ?_
    refine mg_objects S hin hK hI (ix := 13) (by decide +kernel) dX1_take_56 ?_
    refine lv_iload_n hx hb dX1_take_59 rfl (lv_at hl 2 rfl) ?_
    obtain ⟨c6, hg⟩ := ck_e hg
    obtain ⟨σ7, eσ7, hg⟩ := nmd_e hg
    refine mu_links S hK hI c6 eσ7 dX1_take_60 (fun H locs hI => ?_)
    refine lv_aload_n hx hb dX1_take_61 rfl (lv_at hl 0 rfl) ?_
    refine mg_values S hin hK hI (ix := 23) (by decide +kernel) dX1_take_62 ?_
    refine lv_aload_n hx hb dX1_take_65 rfl (lv_at hl 0 rfl) ?_
    refine mg_objects S hin hK hI (ix := 13) (by decide +kernel) dX1_take_66 ?_
    refine lv_iload_n hx hb dX1_take_69 rfl (lv_at hl 3 rfl) ?_
    obtain ⟨c8, hg⟩ := ck_e hg
    obtain ⟨σ9, eσ9, hg⟩ := nmd_e hg
    refine mu_values S hK hI c8 eσ9 dX1_take_70 (fun H locs hI => ?_)
    refine lv_aload_n hx hb dX1_take_71 rfl (lv_at hl 0 rfl) ?_
    refine mg_plain S hin hK hI (ix := 26) (by decide +kernel) dX1_take_72 ?_
    refine lv_aload_n hx hb dX1_take_75 rfl (lv_at hl 0 rfl) ?_
    refine mg_objects S hin hK hI (ix := 13) (by decide +kernel) dX1_take_76 ?_
    refine lv_iload hx hb dX1_take_79 (lv_at hl 4 rfl) ?_
    obtain ⟨c10, hg⟩ := ck_e hg
    obtain ⟨σ11, eσ11, hg⟩ := nmd_e hg
    refine mu_plain S hK hI c10 eσ11 dX1_take_81 (fun H locs hI => ?_)
    refine lv_aload_n hx hb dX1_take_82 rfl (lv_at hl 0 rfl) ?_
    refine lv_iconst (v := 1) hx hb dX1_take_83 (by decide) ?_
    refine lv_iconst (v := 0) hx hb dX1_take_84 (by decide) ?_
    refine lv_iconst (v := 0) hx hb dX1_take_85 (by decide) ?_
    obtain ⟨r13, σ12, er13, hg⟩ := bnd_e hg
    refine mc_i S hK hA hI (As := [.int 1, .int 0, .int 0]) (rest := []) (kX1_make l G h0 h H.size F σ11 1 0 0  r13 σ12 er13) (cwV 3 hts gX1_take_X1_make rfl rfl rfl nX1_make ⟨Nat.le_of_ble_eq_true rfl, Nat.le_of_ble_eq_true rfl⟩) rfl hl.1 rfl (Nat.le_of_ble_eq_true rfl) dX1_take_86 ⟨Nat.le_refl _, Nat.le_refl _⟩ (fun H locs hI => ?_)
    refine lv_istore (lv' := [(5, .int r13), (0, .ref h0), (1, .int v1), (2, .int v2), (3, .int v3), (4, .int v4)]) hx hb dX1_take_89 hl (by decide) rfl (fun ls hl => ?_)
    refine lv_iload hx hb dX1_take_91 (lv_at hl 0 rfl) ?_
    refine lv_if_ne (tgt := 104) hx hb dX1_take_93 (by decide) (fun c14 => ?_) (fun c14 => ?_)
    · have hg := cIf_fe c14 hg
      refine lv_aload_n hx hb dX1_take_104 rfl (lv_at hl 1 rfl) ?_
      refine mg_root S hin hK hI (ix := 9) (by decide +kernel) dX1_take_105 ?_
      refine lv_iload_n hx hb dX1_take_108 rfl (lv_at hl 2 rfl) ?_
      refine lv_iload hx hb dX1_take_109 (lv_at hl 0 rfl) ?_
      obtain ⟨c15, hg⟩ := ck_e hg
      obtain ⟨σ16, eσ16, hg⟩ := nmd_e hg
      refine mu_root S hK hI c15 eσ16 dX1_take_111 (fun H locs hI => ?_)
      exact me_v S hr hlocks hK hI hg dX1_take_112
    · have hg := cIf_te c14 hg
      refine lv_aload_n hx hb dX1_take_96 rfl (lv_at hl 1 rfl) ?_
      refine lv_iconst (v := 2) hx hb dX1_take_97 (by decide) ?_
      obtain ⟨σ17, eσ17, hg⟩ := nmd_e hg
      refine mp_thrown S hin hK hI (ix := 73) (by decide +kernel) eσ17 dX1_take_98 (fun H locs hI => ?_)
      refine lv_goto (tgt := 112) hx hb dX1_take_101 (by decide) ?_
      exact me_v S hr hlocks hK hI hg dX1_take_112
  · have hg := cIf_te c5 hg
    exact me_v S hr hlocks hK hI hg dX1_take_50
set_option maxHeartbeats 4000000 in
set_option maxRecDepth 100000 in
theorem jX1_take_43 {p : Program} {l : Launch} {e : Env} {s : State} {m : MethodId} {args : Array Value} {below : List Frame} {meth : Method} {c : Code} {A : Nat → Prop} {G : gT} {h0 : Nat} {h : (Nat → Nat)} {F : Nat} (S : CallFix p m c cX1_take 6 s args wsX1_take RX1) (hr : meth.sig.returnType = none) (hlocks : meth.locks = false) (hin : ∀ w ∈ wsX10, w ∈ wsX1_take) (hK : gK G s) (hA : ∀ q, s.heap.size ≤ q → A q) {res : mS} (σ : mS) (v1 : Int32) (v2 : Int32) (v3 : Int32) (v4 : Int32) (H : Heap) (locs : List Loc) (ls : Array Slot) (hg : JX1_take_43 F σ v1 v2 v3 v4 = some res) (hI : mI s A G h0 h σ H locs) (hl : lv_has ls 6 [(0, .ref h0), (1, .int v1), (2, .int v2), (3, .int v3), (4, .int v4)]) : W p l e rX1_take s m args below meth c H locs 0 0 (MQ below (mQv G h0 h res A) args s 0 0 A) (F0 m 43 ls [.ref h0]) := by
  have hx := S.1
  have hb := S.2.1
  have hts := S.2.2.2.2
  have hown := S.2.2.2.1
  unfold JX1_take_43 at hg
  refine lv_iconst (v := 0) hx hb dX1_take_43 (by decide) ?_
  exact jX1_take_44 S hr hlocks hin hK hA σ v1 v2 v3 v4 0 H locs ls hg hI (lv_sub hl [0, 1, 2, 3, 4] rfl)
set_option maxHeartbeats 4000000 in
set_option maxRecDepth 100000 in
theorem kX1_take (l : Launch) (G : gT) (h0 : Nat) (h : (Nat → Nat)) (sz F : Nat) (σ : mS) (p1 : Int32) (p2 : Int32) (p3 : Int32) (p4 : Int32) (σr : mS) (hg : fX1_take F σ p1 p2 p3 p4 = some σr) : Met l yX1_take wsX1_take rX1_take (mPre G h0 h σ sz [.int p1, .int p2, .int p3, .int p4]) (mQv G h0 h σr (mA G h0 h σ sz)) 0 0 (mA G h0 h σ sz) := by
  refine mMet (Qc := mQv G h0 h σr) (by decide +kernel) rfl rfl (Nat.le_of_ble_eq_true rfl) ?_
  intro p e s m args below meth c A S hr hlocks hK hA H locs hI ls hl
  have hl : lv_has ls 6 [(0, .ref h0), (1, .int p1), (2, .int p2), (3, .int p3), (4, .int p4)] := hl
  have hin : ∀ w ∈ wsX10, w ∈ wsX1_take := by decide +kernel
  have hx := S.1
  have hb := S.2.1
  have hts := S.2.2.2.2
  have hown := S.2.2.2.1
  unfold fX1_take at hg
  refine lv_aload_n hx hb dX1_take_0 rfl (lv_at hl 0 rfl) ?_
  refine lv_iload_n hx hb dX1_take_1 rfl (lv_at hl 1 rfl) ?_
  obtain ⟨r1, er1, hg⟩ := bnp_e hg
  refine ms_i S hA hI (As := [.int p1]) (rest := [.ref h0]) (kX1_isRoot l H.size F p1 r1 er1) (va_cwS 1 hts gX1_take_X1_isRoot rfl rfl rfl nX1_isRoot ⟨Nat.le_of_ble_eq_true rfl, Nat.le_of_ble_eq_true rfl⟩) rfl hl.1 rfl (Nat.le_of_ble_eq_true rfl) dX1_take_2 ⟨Nat.le_refl _, Nat.le_refl _⟩ (fun H locs hI => ?_)
  refine lv_if_eq (tgt := 43) hx hb dX1_take_5 (by decide) (fun c2 => ?_) (fun c2 => ?_)
  · have hg := cIf_te c2 hg
    exact jX1_take_43 S hr hlocks hin hK hA σ p1 p2 p3 p4 H locs ls hg hI (lv_sub hl [0, 1, 2, 3, 4] rfl)
  · have hg := cIf_fe c2 hg
    refine lv_iload_n hx hb dX1_take_8 rfl (lv_at hl 2 rfl) ?_
    refine lv_iconst (v := 0) hx hb dX1_take_9 (by decide) ?_
    refine lv_bipush (v := 8) hx hb dX1_take_10 (by decide) ?_
    obtain ⟨r18, er18, hg⟩ := bnp_e hg
    refine ms_i S hA hI (As := [.int p2, .int 0, .int 8]) (rest := [.ref h0]) (kX1_in l H.size F p2 0 8 r18 er18) (va_cwS 3 hts gX1_take_X1_in rfl rfl rfl nX1_in ⟨Nat.le_of_ble_eq_true rfl, Nat.le_of_ble_eq_true rfl⟩) rfl hl.1 rfl (Nat.le_of_ble_eq_true rfl) dX1_take_12 ⟨Nat.le_refl _, Nat.le_refl _⟩ (fun H locs hI => ?_)
    refine lv_if_eq (tgt := 43) hx hb dX1_take_15 (by decide) (fun c19 => ?_) (fun c19 => ?_)
    · have hg := cIf_te c19 hg
      exact jX1_take_43 S hr hlocks hin hK hA σ p1 p2 p3 p4 H locs ls hg hI (lv_sub hl [0, 1, 2, 3, 4] rfl)
    · have hg := cIf_fe c19 hg
      refine lv_iload_n hx hb dX1_take_18 rfl (lv_at hl 3 rfl) ?_
      refine lv_iconst (v := 0) hx hb dX1_take_19 (by decide) ?_
      refine lv_bipush (v := 8) hx hb dX1_take_20 (by decide) ?_
      obtain ⟨r20, er20, hg⟩ := bnp_e hg
      refine ms_i S hA hI (As := [.int p3, .int 0, .int 8]) (rest := [.ref h0]) (kX1_in l H.size F p3 0 8 r20 er20) (va_cwS 3 hts gX1_take_X1_in rfl rfl rfl nX1_in ⟨Nat.le_of_ble_eq_true rfl, Nat.le_of_ble_eq_true rfl⟩) rfl hl.1 rfl (Nat.le_of_ble_eq_true rfl) dX1_take_22 ⟨Nat.le_refl _, Nat.le_refl _⟩ (fun H locs hI => ?_)
      refine lv_if_eq (tgt := 43) hx hb dX1_take_25 (by decide) (fun c21 => ?_) (fun c21 => ?_)
      · have hg := cIf_te c21 hg
        exact jX1_take_43 S hr hlocks hin hK hA σ p1 p2 p3 p4 H locs ls hg hI (lv_sub hl [0, 1, 2, 3, 4] rfl)
      · have hg := cIf_fe c21 hg
        refine lv_iload hx hb dX1_take_28 (lv_at hl 4 rfl) ?_
        refine lv_iconst (v := 0) hx hb dX1_take_30 (by decide) ?_
        refine lv_bipush (v := 16) hx hb dX1_take_31 (by decide) ?_
        obtain ⟨r22, er22, hg⟩ := bnp_e hg
        refine ms_i S hA hI (As := [.int p4, .int 0, .int 16]) (rest := [.ref h0]) (kX1_in l H.size F p4 0 16 r22 er22) (va_cwS 3 hts gX1_take_X1_in rfl rfl rfl nX1_in ⟨Nat.le_of_ble_eq_true rfl, Nat.le_of_ble_eq_true rfl⟩) rfl hl.1 rfl (Nat.le_of_ble_eq_true rfl) dX1_take_33 ⟨Nat.le_refl _, Nat.le_refl _⟩ (fun H locs hI => ?_)
        refine lv_if_eq (tgt := 43) hx hb dX1_take_36 (by decide) (fun c23 => ?_) (fun c23 => ?_)
        · have hg := cIf_te c23 hg
          exact jX1_take_43 S hr hlocks hin hK hA σ p1 p2 p3 p4 H locs ls hg hI (lv_sub hl [0, 1, 2, 3, 4] rfl)
        · have hg := cIf_fe c23 hg
          refine lv_iconst (v := 1) hx hb dX1_take_39 (by decide) ?_
          refine lv_goto (tgt := 44) hx hb dX1_take_40 (by decide) ?_
          exact jX1_take_44 S hr hlocks hin hK hA σ p1 p2 p3 p4 1 H locs ls hg hI (lv_sub hl [0, 1, 2, 3, 4] rfl)
-- OwnMemoryModel.copy
abbrev rX1_copy : Room := { frames := 2, cells := 0, slots := 0, locals := 42 }
theorem nX1_copy : yX1_copy.cls = RX1 ∧ yX1_copy.cls ≠ "java/lang/invoke/MethodHandle" ∧ yX1_copy.cls ≠ "java/lang/invoke/VarHandle" ∧ (parseMethodDescriptor yX1_copy.desc).map (fun d => d.parameters.length) = some 2 := by decide +kernel
noncomputable def JX1_copy_20 (F : Nat) (σ : mS) (v1 : Int32) (v2 : Int32) (t1 : Int32) : Option mS := bnd (fX1_says F σ t1) (fun r4 σ3 => cIf (r4 = 0) (some σ3) (ck (vp_in v2 24) (nmd (m_root σ3 v2.toNatClampNeg) (fun x7 => ck (vp_in v1 24) (nmd (m_s_root σ3 (upd (m_root σ3) v1.toNatClampNeg x7)) (fun σ9 => some σ9))))))
noncomputable def JX1_copy_19 (F : Nat) (σ : mS) (v1 : Int32) (v2 : Int32) : Option mS := JX1_copy_20 F σ v1 v2 0
noncomputable def fX1_copy (F : Nat) (σ : mS) (p1 : Int32) (p2 : Int32) : Option mS := bnp (fX1_isRoot F p1) (fun r1 => cIf (r1 = 0) (JX1_copy_19 F σ p1 p2) (bnp (fX1_isRoot F p2) (fun r10 => cIf (r10 = 0) (JX1_copy_19 F σ p1 p2) (JX1_copy_20 F σ p1 p2 1))))
set_option maxHeartbeats 4000000 in
set_option maxRecDepth 100000 in
theorem jX1_copy_20 {p : Program} {l : Launch} {e : Env} {s : State} {m : MethodId} {args : Array Value} {below : List Frame} {meth : Method} {c : Code} {A : Nat → Prop} {G : gT} {h0 : Nat} {h : (Nat → Nat)} {F : Nat} (S : CallFix p m c cX1_copy 3 s args wsX1_copy RX1) (hr : meth.sig.returnType = none) (hlocks : meth.locks = false) (hin : ∀ w ∈ wsX10, w ∈ wsX1_copy) (hK : gK G s) (hA : ∀ q, s.heap.size ≤ q → A q) {res : mS} (σ : mS) (v1 : Int32) (v2 : Int32) (t1 : Int32) (H : Heap) (locs : List Loc) (ls : Array Slot) (hg : JX1_copy_20 F σ v1 v2 t1 = some res) (hI : mI s A G h0 h σ H locs) (hl : lv_has ls 3 [(0, .ref h0), (1, .int v1), (2, .int v2)]) : W p l e rX1_copy s m args below meth c H locs 0 0 (MQ below (mQv G h0 h res A) args s 0 0 A) (F0 m 20 ls [.int t1, .ref h0]) := by
  have hx := S.1
  have hb := S.2.1
  have hts := S.2.2.2.2
  have hown := S.2.2.2.1
  unfold JX1_copy_20 at hg
  obtain ⟨r4, σ3, er4, hg⟩ := bnd_e hg
  refine mc_i S hK hA hI (As := [.int t1]) (rest := []) (kX1_says l G h0 h H.size F σ t1  r4 σ3 er4) (cwV 1 hts gX1_copy_X1_says rfl rfl rfl nX1_says ⟨Nat.le_of_ble_eq_true rfl, Nat.le_of_ble_eq_true rfl⟩) rfl hl.1 rfl (Nat.le_of_ble_eq_true rfl) dX1_copy_20 ⟨Nat.le_refl _, Nat.le_refl _⟩ (fun H locs hI => ?_)
  refine lv_if_eq (tgt := 38) hx hb dX1_copy_23 (by decide) (fun c5 => ?_) (fun c5 => ?_)
  · have hg := cIf_te c5 hg
    exact me_v S hr hlocks hK hI hg dX1_copy_38
  · have hg := cIf_fe c5 hg
    refine lv_aload_n hx hb dX1_copy_26 rfl (lv_at hl 0 rfl) ?_
    refine mg_root S hin hK hI (ix := 9) (by decide +kernel) dX1_copy_27 ?_
    refine lv_iload_n hx hb dX1_copy_30 rfl (lv_at hl 1 rfl) ?_
    refine lv_aload_n hx hb dX1_copy_31 rfl (lv_at hl 0 rfl) ?_
    refine mg_root S hin hK hI (ix := 9) (by decide +kernel) dX1_copy_32 ?_
    refine lv_iload_n hx hb dX1_copy_35 rfl (lv_at hl 2 rfl) ?_
    obtain ⟨c6, hg⟩ := ck_e hg
    obtain ⟨x7, ex7, hg⟩ := nmd_e hg
    refine mr_root S hK hI c6 ex7 dX1_copy_36 ?_
    obtain ⟨c8, hg⟩ := ck_e hg
    obtain ⟨σ9, eσ9, hg⟩ := nmd_e hg
    refine mu_root S hK hI c8 eσ9 dX1_copy_37 (fun H locs hI => ?_)
    exact me_v S hr hlocks hK hI hg dX1_copy_38
set_option maxHeartbeats 4000000 in
set_option maxRecDepth 100000 in
theorem jX1_copy_19 {p : Program} {l : Launch} {e : Env} {s : State} {m : MethodId} {args : Array Value} {below : List Frame} {meth : Method} {c : Code} {A : Nat → Prop} {G : gT} {h0 : Nat} {h : (Nat → Nat)} {F : Nat} (S : CallFix p m c cX1_copy 3 s args wsX1_copy RX1) (hr : meth.sig.returnType = none) (hlocks : meth.locks = false) (hin : ∀ w ∈ wsX10, w ∈ wsX1_copy) (hK : gK G s) (hA : ∀ q, s.heap.size ≤ q → A q) {res : mS} (σ : mS) (v1 : Int32) (v2 : Int32) (H : Heap) (locs : List Loc) (ls : Array Slot) (hg : JX1_copy_19 F σ v1 v2 = some res) (hI : mI s A G h0 h σ H locs) (hl : lv_has ls 3 [(0, .ref h0), (1, .int v1), (2, .int v2)]) : W p l e rX1_copy s m args below meth c H locs 0 0 (MQ below (mQv G h0 h res A) args s 0 0 A) (F0 m 19 ls [.ref h0]) := by
  have hx := S.1
  have hb := S.2.1
  have hts := S.2.2.2.2
  have hown := S.2.2.2.1
  unfold JX1_copy_19 at hg
  refine lv_iconst (v := 0) hx hb dX1_copy_19 (by decide) ?_
  exact jX1_copy_20 S hr hlocks hin hK hA σ v1 v2 0 H locs ls hg hI (lv_sub hl [0, 1, 2] rfl)
set_option maxHeartbeats 4000000 in
set_option maxRecDepth 100000 in
theorem kX1_copy (l : Launch) (G : gT) (h0 : Nat) (h : (Nat → Nat)) (sz F : Nat) (σ : mS) (p1 : Int32) (p2 : Int32) (σr : mS) (hg : fX1_copy F σ p1 p2 = some σr) : Met l yX1_copy wsX1_copy rX1_copy (mPre G h0 h σ sz [.int p1, .int p2]) (mQv G h0 h σr (mA G h0 h σ sz)) 0 0 (mA G h0 h σ sz) := by
  refine mMet (Qc := mQv G h0 h σr) (by decide +kernel) rfl rfl (Nat.le_of_ble_eq_true rfl) ?_
  intro p e s m args below meth c A S hr hlocks hK hA H locs hI ls hl
  have hl : lv_has ls 3 [(0, .ref h0), (1, .int p1), (2, .int p2)] := hl
  have hin : ∀ w ∈ wsX10, w ∈ wsX1_copy := in_ws
  have hx := S.1
  have hb := S.2.1
  have hts := S.2.2.2.2
  have hown := S.2.2.2.1
  unfold fX1_copy at hg
  refine lv_aload_n hx hb dX1_copy_0 rfl (lv_at hl 0 rfl) ?_
  refine lv_iload_n hx hb dX1_copy_1 rfl (lv_at hl 1 rfl) ?_
  obtain ⟨r1, er1, hg⟩ := bnp_e hg
  refine ms_i S hA hI (As := [.int p1]) (rest := [.ref h0]) (kX1_isRoot l H.size F p1 r1 er1) (va_cwS 1 hts gX1_copy_X1_isRoot rfl rfl rfl nX1_isRoot ⟨Nat.le_of_ble_eq_true rfl, Nat.le_of_ble_eq_true rfl⟩) rfl hl.1 rfl (Nat.le_of_ble_eq_true rfl) dX1_copy_2 ⟨Nat.le_refl _, Nat.le_refl _⟩ (fun H locs hI => ?_)
  refine lv_if_eq (tgt := 19) hx hb dX1_copy_5 (by decide) (fun c2 => ?_) (fun c2 => ?_)
  · have hg := cIf_te c2 hg
    exact jX1_copy_19 S hr hlocks hin hK hA σ p1 p2 H locs ls hg hI (lv_sub hl [0, 1, 2] rfl)
  · have hg := cIf_fe c2 hg
    refine lv_iload_n hx hb dX1_copy_8 rfl (lv_at hl 2 rfl) ?_
    obtain ⟨r10, er10, hg⟩ := bnp_e hg
    refine ms_i S hA hI (As := [.int p2]) (rest := [.ref h0]) (kX1_isRoot l H.size F p2 r10 er10) (va_cwS 1 hts gX1_copy_X1_isRoot rfl rfl rfl nX1_isRoot ⟨Nat.le_of_ble_eq_true rfl, Nat.le_of_ble_eq_true rfl⟩) rfl hl.1 rfl (Nat.le_of_ble_eq_true rfl) dX1_copy_9 ⟨Nat.le_refl _, Nat.le_refl _⟩ (fun H locs hI => ?_)
    refine lv_if_eq (tgt := 19) hx hb dX1_copy_12 (by decide) (fun c11 => ?_) (fun c11 => ?_)
    · have hg := cIf_te c11 hg
      exact jX1_copy_19 S hr hlocks hin hK hA σ p1 p2 H locs ls hg hI (lv_sub hl [0, 1, 2] rfl)
    · have hg := cIf_fe c11 hg
      refine lv_iconst (v := 1) hx hb dX1_copy_15 (by decide) ?_
      refine lv_goto (tgt := 20) hx hb dX1_copy_16 (by decide) ?_
      exact jX1_copy_20 S hr hlocks hin hK hA σ p1 p2 1 H locs ls hg hI (lv_sub hl [0, 1, 2] rfl)
-- OwnMemoryModel.drop
abbrev rX1_drop : Room := { frames := 2, cells := 0, slots := 0, locals := 42 }
theorem nX1_drop : yX1_drop.cls = RX1 ∧ yX1_drop.cls ≠ "java/lang/invoke/MethodHandle" ∧ yX1_drop.cls ≠ "java/lang/invoke/VarHandle" ∧ (parseMethodDescriptor yX1_drop.desc).map (fun d => d.parameters.length) = some 1 := by decide +kernel
noncomputable def fX1_drop (F : Nat) (σ : mS) (p1 : Int32) : Option mS := bnp (fX1_isRoot F p1) (fun r1 => bnd (fX1_says F σ r1) (fun r3 σ2 => cIf (r3 = 0) (some σ2) (ck (vp_in p1 24) (nmd (m_s_root σ2 (upd (m_root σ2) p1.toNatClampNeg 0)) (fun σ6 => some σ6)))))
set_option maxHeartbeats 4000000 in
set_option maxRecDepth 100000 in
theorem kX1_drop (l : Launch) (G : gT) (h0 : Nat) (h : (Nat → Nat)) (sz F : Nat) (σ : mS) (p1 : Int32) (σr : mS) (hg : fX1_drop F σ p1 = some σr) : Met l yX1_drop wsX1_drop rX1_drop (mPre G h0 h σ sz [.int p1]) (mQv G h0 h σr (mA G h0 h σ sz)) 0 0 (mA G h0 h σ sz) := by
  refine mMet (Qc := mQv G h0 h σr) (by decide +kernel) rfl rfl (Nat.le_of_ble_eq_true rfl) ?_
  intro p e s m args below meth c A S hr hlocks hK hA H locs hI ls hl
  have hl : lv_has ls 2 [(0, .ref h0), (1, .int p1)] := hl
  have hin : ∀ w ∈ wsX10, w ∈ wsX1_drop := in_ws
  have hx := S.1
  have hb := S.2.1
  have hts := S.2.2.2.2
  have hown := S.2.2.2.1
  unfold fX1_drop at hg
  refine lv_aload_n hx hb dX1_drop_0 rfl (lv_at hl 0 rfl) ?_
  refine lv_iload_n hx hb dX1_drop_1 rfl (lv_at hl 1 rfl) ?_
  obtain ⟨r1, er1, hg⟩ := bnp_e hg
  refine ms_i S hA hI (As := [.int p1]) (rest := [.ref h0]) (kX1_isRoot l H.size F p1 r1 er1) (va_cwS 1 hts gX1_drop_X1_isRoot rfl rfl rfl nX1_isRoot ⟨Nat.le_of_ble_eq_true rfl, Nat.le_of_ble_eq_true rfl⟩) rfl hl.1 rfl (Nat.le_of_ble_eq_true rfl) dX1_drop_2 ⟨Nat.le_refl _, Nat.le_refl _⟩ (fun H locs hI => ?_)
  obtain ⟨r3, σ2, er3, hg⟩ := bnd_e hg
  refine mc_i S hK hA hI (As := [.int r1]) (rest := []) (kX1_says l G h0 h H.size F σ r1  r3 σ2 er3) (cwV 1 hts gX1_drop_X1_says rfl rfl rfl nX1_says ⟨Nat.le_of_ble_eq_true rfl, Nat.le_of_ble_eq_true rfl⟩) rfl hl.1 rfl (Nat.le_of_ble_eq_true rfl) dX1_drop_5 ⟨Nat.le_refl _, Nat.le_refl _⟩ (fun H locs hI => ?_)
  refine lv_if_eq (tgt := 18) hx hb dX1_drop_8 (by decide) (fun c4 => ?_) (fun c4 => ?_)
  · have hg := cIf_te c4 hg
    exact me_v S hr hlocks hK hI hg dX1_drop_18
  · have hg := cIf_fe c4 hg
    refine lv_aload_n hx hb dX1_drop_11 rfl (lv_at hl 0 rfl) ?_
    refine mg_root S hin hK hI (ix := 9) (by decide +kernel) dX1_drop_12 ?_
    refine lv_iload_n hx hb dX1_drop_15 rfl (lv_at hl 1 rfl) ?_
    refine lv_iconst (v := 0) hx hb dX1_drop_16 (by decide) ?_
    obtain ⟨c5, hg⟩ := ck_e hg
    obtain ⟨σ6, eσ6, hg⟩ := nmd_e hg
    refine mu_root S hK hI c5 eσ6 dX1_drop_17 (fun H locs hI => ?_)
    exact me_v S hr hlocks hK hI hg dX1_drop_18
-- OwnMemoryModel.kind
abbrev rX1_kind : Room := { frames := 2, cells := 0, slots := 0, locals := 42 }
theorem nX1_kind : yX1_kind.cls = RX1 ∧ yX1_kind.cls ≠ "java/lang/invoke/MethodHandle" ∧ yX1_kind.cls ≠ "java/lang/invoke/VarHandle" ∧ (parseMethodDescriptor yX1_kind.desc).map (fun d => d.parameters.length) = some 1 := by decide +kernel
noncomputable def fX1_kind (F : Nat) (σ : mS) (p1 : Int32) : Option (Int32 × mS) := bnp (fX1_isRoot F p1) (fun r1 => bnd (fX1_says F σ r1) (fun r3 σ2 => cIf (r3 = 0) (some (0, σ2)) (ck (vp_in p1 24) (nmd (m_root σ2 p1.toNatClampNeg) (fun x6 => ck (vp_in x6 4096) (nmd (m_kind σ2 x6.toNatClampNeg) (fun x8 => some (x8, σ2))))))))
set_option maxHeartbeats 4000000 in
set_option maxRecDepth 100000 in
theorem kX1_kind (l : Launch) (G : gT) (h0 : Nat) (h : (Nat → Nat)) (sz F : Nat) (σ : mS) (p1 : Int32) (r : Int32) (σr : mS) (hg : fX1_kind F σ p1 = some (r, σr)) : Met l yX1_kind wsX1_kind rX1_kind (mPre G h0 h σ sz [.int p1]) (mQi G h0 h r σr (mA G h0 h σ sz)) 0 0 (mA G h0 h σ sz) := by
  refine mMet (Qc := mQi G h0 h r σr) (by decide +kernel) rfl rfl (Nat.le_of_ble_eq_true rfl) ?_
  intro p e s m args below meth c A S hr hlocks hK hA H locs hI ls hl
  have hl : lv_has ls 2 [(0, .ref h0), (1, .int p1)] := hl
  have hin : ∀ w ∈ wsX10, w ∈ wsX1_kind := in_ws
  have hx := S.1
  have hb := S.2.1
  have hts := S.2.2.2.2
  have hown := S.2.2.2.1
  unfold fX1_kind at hg
  refine lv_aload_n hx hb dX1_kind_0 rfl (lv_at hl 0 rfl) ?_
  refine lv_iload_n hx hb dX1_kind_1 rfl (lv_at hl 1 rfl) ?_
  obtain ⟨r1, er1, hg⟩ := bnp_e hg
  refine ms_i S hA hI (As := [.int p1]) (rest := [.ref h0]) (kX1_isRoot l H.size F p1 r1 er1) (va_cwS 1 hts gX1_kind_X1_isRoot rfl rfl rfl nX1_isRoot ⟨Nat.le_of_ble_eq_true rfl, Nat.le_of_ble_eq_true rfl⟩) rfl hl.1 rfl (Nat.le_of_ble_eq_true rfl) dX1_kind_2 ⟨Nat.le_refl _, Nat.le_refl _⟩ (fun H locs hI => ?_)
  obtain ⟨r3, σ2, er3, hg⟩ := bnd_e hg
  refine mc_i S hK hA hI (As := [.int r1]) (rest := []) (kX1_says l G h0 h H.size F σ r1  r3 σ2 er3) (cwV 1 hts gX1_kind_X1_says rfl rfl rfl nX1_says ⟨Nat.le_of_ble_eq_true rfl, Nat.le_of_ble_eq_true rfl⟩) rfl hl.1 rfl (Nat.le_of_ble_eq_true rfl) dX1_kind_5 ⟨Nat.le_refl _, Nat.le_refl _⟩ (fun H locs hI => ?_)
  refine lv_if_eq (tgt := 25) hx hb dX1_kind_8 (by decide) (fun c4 => ?_) (fun c4 => ?_)
  · have hg := cIf_te c4 hg
    refine lv_iconst (v := 0) hx hb dX1_kind_25 (by decide) ?_
    exact me_i S hr hlocks hK hI hg dX1_kind_26
  · have hg := cIf_fe c4 hg
    refine lv_aload_n hx hb dX1_kind_11 rfl (lv_at hl 0 rfl) ?_
    refine mg_kind S hin hK hI (ix := 17) (by decide +kernel) dX1_kind_12 ?_
    refine lv_aload_n hx hb dX1_kind_15 rfl (lv_at hl 0 rfl) ?_
    refine mg_root S hin hK hI (ix := 9) (by decide +kernel) dX1_kind_16 ?_
    refine lv_iload_n hx hb dX1_kind_19 rfl (lv_at hl 1 rfl) ?_
    obtain ⟨c5, hg⟩ := ck_e hg
    obtain ⟨x6, ex6, hg⟩ := nmd_e hg
    refine mr_root S hK hI c5 ex6 dX1_kind_20 ?_
    obtain ⟨c7, hg⟩ := ck_e hg
    obtain ⟨x8, ex8, hg⟩ := nmd_e hg
    refine mr_kind S hK hI c7 ex8 dX1_kind_21 ?_
    refine lv_goto (tgt := 26) hx hb dX1_kind_22 (by decide) ?_
    exact me_i S hr hlocks hK hI hg dX1_kind_26
-- OwnMemoryModel.same
abbrev rX1_same : Room := { frames := 2, cells := 0, slots := 0, locals := 42 }
theorem nX1_same : yX1_same.cls = RX1 ∧ yX1_same.cls ≠ "java/lang/invoke/MethodHandle" ∧ yX1_same.cls ≠ "java/lang/invoke/VarHandle" ∧ (parseMethodDescriptor yX1_same.desc).map (fun d => d.parameters.length) = some 2 := by decide +kernel
noncomputable def JX1_same_20 (F : Nat) (σ : mS) (v1 : Int32) (v2 : Int32) (t1 : Int32) : Option (Int32 × mS) := bnd (fX1_says F σ t1) (fun r4 σ3 => cIf (r4 = 0) (some (0, σ3)) (ck (vp_in v1 24) (nmd (m_root σ3 v1.toNatClampNeg) (fun x7 => ck (vp_in v2 24) (nmd (m_root σ3 v2.toNatClampNeg) (fun x9 => cIf (x7 = x9) (some (1, σ3)) (some (0, σ3))))))))
noncomputable def JX1_same_19 (F : Nat) (σ : mS) (v1 : Int32) (v2 : Int32) : Option (Int32 × mS) := JX1_same_20 F σ v1 v2 0
noncomputable def fX1_same (F : Nat) (σ : mS) (p1 : Int32) (p2 : Int32) : Option (Int32 × mS) := bnp (fX1_isRoot F p1) (fun r1 => cIf (r1 = 0) (JX1_same_19 F σ p1 p2) (bnp (fX1_isRoot F p2) (fun r11 => cIf (r11 = 0) (JX1_same_19 F σ p1 p2) (JX1_same_20 F σ p1 p2 1))))
set_option maxHeartbeats 4000000 in
set_option maxRecDepth 100000 in
theorem jX1_same_20 {p : Program} {l : Launch} {e : Env} {s : State} {m : MethodId} {args : Array Value} {below : List Frame} {meth : Method} {c : Code} {A : Nat → Prop} {G : gT} {h0 : Nat} {h : (Nat → Nat)} {F : Nat} (S : CallFix p m c cX1_same 3 s args wsX1_same RX1) (hr : meth.sig.returnType = some .boolean) (hlocks : meth.locks = false) (hin : ∀ w ∈ wsX10, w ∈ wsX1_same) (hK : gK G s) (hA : ∀ q, s.heap.size ≤ q → A q) {res : (Int32 × mS)} (σ : mS) (v1 : Int32) (v2 : Int32) (t1 : Int32) (H : Heap) (locs : List Loc) (ls : Array Slot) (hg : JX1_same_20 F σ v1 v2 t1 = some res) (hI : mI s A G h0 h σ H locs) (hl : lv_has ls 3 [(0, .ref h0), (1, .int v1), (2, .int v2)]) : W p l e rX1_same s m args below meth c H locs 0 0 (MQ below (mQi G h0 h res.1 res.2 A) args s 0 0 A) (F0 m 20 ls [.int t1, .ref h0]) := by
  have hx := S.1
  have hb := S.2.1
  have hts := S.2.2.2.2
  have hown := S.2.2.2.1
  unfold JX1_same_20 at hg
  obtain ⟨r4, σ3, er4, hg⟩ := bnd_e hg
  refine mc_i S hK hA hI (As := [.int t1]) (rest := []) (kX1_says l G h0 h H.size F σ t1  r4 σ3 er4) (cwV 1 hts gX1_same_X1_says rfl rfl rfl nX1_says ⟨Nat.le_of_ble_eq_true rfl, Nat.le_of_ble_eq_true rfl⟩) rfl hl.1 rfl (Nat.le_of_ble_eq_true rfl) dX1_same_20 ⟨Nat.le_refl _, Nat.le_refl _⟩ (fun H locs hI => ?_)
  refine lv_if_eq (tgt := 45) hx hb dX1_same_23 (by decide) (fun c5 => ?_) (fun c5 => ?_)
  · have hg := cIf_te c5 hg
    refine lv_iconst (v := 0) hx hb dX1_same_45 (by decide) ?_
    exact me_z S hr hlocks hK hI rfl hg dX1_same_46
  · have hg := cIf_fe c5 hg
    refine lv_aload_n hx hb dX1_same_26 rfl (lv_at hl 0 rfl) ?_
    refine mg_root S hin hK hI (ix := 9) (by decide +kernel) dX1_same_27 ?_
    refine lv_iload_n hx hb dX1_same_30 rfl (lv_at hl 1 rfl) ?_
    obtain ⟨c6, hg⟩ := ck_e hg
    obtain ⟨x7, ex7, hg⟩ := nmd_e hg
    refine mr_root S hK hI c6 ex7 dX1_same_31 ?_
    refine lv_aload_n hx hb dX1_same_32 rfl (lv_at hl 0 rfl) ?_
    refine mg_root S hin hK hI (ix := 9) (by decide +kernel) dX1_same_33 ?_
    refine lv_iload_n hx hb dX1_same_36 rfl (lv_at hl 2 rfl) ?_
    obtain ⟨c8, hg⟩ := ck_e hg
    obtain ⟨x9, ex9, hg⟩ := nmd_e hg
    refine mr_root S hK hI c8 ex9 dX1_same_37 ?_
    refine lv_icmp_ne (tgt := 45) hx hb dX1_same_38 (by decide) (fun c10 => ?_) (fun c10 => ?_)
    · have hg := cIf_fe c10 hg
      refine lv_iconst (v := 0) hx hb dX1_same_45 (by decide) ?_
      exact me_z S hr hlocks hK hI rfl hg dX1_same_46
    · have hg := cIf_te c10 hg
      refine lv_iconst (v := 1) hx hb dX1_same_41 (by decide) ?_
      refine lv_goto (tgt := 46) hx hb dX1_same_42 (by decide) ?_
      exact me_z S hr hlocks hK hI rfl hg dX1_same_46
set_option maxHeartbeats 4000000 in
set_option maxRecDepth 100000 in
theorem jX1_same_19 {p : Program} {l : Launch} {e : Env} {s : State} {m : MethodId} {args : Array Value} {below : List Frame} {meth : Method} {c : Code} {A : Nat → Prop} {G : gT} {h0 : Nat} {h : (Nat → Nat)} {F : Nat} (S : CallFix p m c cX1_same 3 s args wsX1_same RX1) (hr : meth.sig.returnType = some .boolean) (hlocks : meth.locks = false) (hin : ∀ w ∈ wsX10, w ∈ wsX1_same) (hK : gK G s) (hA : ∀ q, s.heap.size ≤ q → A q) {res : (Int32 × mS)} (σ : mS) (v1 : Int32) (v2 : Int32) (H : Heap) (locs : List Loc) (ls : Array Slot) (hg : JX1_same_19 F σ v1 v2 = some res) (hI : mI s A G h0 h σ H locs) (hl : lv_has ls 3 [(0, .ref h0), (1, .int v1), (2, .int v2)]) : W p l e rX1_same s m args below meth c H locs 0 0 (MQ below (mQi G h0 h res.1 res.2 A) args s 0 0 A) (F0 m 19 ls [.ref h0]) := by
  have hx := S.1
  have hb := S.2.1
  have hts := S.2.2.2.2
  have hown := S.2.2.2.1
  unfold JX1_same_19 at hg
  refine lv_iconst (v := 0) hx hb dX1_same_19 (by decide) ?_
  exact jX1_same_20 S hr hlocks hin hK hA σ v1 v2 0 H locs ls hg hI (lv_sub hl [0, 1, 2] rfl)
set_option maxHeartbeats 4000000 in
set_option maxRecDepth 100000 in
theorem kX1_same (l : Launch) (G : gT) (h0 : Nat) (h : (Nat → Nat)) (sz F : Nat) (σ : mS) (p1 : Int32) (p2 : Int32) (r : Int32) (σr : mS) (hg : fX1_same F σ p1 p2 = some (r, σr)) : Met l yX1_same wsX1_same rX1_same (mPre G h0 h σ sz [.int p1, .int p2]) (mQi G h0 h r σr (mA G h0 h σ sz)) 0 0 (mA G h0 h σ sz) := by
  refine mMet (Qc := mQi G h0 h r σr) (by decide +kernel) rfl rfl (Nat.le_of_ble_eq_true rfl) ?_
  intro p e s m args below meth c A S hr hlocks hK hA H locs hI ls hl
  have hl : lv_has ls 3 [(0, .ref h0), (1, .int p1), (2, .int p2)] := hl
  have hin : ∀ w ∈ wsX10, w ∈ wsX1_same := in_ws
  have hx := S.1
  have hb := S.2.1
  have hts := S.2.2.2.2
  have hown := S.2.2.2.1
  unfold fX1_same at hg
  refine lv_aload_n hx hb dX1_same_0 rfl (lv_at hl 0 rfl) ?_
  refine lv_iload_n hx hb dX1_same_1 rfl (lv_at hl 1 rfl) ?_
  obtain ⟨r1, er1, hg⟩ := bnp_e hg
  refine ms_i S hA hI (As := [.int p1]) (rest := [.ref h0]) (kX1_isRoot l H.size F p1 r1 er1) (va_cwS 1 hts gX1_same_X1_isRoot rfl rfl rfl nX1_isRoot ⟨Nat.le_of_ble_eq_true rfl, Nat.le_of_ble_eq_true rfl⟩) rfl hl.1 rfl (Nat.le_of_ble_eq_true rfl) dX1_same_2 ⟨Nat.le_refl _, Nat.le_refl _⟩ (fun H locs hI => ?_)
  refine lv_if_eq (tgt := 19) hx hb dX1_same_5 (by decide) (fun c2 => ?_) (fun c2 => ?_)
  · have hg := cIf_te c2 hg
    exact jX1_same_19 S hr hlocks hin hK hA σ p1 p2 H locs ls hg hI (lv_sub hl [0, 1, 2] rfl)
  · have hg := cIf_fe c2 hg
    refine lv_iload_n hx hb dX1_same_8 rfl (lv_at hl 2 rfl) ?_
    obtain ⟨r11, er11, hg⟩ := bnp_e hg
    refine ms_i S hA hI (As := [.int p2]) (rest := [.ref h0]) (kX1_isRoot l H.size F p2 r11 er11) (va_cwS 1 hts gX1_same_X1_isRoot rfl rfl rfl nX1_isRoot ⟨Nat.le_of_ble_eq_true rfl, Nat.le_of_ble_eq_true rfl⟩) rfl hl.1 rfl (Nat.le_of_ble_eq_true rfl) dX1_same_9 ⟨Nat.le_refl _, Nat.le_refl _⟩ (fun H locs hI => ?_)
    refine lv_if_eq (tgt := 19) hx hb dX1_same_12 (by decide) (fun c12 => ?_) (fun c12 => ?_)
    · have hg := cIf_te c12 hg
      exact jX1_same_19 S hr hlocks hin hK hA σ p1 p2 H locs ls hg hI (lv_sub hl [0, 1, 2] rfl)
    · have hg := cIf_fe c12 hg
      refine lv_iconst (v := 1) hx hb dX1_same_15 (by decide) ?_
      refine lv_goto (tgt := 20) hx hb dX1_same_16 (by decide) ?_
      exact jX1_same_20 S hr hlocks hin hK hA σ p1 p2 1 H locs ls hg hI (lv_sub hl [0, 1, 2] rfl)
-- OwnMemoryModel.isBlock
abbrev rX1_isBlock : Room := { frames := 2, cells := 0, slots := 0, locals := 42 }
theorem nX1_isBlock : yX1_isBlock.cls = RX1 ∧ yX1_isBlock.cls ≠ "java/lang/invoke/MethodHandle" ∧ yX1_isBlock.cls ≠ "java/lang/invoke/VarHandle" ∧ (parseMethodDescriptor yX1_isBlock.desc).map (fun d => d.parameters.length) = some 1 := by decide +kernel
noncomputable def fX1_isBlock (F : Nat) (σ : mS) (p1 : Int32) : Option (Int32 × mS) := bnp (fX1_isRoot F p1) (fun r1 => cIf (r1 = 0) (some (0, σ)) (ck (vp_in p1 24) (nmd (m_root σ p1.toNatClampNeg) (fun x4 => ck (vp_in x4 4096) (nmd (m_kind σ x4.toNatClampNeg) (fun x6 => cIf (x6 = 1) (some (1, σ)) (some (0, σ))))))))
set_option maxHeartbeats 4000000 in
set_option maxRecDepth 100000 in
theorem kX1_isBlock (l : Launch) (G : gT) (h0 : Nat) (h : (Nat → Nat)) (sz F : Nat) (σ : mS) (p1 : Int32) (r : Int32) (σr : mS) (hg : fX1_isBlock F σ p1 = some (r, σr)) : Met l yX1_isBlock wsX1_isBlock rX1_isBlock (mPre G h0 h σ sz [.int p1]) (mQi G h0 h r σr (mA G h0 h σ sz)) 0 0 (mA G h0 h σ sz) := by
  refine mMet (Qc := mQi G h0 h r σr) (by decide +kernel) rfl rfl (Nat.le_of_ble_eq_true rfl) ?_
  intro p e s m args below meth c A S hr hlocks hK hA H locs hI ls hl
  have hl : lv_has ls 2 [(0, .ref h0), (1, .int p1)] := hl
  have hin : ∀ w ∈ wsX10, w ∈ wsX1_isBlock := in_ws
  have hx := S.1
  have hb := S.2.1
  have hts := S.2.2.2.2
  have hown := S.2.2.2.1
  unfold fX1_isBlock at hg
  refine lv_iload_n hx hb dX1_isBlock_0 rfl (lv_at hl 1 rfl) ?_
  obtain ⟨r1, er1, hg⟩ := bnp_e hg
  refine ms_i S hA hI (As := [.int p1]) (rest := []) (kX1_isRoot l H.size F p1 r1 er1) (va_cwS 1 hts gX1_isBlock_X1_isRoot rfl rfl rfl nX1_isRoot ⟨Nat.le_of_ble_eq_true rfl, Nat.le_of_ble_eq_true rfl⟩) rfl hl.1 rfl (Nat.le_of_ble_eq_true rfl) dX1_isBlock_1 ⟨Nat.le_refl _, Nat.le_refl _⟩ (fun H locs hI => ?_)
  refine lv_if_eq (tgt := 26) hx hb dX1_isBlock_4 (by decide) (fun c2 => ?_) (fun c2 => ?_)
  · have hg := cIf_te c2 hg
    refine lv_iconst (v := 0) hx hb dX1_isBlock_26 (by decide) ?_
    exact me_z S hr hlocks hK hI rfl hg dX1_isBlock_27
  · have hg := cIf_fe c2 hg
    refine lv_aload_n hx hb dX1_isBlock_7 rfl (lv_at hl 0 rfl) ?_
    refine mg_kind S hin hK hI (ix := 17) (by decide +kernel) dX1_isBlock_8 ?_
    refine lv_aload_n hx hb dX1_isBlock_11 rfl (lv_at hl 0 rfl) ?_
    refine mg_root S hin hK hI (ix := 9) (by decide +kernel) dX1_isBlock_12 ?_
    refine lv_iload_n hx hb dX1_isBlock_15 rfl (lv_at hl 1 rfl) ?_
    obtain ⟨c3, hg⟩ := ck_e hg
    obtain ⟨x4, ex4, hg⟩ := nmd_e hg
    refine mr_root S hK hI c3 ex4 dX1_isBlock_16 ?_
    obtain ⟨c5, hg⟩ := ck_e hg
    obtain ⟨x6, ex6, hg⟩ := nmd_e hg
    refine mr_kind S hK hI c5 ex6 dX1_isBlock_17 ?_
    refine lv_iconst (v := 1) hx hb dX1_isBlock_18 (by decide) ?_
    refine lv_icmp_ne (tgt := 26) hx hb dX1_isBlock_19 (by decide) (fun c7 => ?_) (fun c7 => ?_)
    · have hg := cIf_fe c7 hg
      refine lv_iconst (v := 0) hx hb dX1_isBlock_26 (by decide) ?_
      exact me_z S hr hlocks hK hI rfl hg dX1_isBlock_27
    · have hg := cIf_te c7 hg
      refine lv_iconst (v := 1) hx hb dX1_isBlock_22 (by decide) ?_
      refine lv_goto (tgt := 27) hx hb dX1_isBlock_23 (by decide) ?_
      exact me_z S hr hlocks hK hI rfl hg dX1_isBlock_27
-- OwnMemoryModel.hasLink
abbrev rX1_hasLink : Room := { frames := 3, cells := 0, slots := 0, locals := 63 }
theorem nX1_hasLink : yX1_hasLink.cls = RX1 ∧ yX1_hasLink.cls ≠ "java/lang/invoke/MethodHandle" ∧ yX1_hasLink.cls ≠ "java/lang/invoke/VarHandle" ∧ (parseMethodDescriptor yX1_hasLink.desc).map (fun d => d.parameters.length) = some 2 := by decide +kernel
noncomputable def fX1_hasLink (F : Nat) (σ : mS) (p1 : Int32) (p2 : Int32) : Option (Int32 × mS) := bnd (fX1_isBlock F σ p1) (fun r2 σ1 => cIf (r2 = 0) (some (0, σ1)) (ck (vp_in p1 24) (nmd (m_root σ1 p1.toNatClampNeg) (fun x5 => ck (vp_in x5 4096) (nmd (m_links σ1 x5.toNatClampNeg) (fun x7 => bnp (fX1_in F p2 0 (x7 - 1)) (fun r8 => cIf (r8 = 0) (some (0, σ1)) (some (1, σ1)))))))))
set_option maxHeartbeats 4000000 in
set_option maxRecDepth 100000 in
theorem kX1_hasLink (l : Launch) (G : gT) (h0 : Nat) (h : (Nat → Nat)) (sz F : Nat) (σ : mS) (p1 : Int32) (p2 : Int32) (r : Int32) (σr : mS) (hg : fX1_hasLink F σ p1 p2 = some (r, σr)) : Met l yX1_hasLink wsX1_hasLink rX1_hasLink (mPre G h0 h σ sz [.int p1, .int p2]) (mQi G h0 h r σr (mA G h0 h σ sz)) 0 0 (mA G h0 h σ sz) := by
  refine mMet (Qc := mQi G h0 h r σr) (by decide +kernel) rfl rfl (Nat.le_of_ble_eq_true rfl) ?_
  intro p e s m args below meth c A S hr hlocks hK hA H locs hI ls hl
  have hl : lv_has ls 3 [(0, .ref h0), (1, .int p1), (2, .int p2)] := hl
  have hin : ∀ w ∈ wsX10, w ∈ wsX1_hasLink := in_ws
  have hx := S.1
  have hb := S.2.1
  have hts := S.2.2.2.2
  have hown := S.2.2.2.1
  unfold fX1_hasLink at hg
  refine lv_aload_n hx hb dX1_hasLink_0 rfl (lv_at hl 0 rfl) ?_
  refine lv_iload_n hx hb dX1_hasLink_1 rfl (lv_at hl 1 rfl) ?_
  obtain ⟨r2, σ1, er2, hg⟩ := bnd_e hg
  refine mc_i S hK hA hI (As := [.int p1]) (rest := []) (kX1_isBlock l G h0 h H.size F σ p1  r2 σ1 er2) (cwV 1 hts gX1_hasLink_X1_isBlock rfl rfl rfl nX1_isBlock ⟨Nat.le_of_ble_eq_true rfl, Nat.le_of_ble_eq_true rfl⟩) rfl hl.1 rfl (Nat.le_of_ble_eq_true rfl) dX1_hasLink_2 ⟨Nat.le_refl _, Nat.le_refl _⟩ (fun H locs hI => ?_)
  refine lv_if_eq (tgt := 33) hx hb dX1_hasLink_5 (by decide) (fun c3 => ?_) (fun c3 => ?_)
  · have hg := cIf_te c3 hg
    refine lv_iconst (v := 0) hx hb dX1_hasLink_33 (by decide) ?_
    exact me_z S hr hlocks hK hI rfl hg dX1_hasLink_34
  · have hg := cIf_fe c3 hg
    refine lv_iload_n hx hb dX1_hasLink_8 rfl (lv_at hl 2 rfl) ?_
    refine lv_iconst (v := 0) hx hb dX1_hasLink_9 (by decide) ?_
    refine lv_aload_n hx hb dX1_hasLink_10 rfl (lv_at hl 0 rfl) ?_
    refine mg_links S hin hK hI (ix := 20) (by decide +kernel) dX1_hasLink_11 ?_
    refine lv_aload_n hx hb dX1_hasLink_14 rfl (lv_at hl 0 rfl) ?_
    refine mg_root S hin hK hI (ix := 9) (by decide +kernel) dX1_hasLink_15 ?_
    refine lv_iload_n hx hb dX1_hasLink_18 rfl (lv_at hl 1 rfl) ?_
    obtain ⟨c4, hg⟩ := ck_e hg
    obtain ⟨x5, ex5, hg⟩ := nmd_e hg
    refine mr_root S hK hI c4 ex5 dX1_hasLink_19 ?_
    obtain ⟨c6, hg⟩ := ck_e hg
    obtain ⟨x7, ex7, hg⟩ := nmd_e hg
    refine mr_links S hK hI c6 ex7 dX1_hasLink_20 ?_
    refine lv_iconst (v := 1) hx hb dX1_hasLink_21 (by decide) ?_
    refine lv_isub hx hb dX1_hasLink_22 ?_
    obtain ⟨r8, er8, hg⟩ := bnp_e hg
    refine ms_i S hA hI (As := [.int p2, .int 0, .int (x7 - 1)]) (rest := []) (kX1_in l H.size F p2 0 (x7 - 1) r8 er8) (va_cwS 3 hts gX1_hasLink_X1_in rfl rfl rfl nX1_in ⟨Nat.le_of_ble_eq_true rfl, Nat.le_of_ble_eq_true rfl⟩) rfl hl.1 rfl (Nat.le_of_ble_eq_true rfl) dX1_hasLink_23 ⟨Nat.le_refl _, Nat.le_refl _⟩ (fun H locs hI => ?_)
    refine lv_if_eq (tgt := 33) hx hb dX1_hasLink_26 (by decide) (fun c9 => ?_) (fun c9 => ?_)
    · have hg := cIf_te c9 hg
      refine lv_iconst (v := 0) hx hb dX1_hasLink_33 (by decide) ?_
      exact me_z S hr hlocks hK hI rfl hg dX1_hasLink_34
    · have hg := cIf_fe c9 hg
      refine lv_iconst (v := 1) hx hb dX1_hasLink_29 (by decide) ?_
      refine lv_goto (tgt := 34) hx hb dX1_hasLink_30 (by decide) ?_
      exact me_z S hr hlocks hK hI rfl hg dX1_hasLink_34
-- OwnMemoryModel.hasValue
abbrev rX1_hasValue : Room := { frames := 3, cells := 0, slots := 0, locals := 63 }
theorem nX1_hasValue : yX1_hasValue.cls = RX1 ∧ yX1_hasValue.cls ≠ "java/lang/invoke/MethodHandle" ∧ yX1_hasValue.cls ≠ "java/lang/invoke/VarHandle" ∧ (parseMethodDescriptor yX1_hasValue.desc).map (fun d => d.parameters.length) = some 2 := by decide +kernel
noncomputable def fX1_hasValue (F : Nat) (σ : mS) (p1 : Int32) (p2 : Int32) : Option (Int32 × mS) := bnd (fX1_isBlock F σ p1) (fun r2 σ1 => cIf (r2 = 0) (some (0, σ1)) (ck (vp_in p1 24) (nmd (m_root σ1 p1.toNatClampNeg) (fun x5 => ck (vp_in x5 4096) (nmd (m_values σ1 x5.toNatClampNeg) (fun x7 => bnp (fX1_in F p2 0 (x7 - 1)) (fun r8 => cIf (r8 = 0) (some (0, σ1)) (some (1, σ1)))))))))
set_option maxHeartbeats 4000000 in
set_option maxRecDepth 100000 in
theorem kX1_hasValue (l : Launch) (G : gT) (h0 : Nat) (h : (Nat → Nat)) (sz F : Nat) (σ : mS) (p1 : Int32) (p2 : Int32) (r : Int32) (σr : mS) (hg : fX1_hasValue F σ p1 p2 = some (r, σr)) : Met l yX1_hasValue wsX1_hasValue rX1_hasValue (mPre G h0 h σ sz [.int p1, .int p2]) (mQi G h0 h r σr (mA G h0 h σ sz)) 0 0 (mA G h0 h σ sz) := by
  refine mMet (Qc := mQi G h0 h r σr) (by decide +kernel) rfl rfl (Nat.le_of_ble_eq_true rfl) ?_
  intro p e s m args below meth c A S hr hlocks hK hA H locs hI ls hl
  have hl : lv_has ls 3 [(0, .ref h0), (1, .int p1), (2, .int p2)] := hl
  have hin : ∀ w ∈ wsX10, w ∈ wsX1_hasValue := in_ws
  have hx := S.1
  have hb := S.2.1
  have hts := S.2.2.2.2
  have hown := S.2.2.2.1
  unfold fX1_hasValue at hg
  refine lv_aload_n hx hb dX1_hasValue_0 rfl (lv_at hl 0 rfl) ?_
  refine lv_iload_n hx hb dX1_hasValue_1 rfl (lv_at hl 1 rfl) ?_
  obtain ⟨r2, σ1, er2, hg⟩ := bnd_e hg
  refine mc_i S hK hA hI (As := [.int p1]) (rest := []) (kX1_isBlock l G h0 h H.size F σ p1  r2 σ1 er2) (cwV 1 hts gX1_hasValue_X1_isBlock rfl rfl rfl nX1_isBlock ⟨Nat.le_of_ble_eq_true rfl, Nat.le_of_ble_eq_true rfl⟩) rfl hl.1 rfl (Nat.le_of_ble_eq_true rfl) dX1_hasValue_2 ⟨Nat.le_refl _, Nat.le_refl _⟩ (fun H locs hI => ?_)
  refine lv_if_eq (tgt := 33) hx hb dX1_hasValue_5 (by decide) (fun c3 => ?_) (fun c3 => ?_)
  · have hg := cIf_te c3 hg
    refine lv_iconst (v := 0) hx hb dX1_hasValue_33 (by decide) ?_
    exact me_z S hr hlocks hK hI rfl hg dX1_hasValue_34
  · have hg := cIf_fe c3 hg
    refine lv_iload_n hx hb dX1_hasValue_8 rfl (lv_at hl 2 rfl) ?_
    refine lv_iconst (v := 0) hx hb dX1_hasValue_9 (by decide) ?_
    refine lv_aload_n hx hb dX1_hasValue_10 rfl (lv_at hl 0 rfl) ?_
    refine mg_values S hin hK hI (ix := 23) (by decide +kernel) dX1_hasValue_11 ?_
    refine lv_aload_n hx hb dX1_hasValue_14 rfl (lv_at hl 0 rfl) ?_
    refine mg_root S hin hK hI (ix := 9) (by decide +kernel) dX1_hasValue_15 ?_
    refine lv_iload_n hx hb dX1_hasValue_18 rfl (lv_at hl 1 rfl) ?_
    obtain ⟨c4, hg⟩ := ck_e hg
    obtain ⟨x5, ex5, hg⟩ := nmd_e hg
    refine mr_root S hK hI c4 ex5 dX1_hasValue_19 ?_
    obtain ⟨c6, hg⟩ := ck_e hg
    obtain ⟨x7, ex7, hg⟩ := nmd_e hg
    refine mr_values S hK hI c6 ex7 dX1_hasValue_20 ?_
    refine lv_iconst (v := 1) hx hb dX1_hasValue_21 (by decide) ?_
    refine lv_isub hx hb dX1_hasValue_22 ?_
    obtain ⟨r8, er8, hg⟩ := bnp_e hg
    refine ms_i S hA hI (As := [.int p2, .int 0, .int (x7 - 1)]) (rest := []) (kX1_in l H.size F p2 0 (x7 - 1) r8 er8) (va_cwS 3 hts gX1_hasValue_X1_in rfl rfl rfl nX1_in ⟨Nat.le_of_ble_eq_true rfl, Nat.le_of_ble_eq_true rfl⟩) rfl hl.1 rfl (Nat.le_of_ble_eq_true rfl) dX1_hasValue_23 ⟨Nat.le_refl _, Nat.le_refl _⟩ (fun H locs hI => ?_)
    refine lv_if_eq (tgt := 33) hx hb dX1_hasValue_26 (by decide) (fun c9 => ?_) (fun c9 => ?_)
    · have hg := cIf_te c9 hg
      refine lv_iconst (v := 0) hx hb dX1_hasValue_33 (by decide) ?_
      exact me_z S hr hlocks hK hI rfl hg dX1_hasValue_34
    · have hg := cIf_fe c9 hg
      refine lv_iconst (v := 1) hx hb dX1_hasValue_29 (by decide) ?_
      refine lv_goto (tgt := 34) hx hb dX1_hasValue_30 (by decide) ?_
      exact me_z S hr hlocks hK hI rfl hg dX1_hasValue_34
-- OwnMemoryModel.hasWord
abbrev rX1_hasWord : Room := { frames := 3, cells := 0, slots := 0, locals := 63 }
theorem nX1_hasWord : yX1_hasWord.cls = RX1 ∧ yX1_hasWord.cls ≠ "java/lang/invoke/MethodHandle" ∧ yX1_hasWord.cls ≠ "java/lang/invoke/VarHandle" ∧ (parseMethodDescriptor yX1_hasWord.desc).map (fun d => d.parameters.length) = some 2 := by decide +kernel
noncomputable def fX1_hasWord (F : Nat) (σ : mS) (p1 : Int32) (p2 : Int32) : Option (Int32 × mS) := bnd (fX1_isBlock F σ p1) (fun r2 σ1 => cIf (r2 = 0) (some (0, σ1)) (ck (vp_in p1 24) (nmd (m_root σ1 p1.toNatClampNeg) (fun x5 => ck (vp_in x5 4096) (nmd (m_plain σ1 x5.toNatClampNeg) (fun x7 => bnp (fX1_in F p2 0 (x7 - 1)) (fun r8 => cIf (r8 = 0) (some (0, σ1)) (some (1, σ1)))))))))
set_option maxHeartbeats 4000000 in
set_option maxRecDepth 100000 in
theorem kX1_hasWord (l : Launch) (G : gT) (h0 : Nat) (h : (Nat → Nat)) (sz F : Nat) (σ : mS) (p1 : Int32) (p2 : Int32) (r : Int32) (σr : mS) (hg : fX1_hasWord F σ p1 p2 = some (r, σr)) : Met l yX1_hasWord wsX1_hasWord rX1_hasWord (mPre G h0 h σ sz [.int p1, .int p2]) (mQi G h0 h r σr (mA G h0 h σ sz)) 0 0 (mA G h0 h σ sz) := by
  refine mMet (Qc := mQi G h0 h r σr) (by decide +kernel) rfl rfl (Nat.le_of_ble_eq_true rfl) ?_
  intro p e s m args below meth c A S hr hlocks hK hA H locs hI ls hl
  have hl : lv_has ls 3 [(0, .ref h0), (1, .int p1), (2, .int p2)] := hl
  have hin : ∀ w ∈ wsX10, w ∈ wsX1_hasWord := in_ws
  have hx := S.1
  have hb := S.2.1
  have hts := S.2.2.2.2
  have hown := S.2.2.2.1
  unfold fX1_hasWord at hg
  refine lv_aload_n hx hb dX1_hasWord_0 rfl (lv_at hl 0 rfl) ?_
  refine lv_iload_n hx hb dX1_hasWord_1 rfl (lv_at hl 1 rfl) ?_
  obtain ⟨r2, σ1, er2, hg⟩ := bnd_e hg
  refine mc_i S hK hA hI (As := [.int p1]) (rest := []) (kX1_isBlock l G h0 h H.size F σ p1  r2 σ1 er2) (cwV 1 hts gX1_hasWord_X1_isBlock rfl rfl rfl nX1_isBlock ⟨Nat.le_of_ble_eq_true rfl, Nat.le_of_ble_eq_true rfl⟩) rfl hl.1 rfl (Nat.le_of_ble_eq_true rfl) dX1_hasWord_2 ⟨Nat.le_refl _, Nat.le_refl _⟩ (fun H locs hI => ?_)
  refine lv_if_eq (tgt := 33) hx hb dX1_hasWord_5 (by decide) (fun c3 => ?_) (fun c3 => ?_)
  · have hg := cIf_te c3 hg
    refine lv_iconst (v := 0) hx hb dX1_hasWord_33 (by decide) ?_
    exact me_z S hr hlocks hK hI rfl hg dX1_hasWord_34
  · have hg := cIf_fe c3 hg
    refine lv_iload_n hx hb dX1_hasWord_8 rfl (lv_at hl 2 rfl) ?_
    refine lv_iconst (v := 0) hx hb dX1_hasWord_9 (by decide) ?_
    refine lv_aload_n hx hb dX1_hasWord_10 rfl (lv_at hl 0 rfl) ?_
    refine mg_plain S hin hK hI (ix := 26) (by decide +kernel) dX1_hasWord_11 ?_
    refine lv_aload_n hx hb dX1_hasWord_14 rfl (lv_at hl 0 rfl) ?_
    refine mg_root S hin hK hI (ix := 9) (by decide +kernel) dX1_hasWord_15 ?_
    refine lv_iload_n hx hb dX1_hasWord_18 rfl (lv_at hl 1 rfl) ?_
    obtain ⟨c4, hg⟩ := ck_e hg
    obtain ⟨x5, ex5, hg⟩ := nmd_e hg
    refine mr_root S hK hI c4 ex5 dX1_hasWord_19 ?_
    obtain ⟨c6, hg⟩ := ck_e hg
    obtain ⟨x7, ex7, hg⟩ := nmd_e hg
    refine mr_plain S hK hI c6 ex7 dX1_hasWord_20 ?_
    refine lv_iconst (v := 1) hx hb dX1_hasWord_21 (by decide) ?_
    refine lv_isub hx hb dX1_hasWord_22 ?_
    obtain ⟨r8, er8, hg⟩ := bnp_e hg
    refine ms_i S hA hI (As := [.int p2, .int 0, .int (x7 - 1)]) (rest := []) (kX1_in l H.size F p2 0 (x7 - 1) r8 er8) (va_cwS 3 hts gX1_hasWord_X1_in rfl rfl rfl nX1_in ⟨Nat.le_of_ble_eq_true rfl, Nat.le_of_ble_eq_true rfl⟩) rfl hl.1 rfl (Nat.le_of_ble_eq_true rfl) dX1_hasWord_23 ⟨Nat.le_refl _, Nat.le_refl _⟩ (fun H locs hI => ?_)
    refine lv_if_eq (tgt := 33) hx hb dX1_hasWord_26 (by decide) (fun c9 => ?_) (fun c9 => ?_)
    · have hg := cIf_te c9 hg
      refine lv_iconst (v := 0) hx hb dX1_hasWord_33 (by decide) ?_
      exact me_z S hr hlocks hK hI rfl hg dX1_hasWord_34
    · have hg := cIf_fe c9 hg
      refine lv_iconst (v := 1) hx hb dX1_hasWord_29 (by decide) ?_
      refine lv_goto (tgt := 34) hx hb dX1_hasWord_30 (by decide) ?_
      exact me_z S hr hlocks hK hI rfl hg dX1_hasWord_34
-- OwnMemoryModel.tie
abbrev rX1_tie : Room := { frames := 4, cells := 0, slots := 0, locals := 85 }
theorem nX1_tie : yX1_tie.cls = RX1 ∧ yX1_tie.cls ≠ "java/lang/invoke/MethodHandle" ∧ yX1_tie.cls ≠ "java/lang/invoke/VarHandle" ∧ (parseMethodDescriptor yX1_tie.desc).map (fun d => d.parameters.length) = some 3 := by decide +kernel
noncomputable def JX1_tie_22 (F : Nat) (σ : mS) (v1 : Int32) (v2 : Int32) (v3 : Int32) (t1 : Int32) : Option mS := bnd (fX1_says F σ t1) (fun r5 σ4 => cIf (r5 = 0) (some σ4) (ck (vp_in v1 24) (nmd (m_root σ4 v1.toNatClampNeg) (fun x8 => ck (vp_in v3 24) (nmd (m_root σ4 v3.toNatClampNeg) (fun x10 => ck (vp_in ((8 * x8) + v2) 32768) (nmd (m_s_link σ4 (upd (m_link σ4) ((8 * x8) + v2).toNatClampNeg x10)) (fun σ12 => some σ12))))))))
noncomputable def JX1_tie_21 (F : Nat) (σ : mS) (v1 : Int32) (v2 : Int32) (v3 : Int32) : Option mS := JX1_tie_22 F σ v1 v2 v3 0
noncomputable def fX1_tie (F : Nat) (σ : mS) (p1 : Int32) (p2 : Int32) (p3 : Int32) : Option mS := bnd (fX1_hasLink F σ p1 p2) (fun r2 σ1 => cIf (r2 = 0) (JX1_tie_21 F σ1 p1 p2 p3) (bnp (fX1_isRoot F p3) (fun r13 => cIf (r13 = 0) (JX1_tie_21 F σ1 p1 p2 p3) (JX1_tie_22 F σ1 p1 p2 p3 1))))
set_option maxHeartbeats 4000000 in
set_option maxRecDepth 100000 in
theorem jX1_tie_22 {p : Program} {l : Launch} {e : Env} {s : State} {m : MethodId} {args : Array Value} {below : List Frame} {meth : Method} {c : Code} {A : Nat → Prop} {G : gT} {h0 : Nat} {h : (Nat → Nat)} {F : Nat} (S : CallFix p m c cX1_tie 4 s args wsX1_tie RX1) (hr : meth.sig.returnType = none) (hlocks : meth.locks = false) (hin : ∀ w ∈ wsX10, w ∈ wsX1_tie) (hK : gK G s) (hA : ∀ q, s.heap.size ≤ q → A q) {res : mS} (σ : mS) (v1 : Int32) (v2 : Int32) (v3 : Int32) (t1 : Int32) (H : Heap) (locs : List Loc) (ls : Array Slot) (hg : JX1_tie_22 F σ v1 v2 v3 t1 = some res) (hI : mI s A G h0 h σ H locs) (hl : lv_has ls 4 [(0, .ref h0), (1, .int v1), (2, .int v2), (3, .int v3)]) : W p l e rX1_tie s m args below meth c H locs 0 0 (MQ below (mQv G h0 h res A) args s 0 0 A) (F0 m 22 ls [.int t1, .ref h0]) := by
  have hx := S.1
  have hb := S.2.1
  have hts := S.2.2.2.2
  have hown := S.2.2.2.1
  unfold JX1_tie_22 at hg
  obtain ⟨r5, σ4, er5, hg⟩ := bnd_e hg
  refine mc_i S hK hA hI (As := [.int t1]) (rest := []) (kX1_says l G h0 h H.size F σ t1  r5 σ4 er5) (cwV 1 hts gX1_tie_X1_says rfl rfl rfl nX1_says ⟨Nat.le_of_ble_eq_true rfl, Nat.le_of_ble_eq_true rfl⟩) rfl hl.1 rfl (Nat.le_of_ble_eq_true rfl) dX1_tie_22 ⟨Nat.le_refl _, Nat.le_refl _⟩ (fun H locs hI => ?_)
  refine lv_if_eq (tgt := 50) hx hb dX1_tie_25 (by decide) (fun c6 => ?_) (fun c6 => ?_)
  · have hg := cIf_te c6 hg
    exact me_v S hr hlocks hK hI hg dX1_tie_50
  · have hg := cIf_fe c6 hg
    refine lv_aload_n hx hb dX1_tie_28 rfl (lv_at hl 0 rfl) ?_
    refine mg_link S hin hK hI (ix := 30) (by decide +kernel) dX1_tie_29 ?_
    refine lv_bipush (v := 8) hx hb dX1_tie_32 (by decide) ?_
    refine lv_aload_n hx hb dX1_tie_34 rfl (lv_at hl 0 rfl) ?_
    refine mg_root S hin hK hI (ix := 9) (by decide +kernel) dX1_tie_35 ?_
    refine lv_iload_n hx hb dX1_tie_38 rfl (lv_at hl 1 rfl) ?_
    obtain ⟨c7, hg⟩ := ck_e hg
    obtain ⟨x8, ex8, hg⟩ := nmd_e hg
    refine mr_root S hK hI c7 ex8 dX1_tie_39 ?_
    refine lv_imul hx hb dX1_tie_40 ?_
    refine lv_iload_n hx hb dX1_tie_41 rfl (lv_at hl 2 rfl) ?_
    refine lv_iadd hx hb dX1_tie_42 ?_
    refine lv_aload_n hx hb dX1_tie_43 rfl (lv_at hl 0 rfl) ?_
    refine mg_root S hin hK hI (ix := 9) (by decide +kernel) dX1_tie_44 ?_
    refine lv_iload_n hx hb dX1_tie_47 rfl (lv_at hl 3 rfl) ?_
    obtain ⟨c9, hg⟩ := ck_e hg
    obtain ⟨x10, ex10, hg⟩ := nmd_e hg
    refine mr_root S hK hI c9 ex10 dX1_tie_48 ?_
    obtain ⟨c11, hg⟩ := ck_e hg
    obtain ⟨σ12, eσ12, hg⟩ := nmd_e hg
    refine mu_link S hK hI c11 eσ12 dX1_tie_49 (fun H locs hI => ?_)
    exact me_v S hr hlocks hK hI hg dX1_tie_50
set_option maxHeartbeats 4000000 in
set_option maxRecDepth 100000 in
theorem jX1_tie_21 {p : Program} {l : Launch} {e : Env} {s : State} {m : MethodId} {args : Array Value} {below : List Frame} {meth : Method} {c : Code} {A : Nat → Prop} {G : gT} {h0 : Nat} {h : (Nat → Nat)} {F : Nat} (S : CallFix p m c cX1_tie 4 s args wsX1_tie RX1) (hr : meth.sig.returnType = none) (hlocks : meth.locks = false) (hin : ∀ w ∈ wsX10, w ∈ wsX1_tie) (hK : gK G s) (hA : ∀ q, s.heap.size ≤ q → A q) {res : mS} (σ : mS) (v1 : Int32) (v2 : Int32) (v3 : Int32) (H : Heap) (locs : List Loc) (ls : Array Slot) (hg : JX1_tie_21 F σ v1 v2 v3 = some res) (hI : mI s A G h0 h σ H locs) (hl : lv_has ls 4 [(0, .ref h0), (1, .int v1), (2, .int v2), (3, .int v3)]) : W p l e rX1_tie s m args below meth c H locs 0 0 (MQ below (mQv G h0 h res A) args s 0 0 A) (F0 m 21 ls [.ref h0]) := by
  have hx := S.1
  have hb := S.2.1
  have hts := S.2.2.2.2
  have hown := S.2.2.2.1
  unfold JX1_tie_21 at hg
  refine lv_iconst (v := 0) hx hb dX1_tie_21 (by decide) ?_
  exact jX1_tie_22 S hr hlocks hin hK hA σ v1 v2 v3 0 H locs ls hg hI (lv_sub hl [0, 1, 2, 3] rfl)
set_option maxHeartbeats 4000000 in
set_option maxRecDepth 100000 in
theorem kX1_tie (l : Launch) (G : gT) (h0 : Nat) (h : (Nat → Nat)) (sz F : Nat) (σ : mS) (p1 : Int32) (p2 : Int32) (p3 : Int32) (σr : mS) (hg : fX1_tie F σ p1 p2 p3 = some σr) : Met l yX1_tie wsX1_tie rX1_tie (mPre G h0 h σ sz [.int p1, .int p2, .int p3]) (mQv G h0 h σr (mA G h0 h σ sz)) 0 0 (mA G h0 h σ sz) := by
  refine mMet (Qc := mQv G h0 h σr) (by decide +kernel) rfl rfl (Nat.le_of_ble_eq_true rfl) ?_
  intro p e s m args below meth c A S hr hlocks hK hA H locs hI ls hl
  have hl : lv_has ls 4 [(0, .ref h0), (1, .int p1), (2, .int p2), (3, .int p3)] := hl
  have hin : ∀ w ∈ wsX10, w ∈ wsX1_tie := in_ws
  have hx := S.1
  have hb := S.2.1
  have hts := S.2.2.2.2
  have hown := S.2.2.2.1
  unfold fX1_tie at hg
  refine lv_aload_n hx hb dX1_tie_0 rfl (lv_at hl 0 rfl) ?_
  refine lv_aload_n hx hb dX1_tie_1 rfl (lv_at hl 0 rfl) ?_
  refine lv_iload_n hx hb dX1_tie_2 rfl (lv_at hl 1 rfl) ?_
  refine lv_iload_n hx hb dX1_tie_3 rfl (lv_at hl 2 rfl) ?_
  obtain ⟨r2, σ1, er2, hg⟩ := bnd_e hg
  refine mc_i S hK hA hI (As := [.int p1, .int p2]) (rest := [.ref h0]) (kX1_hasLink l G h0 h H.size F σ p1 p2  r2 σ1 er2) (cwV 2 hts gX1_tie_X1_hasLink rfl rfl rfl nX1_hasLink ⟨Nat.le_of_ble_eq_true rfl, Nat.le_of_ble_eq_true rfl⟩) rfl hl.1 rfl (Nat.le_of_ble_eq_true rfl) dX1_tie_4 ⟨Nat.le_refl _, Nat.le_refl _⟩ (fun H locs hI => ?_)
  refine lv_if_eq (tgt := 21) hx hb dX1_tie_7 (by decide) (fun c3 => ?_) (fun c3 => ?_)
  · have hg := cIf_te c3 hg
    exact jX1_tie_21 S hr hlocks hin hK hA σ1 p1 p2 p3 H locs ls hg hI (lv_sub hl [0, 1, 2, 3] rfl)
  · have hg := cIf_fe c3 hg
    refine lv_iload_n hx hb dX1_tie_10 rfl (lv_at hl 3 rfl) ?_
    obtain ⟨r13, er13, hg⟩ := bnp_e hg
    refine ms_i S hA hI (As := [.int p3]) (rest := [.ref h0]) (kX1_isRoot l H.size F p3 r13 er13) (va_cwS 1 hts gX1_tie_X1_isRoot rfl rfl rfl nX1_isRoot ⟨Nat.le_of_ble_eq_true rfl, Nat.le_of_ble_eq_true rfl⟩) rfl hl.1 rfl (Nat.le_of_ble_eq_true rfl) dX1_tie_11 ⟨Nat.le_refl _, Nat.le_refl _⟩ (fun H locs hI => ?_)
    refine lv_if_eq (tgt := 21) hx hb dX1_tie_14 (by decide) (fun c14 => ?_) (fun c14 => ?_)
    · have hg := cIf_te c14 hg
      exact jX1_tie_21 S hr hlocks hin hK hA σ1 p1 p2 p3 H locs ls hg hI (lv_sub hl [0, 1, 2, 3] rfl)
    · have hg := cIf_fe c14 hg
      refine lv_iconst (v := 1) hx hb dX1_tie_17 (by decide) ?_
      refine lv_goto (tgt := 22) hx hb dX1_tie_18 (by decide) ?_
      exact jX1_tie_22 S hr hlocks hin hK hA σ1 p1 p2 p3 1 H locs ls hg hI (lv_sub hl [0, 1, 2, 3] rfl)
-- OwnMemoryModel.lead
abbrev rX1_lead : Room := { frames := 4, cells := 0, slots := 0, locals := 85 }
theorem nX1_lead : yX1_lead.cls = RX1 ∧ yX1_lead.cls ≠ "java/lang/invoke/MethodHandle" ∧ yX1_lead.cls ≠ "java/lang/invoke/VarHandle" ∧ (parseMethodDescriptor yX1_lead.desc).map (fun d => d.parameters.length) = some 3 := by decide +kernel
noncomputable def JX1_lead_22 (F : Nat) (σ : mS) (v1 : Int32) (v2 : Int32) (v3 : Int32) (t1 : Int32) : Option mS := bnd (fX1_says F σ t1) (fun r5 σ4 => cIf (r5 = 0) (some σ4) (ck (vp_in v1 24) (nmd (m_root σ4 v1.toNatClampNeg) (fun x8 => ck (vp_in ((8 * x8) + v2) 32768) (nmd (m_link σ4 ((8 * x8) + v2).toNatClampNeg) (fun x10 => ck (vp_in v3 24) (nmd (m_s_root σ4 (upd (m_root σ4) v3.toNatClampNeg x10)) (fun σ12 => some σ12))))))))
noncomputable def JX1_lead_21 (F : Nat) (σ : mS) (v1 : Int32) (v2 : Int32) (v3 : Int32) : Option mS := JX1_lead_22 F σ v1 v2 v3 0
noncomputable def fX1_lead (F : Nat) (σ : mS) (p1 : Int32) (p2 : Int32) (p3 : Int32) : Option mS := bnd (fX1_hasLink F σ p1 p2) (fun r2 σ1 => cIf (r2 = 0) (JX1_lead_21 F σ1 p1 p2 p3) (bnp (fX1_isRoot F p3) (fun r13 => cIf (r13 = 0) (JX1_lead_21 F σ1 p1 p2 p3) (JX1_lead_22 F σ1 p1 p2 p3 1))))
set_option maxHeartbeats 4000000 in
set_option maxRecDepth 100000 in
theorem jX1_lead_22 {p : Program} {l : Launch} {e : Env} {s : State} {m : MethodId} {args : Array Value} {below : List Frame} {meth : Method} {c : Code} {A : Nat → Prop} {G : gT} {h0 : Nat} {h : (Nat → Nat)} {F : Nat} (S : CallFix p m c cX1_lead 4 s args wsX1_lead RX1) (hr : meth.sig.returnType = none) (hlocks : meth.locks = false) (hin : ∀ w ∈ wsX10, w ∈ wsX1_lead) (hK : gK G s) (hA : ∀ q, s.heap.size ≤ q → A q) {res : mS} (σ : mS) (v1 : Int32) (v2 : Int32) (v3 : Int32) (t1 : Int32) (H : Heap) (locs : List Loc) (ls : Array Slot) (hg : JX1_lead_22 F σ v1 v2 v3 t1 = some res) (hI : mI s A G h0 h σ H locs) (hl : lv_has ls 4 [(0, .ref h0), (1, .int v1), (2, .int v2), (3, .int v3)]) : W p l e rX1_lead s m args below meth c H locs 0 0 (MQ below (mQv G h0 h res A) args s 0 0 A) (F0 m 22 ls [.int t1, .ref h0]) := by
  have hx := S.1
  have hb := S.2.1
  have hts := S.2.2.2.2
  have hown := S.2.2.2.1
  unfold JX1_lead_22 at hg
  obtain ⟨r5, σ4, er5, hg⟩ := bnd_e hg
  refine mc_i S hK hA hI (As := [.int t1]) (rest := []) (kX1_says l G h0 h H.size F σ t1  r5 σ4 er5) (cwV 1 hts gX1_lead_X1_says rfl rfl rfl nX1_says ⟨Nat.le_of_ble_eq_true rfl, Nat.le_of_ble_eq_true rfl⟩) rfl hl.1 rfl (Nat.le_of_ble_eq_true rfl) dX1_lead_22 ⟨Nat.le_refl _, Nat.le_refl _⟩ (fun H locs hI => ?_)
  refine lv_if_eq (tgt := 50) hx hb dX1_lead_25 (by decide) (fun c6 => ?_) (fun c6 => ?_)
  · have hg := cIf_te c6 hg
    exact me_v S hr hlocks hK hI hg dX1_lead_50
  · have hg := cIf_fe c6 hg
    refine lv_aload_n hx hb dX1_lead_28 rfl (lv_at hl 0 rfl) ?_
    refine mg_root S hin hK hI (ix := 9) (by decide +kernel) dX1_lead_29 ?_
    refine lv_iload_n hx hb dX1_lead_32 rfl (lv_at hl 3 rfl) ?_
    refine lv_aload_n hx hb dX1_lead_33 rfl (lv_at hl 0 rfl) ?_
    refine mg_link S hin hK hI (ix := 30) (by decide +kernel) dX1_lead_34 ?_
    refine lv_bipush (v := 8) hx hb dX1_lead_37 (by decide) ?_
    refine lv_aload_n hx hb dX1_lead_39 rfl (lv_at hl 0 rfl) ?_
    refine mg_root S hin hK hI (ix := 9) (by decide +kernel) dX1_lead_40 ?_
    refine lv_iload_n hx hb dX1_lead_43 rfl (lv_at hl 1 rfl) ?_
    obtain ⟨c7, hg⟩ := ck_e hg
    obtain ⟨x8, ex8, hg⟩ := nmd_e hg
    refine mr_root S hK hI c7 ex8 dX1_lead_44 ?_
    refine lv_imul hx hb dX1_lead_45 ?_
    refine lv_iload_n hx hb dX1_lead_46 rfl (lv_at hl 2 rfl) ?_
    refine lv_iadd hx hb dX1_lead_47 ?_
    obtain ⟨c9, hg⟩ := ck_e hg
    obtain ⟨x10, ex10, hg⟩ := nmd_e hg
    refine mr_link S hK hI c9 ex10 dX1_lead_48 ?_
    obtain ⟨c11, hg⟩ := ck_e hg
    obtain ⟨σ12, eσ12, hg⟩ := nmd_e hg
    refine mu_root S hK hI c11 eσ12 dX1_lead_49 (fun H locs hI => ?_)
    exact me_v S hr hlocks hK hI hg dX1_lead_50
set_option maxHeartbeats 4000000 in
set_option maxRecDepth 100000 in
theorem jX1_lead_21 {p : Program} {l : Launch} {e : Env} {s : State} {m : MethodId} {args : Array Value} {below : List Frame} {meth : Method} {c : Code} {A : Nat → Prop} {G : gT} {h0 : Nat} {h : (Nat → Nat)} {F : Nat} (S : CallFix p m c cX1_lead 4 s args wsX1_lead RX1) (hr : meth.sig.returnType = none) (hlocks : meth.locks = false) (hin : ∀ w ∈ wsX10, w ∈ wsX1_lead) (hK : gK G s) (hA : ∀ q, s.heap.size ≤ q → A q) {res : mS} (σ : mS) (v1 : Int32) (v2 : Int32) (v3 : Int32) (H : Heap) (locs : List Loc) (ls : Array Slot) (hg : JX1_lead_21 F σ v1 v2 v3 = some res) (hI : mI s A G h0 h σ H locs) (hl : lv_has ls 4 [(0, .ref h0), (1, .int v1), (2, .int v2), (3, .int v3)]) : W p l e rX1_lead s m args below meth c H locs 0 0 (MQ below (mQv G h0 h res A) args s 0 0 A) (F0 m 21 ls [.ref h0]) := by
  have hx := S.1
  have hb := S.2.1
  have hts := S.2.2.2.2
  have hown := S.2.2.2.1
  unfold JX1_lead_21 at hg
  refine lv_iconst (v := 0) hx hb dX1_lead_21 (by decide) ?_
  exact jX1_lead_22 S hr hlocks hin hK hA σ v1 v2 v3 0 H locs ls hg hI (lv_sub hl [0, 1, 2, 3] rfl)
set_option maxHeartbeats 4000000 in
set_option maxRecDepth 100000 in
theorem kX1_lead (l : Launch) (G : gT) (h0 : Nat) (h : (Nat → Nat)) (sz F : Nat) (σ : mS) (p1 : Int32) (p2 : Int32) (p3 : Int32) (σr : mS) (hg : fX1_lead F σ p1 p2 p3 = some σr) : Met l yX1_lead wsX1_lead rX1_lead (mPre G h0 h σ sz [.int p1, .int p2, .int p3]) (mQv G h0 h σr (mA G h0 h σ sz)) 0 0 (mA G h0 h σ sz) := by
  refine mMet (Qc := mQv G h0 h σr) (by decide +kernel) rfl rfl (Nat.le_of_ble_eq_true rfl) ?_
  intro p e s m args below meth c A S hr hlocks hK hA H locs hI ls hl
  have hl : lv_has ls 4 [(0, .ref h0), (1, .int p1), (2, .int p2), (3, .int p3)] := hl
  have hin : ∀ w ∈ wsX10, w ∈ wsX1_lead := in_ws
  have hx := S.1
  have hb := S.2.1
  have hts := S.2.2.2.2
  have hown := S.2.2.2.1
  unfold fX1_lead at hg
  refine lv_aload_n hx hb dX1_lead_0 rfl (lv_at hl 0 rfl) ?_
  refine lv_aload_n hx hb dX1_lead_1 rfl (lv_at hl 0 rfl) ?_
  refine lv_iload_n hx hb dX1_lead_2 rfl (lv_at hl 1 rfl) ?_
  refine lv_iload_n hx hb dX1_lead_3 rfl (lv_at hl 2 rfl) ?_
  obtain ⟨r2, σ1, er2, hg⟩ := bnd_e hg
  refine mc_i S hK hA hI (As := [.int p1, .int p2]) (rest := [.ref h0]) (kX1_hasLink l G h0 h H.size F σ p1 p2  r2 σ1 er2) (cwV 2 hts gX1_lead_X1_hasLink rfl rfl rfl nX1_hasLink ⟨Nat.le_of_ble_eq_true rfl, Nat.le_of_ble_eq_true rfl⟩) rfl hl.1 rfl (Nat.le_of_ble_eq_true rfl) dX1_lead_4 ⟨Nat.le_refl _, Nat.le_refl _⟩ (fun H locs hI => ?_)
  refine lv_if_eq (tgt := 21) hx hb dX1_lead_7 (by decide) (fun c3 => ?_) (fun c3 => ?_)
  · have hg := cIf_te c3 hg
    exact jX1_lead_21 S hr hlocks hin hK hA σ1 p1 p2 p3 H locs ls hg hI (lv_sub hl [0, 1, 2, 3] rfl)
  · have hg := cIf_fe c3 hg
    refine lv_iload_n hx hb dX1_lead_10 rfl (lv_at hl 3 rfl) ?_
    obtain ⟨r13, er13, hg⟩ := bnp_e hg
    refine ms_i S hA hI (As := [.int p3]) (rest := [.ref h0]) (kX1_isRoot l H.size F p3 r13 er13) (va_cwS 1 hts gX1_lead_X1_isRoot rfl rfl rfl nX1_isRoot ⟨Nat.le_of_ble_eq_true rfl, Nat.le_of_ble_eq_true rfl⟩) rfl hl.1 rfl (Nat.le_of_ble_eq_true rfl) dX1_lead_11 ⟨Nat.le_refl _, Nat.le_refl _⟩ (fun H locs hI => ?_)
    refine lv_if_eq (tgt := 21) hx hb dX1_lead_14 (by decide) (fun c14 => ?_) (fun c14 => ?_)
    · have hg := cIf_te c14 hg
      exact jX1_lead_21 S hr hlocks hin hK hA σ1 p1 p2 p3 H locs ls hg hI (lv_sub hl [0, 1, 2, 3] rfl)
    · have hg := cIf_fe c14 hg
      refine lv_iconst (v := 1) hx hb dX1_lead_17 (by decide) ?_
      refine lv_goto (tgt := 22) hx hb dX1_lead_18 (by decide) ?_
      exact jX1_lead_22 S hr hlocks hin hK hA σ1 p1 p2 p3 1 H locs ls hg hI (lv_sub hl [0, 1, 2, 3] rfl)
-- OwnMemoryModel.number
abbrev rX1_number : Room := { frames := 4, cells := 0, slots := 0, locals := 85 }
theorem nX1_number : yX1_number.cls = RX1 ∧ yX1_number.cls ≠ "java/lang/invoke/MethodHandle" ∧ yX1_number.cls ≠ "java/lang/invoke/VarHandle" ∧ (parseMethodDescriptor yX1_number.desc).map (fun d => d.parameters.length) = some 3 := by decide +kernel
noncomputable def JX1_number_26 (F : Nat) (σ : mS) (v1 : Int32) (v2 : Int32) (v3 : Int64) (t1 : Int32) : Option mS := bnd (fX1_says F σ t1) (fun r5 σ4 => cIf (r5 = 0) (some σ4) (ck (vp_in v1 24) (nmd (m_root σ4 v1.toNatClampNeg) (fun x8 => ck (vp_in ((8 * x8) + v2) 32768) (nmd (m_s_number σ4 (vp_updL (m_number σ4) ((8 * x8) + v2).toNatClampNeg v3)) (fun σ10 => ck (vp_in v1 24) (nmd (m_root σ10 v1.toNatClampNeg) (fun x12 => ck (vp_in ((8 * x12) + v2) 32768) (nmd (m_s_refers σ10 (upd (m_refers σ10) ((8 * x12) + v2).toNatClampNeg 0)) (fun σ14 => some σ14))))))))))
noncomputable def JX1_number_25 (F : Nat) (σ : mS) (v1 : Int32) (v2 : Int32) (v3 : Int64) : Option mS := JX1_number_26 F σ v1 v2 v3 0
noncomputable def fX1_number (F : Nat) (σ : mS) (p1 : Int32) (p2 : Int32) (p3 : Int64) : Option mS := bnd (fX1_hasValue F σ p1 p2) (fun r2 σ1 => cIf (r2 = 0) (JX1_number_25 F σ1 p1 p2 p3) (cIf ((lg_cmp ((p3.toUInt64 >>> ((48 : Int32).toInt64.toUInt64 &&& Int64.toUInt64 63)).toInt64) 65530) = 0) (JX1_number_25 F σ1 p1 p2 p3) (JX1_number_26 F σ1 p1 p2 p3 1)))
set_option maxHeartbeats 4000000 in
set_option maxRecDepth 100000 in
theorem jX1_number_26 {p : Program} {l : Launch} {e : Env} {s : State} {m : MethodId} {args : Array Value} {below : List Frame} {meth : Method} {c : Code} {A : Nat → Prop} {G : gT} {h0 : Nat} {h : (Nat → Nat)} {F : Nat} (S : CallFix p m c cX1_number 5 s args wsX1_number RX1) (hr : meth.sig.returnType = none) (hlocks : meth.locks = false) (hin : ∀ w ∈ wsX10, w ∈ wsX1_number) (hK : gK G s) (hA : ∀ q, s.heap.size ≤ q → A q) {res : mS} (σ : mS) (v1 : Int32) (v2 : Int32) (v3 : Int64) (t1 : Int32) (H : Heap) (locs : List Loc) (ls : Array Slot) (hg : JX1_number_26 F σ v1 v2 v3 t1 = some res) (hI : mI s A G h0 h σ H locs) (hl : lv_has ls 5 [(0, .ref h0), (1, .int v1), (2, .int v2), (3, .long v3)]) : W p l e rX1_number s m args below meth c H locs 0 0 (MQ below (mQv G h0 h res A) args s 0 0 A) (F0 m 26 ls [.int t1, .ref h0]) := by
  have hx := S.1
  have hb := S.2.1
  have hts := S.2.2.2.2
  have hown := S.2.2.2.1
  unfold JX1_number_26 at hg
  obtain ⟨r5, σ4, er5, hg⟩ := bnd_e hg
  refine mc_i S hK hA hI (As := [.int t1]) (rest := []) (kX1_says l G h0 h H.size F σ t1  r5 σ4 er5) (cwV 1 hts gX1_number_X1_says rfl rfl rfl nX1_says ⟨Nat.le_of_ble_eq_true rfl, Nat.le_of_ble_eq_true rfl⟩) rfl hl.1 rfl (Nat.le_of_ble_eq_true rfl) dX1_number_26 ⟨Nat.le_refl _, Nat.le_refl _⟩ (fun H locs hI => ?_)
  refine lv_if_ne (tgt := 33) hx hb dX1_number_29 (by decide) (fun c6 => ?_) (fun c6 => ?_)
  · have hg := cIf_fe c6 hg
    refine lv_aload_n hx hb dX1_number_33 rfl (lv_at hl 0 rfl) ?_
    refine mg_number S hin hK hI (ix := 33) (by decide +kernel) dX1_number_34 ?_
    refine lv_bipush (v := 8) hx hb dX1_number_37 (by decide) ?_
    refine lv_aload_n hx hb dX1_number_39 rfl (lv_at hl 0 rfl) ?_
    refine mg_root S hin hK hI (ix := 9) (by decide +kernel) dX1_number_40 ?_
    refine lv_iload_n hx hb dX1_number_43 rfl (lv_at hl 1 rfl) ?_
    obtain ⟨c7, hg⟩ := ck_e hg
    obtain ⟨x8, ex8, hg⟩ := nmd_e hg
    refine mr_root S hK hI c7 ex8 dX1_number_44 ?_
    refine lv_imul hx hb dX1_number_45 ?_
    refine lv_iload_n hx hb dX1_number_46 rfl (lv_at hl 2 rfl) ?_
    refine lv_iadd hx hb dX1_number_47 ?_
    refine lv_lload_n hx hb dX1_number_48 rfl (lv_at hl 3 rfl) ?_
    obtain ⟨c9, hg⟩ := ck_e hg
    obtain ⟨σ10, eσ10, hg⟩ := nmd_e hg
    refine mu_number S hK hI c9 eσ10 dX1_number_49 (fun H locs hI => ?_)
    refine lv_aload_n hx hb dX1_number_50 rfl (lv_at hl 0 rfl) ?_
    refine mg_refers S hin hK hI (ix := 37) (by decide +kernel) dX1_number_51 ?_
    refine lv_bipush (v := 8) hx hb dX1_number_54 (by decide) ?_
    refine lv_aload_n hx hb dX1_number_56 rfl (lv_at hl 0 rfl) ?_
    refine mg_root S hin hK hI (ix := 9) (by decide +kernel) dX1_number_57 ?_
    refine lv_iload_n hx hb dX1_number_60 rfl (lv_at hl 1 rfl) ?_
    obtain ⟨c11, hg⟩ := ck_e hg
    obtain ⟨x12, ex12, hg⟩ := nmd_e hg
    refine mr_root S hK hI c11 ex12 dX1_number_61 ?_
    refine lv_imul hx hb dX1_number_62 ?_
    refine lv_iload_n hx hb dX1_number_63 rfl (lv_at hl 2 rfl) ?_
    refine lv_iadd hx hb dX1_number_64 ?_
    refine lv_iconst (v := 0) hx hb dX1_number_65 (by decide) ?_
    obtain ⟨c13, hg⟩ := ck_e hg
    obtain ⟨σ14, eσ14, hg⟩ := nmd_e hg
    refine mu_refers S hK hI c13 eσ14 dX1_number_66 (fun H locs hI => ?_)
    exact me_v S hr hlocks hK hI hg dX1_number_67
  · have hg := cIf_te c6 hg
    exact me_v S hr hlocks hK hI hg dX1_number_32
set_option maxHeartbeats 4000000 in
set_option maxRecDepth 100000 in
theorem jX1_number_25 {p : Program} {l : Launch} {e : Env} {s : State} {m : MethodId} {args : Array Value} {below : List Frame} {meth : Method} {c : Code} {A : Nat → Prop} {G : gT} {h0 : Nat} {h : (Nat → Nat)} {F : Nat} (S : CallFix p m c cX1_number 5 s args wsX1_number RX1) (hr : meth.sig.returnType = none) (hlocks : meth.locks = false) (hin : ∀ w ∈ wsX10, w ∈ wsX1_number) (hK : gK G s) (hA : ∀ q, s.heap.size ≤ q → A q) {res : mS} (σ : mS) (v1 : Int32) (v2 : Int32) (v3 : Int64) (H : Heap) (locs : List Loc) (ls : Array Slot) (hg : JX1_number_25 F σ v1 v2 v3 = some res) (hI : mI s A G h0 h σ H locs) (hl : lv_has ls 5 [(0, .ref h0), (1, .int v1), (2, .int v2), (3, .long v3)]) : W p l e rX1_number s m args below meth c H locs 0 0 (MQ below (mQv G h0 h res A) args s 0 0 A) (F0 m 25 ls [.ref h0]) := by
  have hx := S.1
  have hb := S.2.1
  have hts := S.2.2.2.2
  have hown := S.2.2.2.1
  unfold JX1_number_25 at hg
  refine lv_iconst (v := 0) hx hb dX1_number_25 (by decide) ?_
  exact jX1_number_26 S hr hlocks hin hK hA σ v1 v2 v3 0 H locs ls hg hI (lv_sub hl [0, 1, 2, 3] rfl)
set_option maxHeartbeats 4000000 in
set_option maxRecDepth 100000 in
theorem kX1_number (l : Launch) (G : gT) (h0 : Nat) (h : (Nat → Nat)) (sz F : Nat) (σ : mS) (p1 : Int32) (p2 : Int32) (p3 : Int64) (σr : mS) (hg : fX1_number F σ p1 p2 p3 = some σr) : Met l yX1_number wsX1_number rX1_number (mPre G h0 h σ sz [.int p1, .int p2, .long p3]) (mQv G h0 h σr (mA G h0 h σ sz)) 0 0 (mA G h0 h σ sz) := by
  refine mMet (Qc := mQv G h0 h σr) (by decide +kernel) rfl rfl (Nat.le_of_ble_eq_true rfl) ?_
  intro p e s m args below meth c A S hr hlocks hK hA H locs hI ls hl
  have hl : lv_has ls 5 [(0, .ref h0), (1, .int p1), (2, .int p2), (3, .long p3)] := hl
  have hin : ∀ w ∈ wsX10, w ∈ wsX1_number := by decide +kernel
  have hx := S.1
  have hb := S.2.1
  have hts := S.2.2.2.2
  have hown := S.2.2.2.1
  unfold fX1_number at hg
  refine lv_aload_n hx hb dX1_number_0 rfl (lv_at hl 0 rfl) ?_
  refine lv_aload_n hx hb dX1_number_1 rfl (lv_at hl 0 rfl) ?_
  refine lv_iload_n hx hb dX1_number_2 rfl (lv_at hl 1 rfl) ?_
  refine lv_iload_n hx hb dX1_number_3 rfl (lv_at hl 2 rfl) ?_
  obtain ⟨r2, σ1, er2, hg⟩ := bnd_e hg
  refine mc_i S hK hA hI (As := [.int p1, .int p2]) (rest := [.ref h0]) (kX1_hasValue l G h0 h H.size F σ p1 p2  r2 σ1 er2) (cwV 2 hts gX1_number_X1_hasValue rfl rfl rfl nX1_hasValue ⟨Nat.le_of_ble_eq_true rfl, Nat.le_of_ble_eq_true rfl⟩) rfl hl.1 rfl (Nat.le_of_ble_eq_true rfl) dX1_number_4 ⟨Nat.le_refl _, Nat.le_refl _⟩ (fun H locs hI => ?_)
  refine lv_if_eq (tgt := 25) hx hb dX1_number_7 (by decide) (fun c3 => ?_) (fun c3 => ?_)
  · have hg := cIf_te c3 hg
    exact jX1_number_25 S hr hlocks hin hK hA σ1 p1 p2 p3 H locs ls hg hI (lv_sub hl [0, 1, 2, 3] rfl)
  · have hg := cIf_fe c3 hg
    refine lv_lload_n hx hb dX1_number_10 rfl (lv_at hl 3 rfl) ?_
    refine lv_bipush (v := 48) hx hb dX1_number_11 (by decide) ?_
    refine lv_lushr (v := (p3.toUInt64 >>> ((48 : Int32).toInt64.toUInt64 &&& Int64.toUInt64 63)).toInt64) hx hb dX1_number_13 rfl ?_
    refine lv_ldc2 (v := 65530) hx hb hown (hts (.constantLong RX1 120 (65530)) (by decide +kernel)) dX1_number_14 ?_
    refine W.lcmp hx hb dX1_number_17 ?_
    refine lv_if_eq (tgt := 25) hx hb dX1_number_18 (by decide) (fun c15 => ?_) (fun c15 => ?_)
    · have hg := cIf_te c15 hg
      exact jX1_number_25 S hr hlocks hin hK hA σ1 p1 p2 p3 H locs ls hg hI (lv_sub hl [0, 1, 2, 3] rfl)
    · have hg := cIf_fe c15 hg
      refine lv_iconst (v := 1) hx hb dX1_number_21 (by decide) ?_
      refine lv_goto (tgt := 26) hx hb dX1_number_22 (by decide) ?_
      exact jX1_number_26 S hr hlocks hin hK hA σ1 p1 p2 p3 1 H locs ls hg hI (lv_sub hl [0, 1, 2, 3] rfl)
-- OwnMemoryModel.refer
abbrev rX1_refer : Room := { frames := 4, cells := 0, slots := 0, locals := 85 }
theorem nX1_refer : yX1_refer.cls = RX1 ∧ yX1_refer.cls ≠ "java/lang/invoke/MethodHandle" ∧ yX1_refer.cls ≠ "java/lang/invoke/VarHandle" ∧ (parseMethodDescriptor yX1_refer.desc).map (fun d => d.parameters.length) = some 3 := by decide +kernel
noncomputable def JX1_refer_43 (F : Nat) (σ : mS) (v1 : Int32) (v2 : Int32) (v3 : Int32) (v4 : Int32) (t1 : Int32) : Option mS := bnd (fX1_says F σ t1) (fun r6 σ5 => cIf (r6 = 0) (some σ5) (ck (vp_in v1 24) (nmd (m_root σ5 v1.toNatClampNeg) (fun x9 => ck (vp_in v3 24) (nmd (m_root σ5 v3.toNatClampNeg) (fun x11 => ck (vp_in ((8 * x9) + v2) 32768) (nmd (m_s_refers σ5 (upd (m_refers σ5) ((8 * x9) + v2).toNatClampNeg x11)) (fun σ13 => some σ13))))))))
noncomputable def JX1_refer_42 (F : Nat) (σ : mS) (v1 : Int32) (v2 : Int32) (v3 : Int32) (v4 : Int32) : Option mS := JX1_refer_43 F σ v1 v2 v3 v4 0
noncomputable def JX1_refer_21 (F : Nat) (σ : mS) (v1 : Int32) (v2 : Int32) (v3 : Int32) (t0 : Int32) : Option mS := cIf (t0 = 0) (JX1_refer_42 F σ v1 v2 v3 t0) (ck (vp_in v3 24) (nmd (m_root σ v3.toNatClampNeg) (fun x15 => cIf (x15 ≤ 0) (JX1_refer_42 F σ v1 v2 v3 t0) (JX1_refer_43 F σ v1 v2 v3 t0 1))))
noncomputable def JX1_refer_20 (F : Nat) (σ : mS) (v1 : Int32) (v2 : Int32) (v3 : Int32) : Option mS := JX1_refer_21 F σ v1 v2 v3 0
noncomputable def fX1_refer (F : Nat) (σ : mS) (p1 : Int32) (p2 : Int32) (p3 : Int32) : Option mS := bnd (fX1_hasValue F σ p1 p2) (fun r2 σ1 => cIf (r2 = 0) (JX1_refer_20 F σ1 p1 p2 p3) (bnp (fX1_isRoot F p3) (fun r17 => cIf (r17 = 0) (JX1_refer_20 F σ1 p1 p2 p3) (JX1_refer_21 F σ1 p1 p2 p3 1))))
set_option maxHeartbeats 4000000 in
set_option maxRecDepth 100000 in
theorem jX1_refer_43 {p : Program} {l : Launch} {e : Env} {s : State} {m : MethodId} {args : Array Value} {below : List Frame} {meth : Method} {c : Code} {A : Nat → Prop} {G : gT} {h0 : Nat} {h : (Nat → Nat)} {F : Nat} (S : CallFix p m c cX1_refer 5 s args wsX1_refer RX1) (hr : meth.sig.returnType = none) (hlocks : meth.locks = false) (hin : ∀ w ∈ wsX10, w ∈ wsX1_refer) (hK : gK G s) (hA : ∀ q, s.heap.size ≤ q → A q) {res : mS} (σ : mS) (v1 : Int32) (v2 : Int32) (v3 : Int32) (v4 : Int32) (t1 : Int32) (H : Heap) (locs : List Loc) (ls : Array Slot) (hg : JX1_refer_43 F σ v1 v2 v3 v4 t1 = some res) (hI : mI s A G h0 h σ H locs) (hl : lv_has ls 5 [(0, .ref h0), (1, .int v1), (2, .int v2), (3, .int v3), (4, .int v4)]) : W p l e rX1_refer s m args below meth c H locs 0 0 (MQ below (mQv G h0 h res A) args s 0 0 A) (F0 m 43 ls [.int t1, .ref h0]) := by
  have hx := S.1
  have hb := S.2.1
  have hts := S.2.2.2.2
  have hown := S.2.2.2.1
  unfold JX1_refer_43 at hg
  obtain ⟨r6, σ5, er6, hg⟩ := bnd_e hg
  refine mc_i S hK hA hI (As := [.int t1]) (rest := []) (kX1_says l G h0 h H.size F σ t1  r6 σ5 er6) (cwV 1 hts gX1_refer_X1_says rfl rfl rfl nX1_says ⟨Nat.le_of_ble_eq_true rfl, Nat.le_of_ble_eq_true rfl⟩) rfl hl.1 rfl (Nat.le_of_ble_eq_true rfl) dX1_refer_43 ⟨Nat.le_refl _, Nat.le_refl _⟩ (fun H locs hI => ?_)
  refine lv_if_eq (tgt := 71) hx hb dX1_refer_46 (by decide) (fun c7 => ?_) (fun c7 => ?_)
  · have hg := cIf_te c7 hg
    exact me_v S hr hlocks hK hI hg dX1_refer_71
  · have hg := cIf_fe c7 hg
    refine lv_aload_n hx hb dX1_refer_49 rfl (lv_at hl 0 rfl) ?_
    refine mg_refers S hin hK hI (ix := 37) (by decide +kernel) dX1_refer_50 ?_
    refine lv_bipush (v := 8) hx hb dX1_refer_53 (by decide) ?_
    refine lv_aload_n hx hb dX1_refer_55 rfl (lv_at hl 0 rfl) ?_
    refine mg_root S hin hK hI (ix := 9) (by decide +kernel) dX1_refer_56 ?_
    refine lv_iload_n hx hb dX1_refer_59 rfl (lv_at hl 1 rfl) ?_
    obtain ⟨c8, hg⟩ := ck_e hg
    obtain ⟨x9, ex9, hg⟩ := nmd_e hg
    refine mr_root S hK hI c8 ex9 dX1_refer_60 ?_
    refine lv_imul hx hb dX1_refer_61 ?_
    refine lv_iload_n hx hb dX1_refer_62 rfl (lv_at hl 2 rfl) ?_
    refine lv_iadd hx hb dX1_refer_63 ?_
    refine lv_aload_n hx hb dX1_refer_64 rfl (lv_at hl 0 rfl) ?_
    refine mg_root S hin hK hI (ix := 9) (by decide +kernel) dX1_refer_65 ?_
    refine lv_iload_n hx hb dX1_refer_68 rfl (lv_at hl 3 rfl) ?_
    obtain ⟨c10, hg⟩ := ck_e hg
    obtain ⟨x11, ex11, hg⟩ := nmd_e hg
    refine mr_root S hK hI c10 ex11 dX1_refer_69 ?_
    obtain ⟨c12, hg⟩ := ck_e hg
    obtain ⟨σ13, eσ13, hg⟩ := nmd_e hg
    refine mu_refers S hK hI c12 eσ13 dX1_refer_70 (fun H locs hI => ?_)
    exact me_v S hr hlocks hK hI hg dX1_refer_71
set_option maxHeartbeats 4000000 in
set_option maxRecDepth 100000 in
theorem jX1_refer_42 {p : Program} {l : Launch} {e : Env} {s : State} {m : MethodId} {args : Array Value} {below : List Frame} {meth : Method} {c : Code} {A : Nat → Prop} {G : gT} {h0 : Nat} {h : (Nat → Nat)} {F : Nat} (S : CallFix p m c cX1_refer 5 s args wsX1_refer RX1) (hr : meth.sig.returnType = none) (hlocks : meth.locks = false) (hin : ∀ w ∈ wsX10, w ∈ wsX1_refer) (hK : gK G s) (hA : ∀ q, s.heap.size ≤ q → A q) {res : mS} (σ : mS) (v1 : Int32) (v2 : Int32) (v3 : Int32) (v4 : Int32) (H : Heap) (locs : List Loc) (ls : Array Slot) (hg : JX1_refer_42 F σ v1 v2 v3 v4 = some res) (hI : mI s A G h0 h σ H locs) (hl : lv_has ls 5 [(0, .ref h0), (1, .int v1), (2, .int v2), (3, .int v3), (4, .int v4)]) : W p l e rX1_refer s m args below meth c H locs 0 0 (MQ below (mQv G h0 h res A) args s 0 0 A) (F0 m 42 ls [.ref h0]) := by
  have hx := S.1
  have hb := S.2.1
  have hts := S.2.2.2.2
  have hown := S.2.2.2.1
  unfold JX1_refer_42 at hg
  refine lv_iconst (v := 0) hx hb dX1_refer_42 (by decide) ?_
  exact jX1_refer_43 S hr hlocks hin hK hA σ v1 v2 v3 v4 0 H locs ls hg hI (lv_sub hl [0, 1, 2, 3, 4] rfl)
set_option maxHeartbeats 4000000 in
set_option maxRecDepth 100000 in
theorem jX1_refer_21 {p : Program} {l : Launch} {e : Env} {s : State} {m : MethodId} {args : Array Value} {below : List Frame} {meth : Method} {c : Code} {A : Nat → Prop} {G : gT} {h0 : Nat} {h : (Nat → Nat)} {F : Nat} (S : CallFix p m c cX1_refer 5 s args wsX1_refer RX1) (hr : meth.sig.returnType = none) (hlocks : meth.locks = false) (hin : ∀ w ∈ wsX10, w ∈ wsX1_refer) (hK : gK G s) (hA : ∀ q, s.heap.size ≤ q → A q) {res : mS} (σ : mS) (v1 : Int32) (v2 : Int32) (v3 : Int32) (t0 : Int32) (H : Heap) (locs : List Loc) (ls : Array Slot) (hg : JX1_refer_21 F σ v1 v2 v3 t0 = some res) (hI : mI s A G h0 h σ H locs) (hl : lv_has ls 5 [(0, .ref h0), (1, .int v1), (2, .int v2), (3, .int v3)]) : W p l e rX1_refer s m args below meth c H locs 0 0 (MQ below (mQv G h0 h res A) args s 0 0 A) (F0 m 21 ls [.int t0]) := by
  have hx := S.1
  have hb := S.2.1
  have hts := S.2.2.2.2
  have hown := S.2.2.2.1
  unfold JX1_refer_21 at hg
  refine lv_istore (lv' := [(4, .int t0), (0, .ref h0), (1, .int v1), (2, .int v2), (3, .int v3)]) hx hb dX1_refer_21 hl (by decide) rfl (fun ls hl => ?_)
  refine lv_aload_n hx hb dX1_refer_23 rfl (lv_at hl 1 rfl) ?_
  refine lv_iload hx hb dX1_refer_24 (lv_at hl 0 rfl) ?_
  refine lv_if_eq (tgt := 42) hx hb dX1_refer_26 (by decide) (fun c4 => ?_) (fun c4 => ?_)
  · have hg := cIf_te c4 hg
    exact jX1_refer_42 S hr hlocks hin hK hA σ v1 v2 v3 t0 H locs ls hg hI (lv_sub hl [1, 2, 3, 4, 0] rfl)
  · have hg := cIf_fe c4 hg
    refine lv_aload_n hx hb dX1_refer_29 rfl (lv_at hl 1 rfl) ?_
    refine mg_root S hin hK hI (ix := 9) (by decide +kernel) dX1_refer_30 ?_
    refine lv_iload_n hx hb dX1_refer_33 rfl (lv_at hl 4 rfl) ?_
    obtain ⟨c14, hg⟩ := ck_e hg
    obtain ⟨x15, ex15, hg⟩ := nmd_e hg
    refine mr_root S hK hI c14 ex15 dX1_refer_34 ?_
    refine lv_if_le (tgt := 42) hx hb dX1_refer_35 (by decide) (fun c16 => ?_) (fun c16 => ?_)
    · have hg := cIf_te c16 hg
      exact jX1_refer_42 S hr hlocks hin hK hA σ v1 v2 v3 t0 H locs ls hg hI (lv_sub hl [1, 2, 3, 4, 0] rfl)
    · have hg := cIf_fe c16 hg
      refine lv_iconst (v := 1) hx hb dX1_refer_38 (by decide) ?_
      refine lv_goto (tgt := 43) hx hb dX1_refer_39 (by decide) ?_
      exact jX1_refer_43 S hr hlocks hin hK hA σ v1 v2 v3 t0 1 H locs ls hg hI (lv_sub hl [1, 2, 3, 4, 0] rfl)
set_option maxHeartbeats 4000000 in
set_option maxRecDepth 100000 in
theorem jX1_refer_20 {p : Program} {l : Launch} {e : Env} {s : State} {m : MethodId} {args : Array Value} {below : List Frame} {meth : Method} {c : Code} {A : Nat → Prop} {G : gT} {h0 : Nat} {h : (Nat → Nat)} {F : Nat} (S : CallFix p m c cX1_refer 5 s args wsX1_refer RX1) (hr : meth.sig.returnType = none) (hlocks : meth.locks = false) (hin : ∀ w ∈ wsX10, w ∈ wsX1_refer) (hK : gK G s) (hA : ∀ q, s.heap.size ≤ q → A q) {res : mS} (σ : mS) (v1 : Int32) (v2 : Int32) (v3 : Int32) (H : Heap) (locs : List Loc) (ls : Array Slot) (hg : JX1_refer_20 F σ v1 v2 v3 = some res) (hI : mI s A G h0 h σ H locs) (hl : lv_has ls 5 [(0, .ref h0), (1, .int v1), (2, .int v2), (3, .int v3)]) : W p l e rX1_refer s m args below meth c H locs 0 0 (MQ below (mQv G h0 h res A) args s 0 0 A) (F0 m 20 ls []) := by
  have hx := S.1
  have hb := S.2.1
  have hts := S.2.2.2.2
  have hown := S.2.2.2.1
  unfold JX1_refer_20 at hg
  refine lv_iconst (v := 0) hx hb dX1_refer_20 (by decide) ?_
  exact jX1_refer_21 S hr hlocks hin hK hA σ v1 v2 v3 0 H locs ls hg hI (lv_sub hl [0, 1, 2, 3] rfl)
set_option maxHeartbeats 4000000 in
set_option maxRecDepth 100000 in
theorem kX1_refer (l : Launch) (G : gT) (h0 : Nat) (h : (Nat → Nat)) (sz F : Nat) (σ : mS) (p1 : Int32) (p2 : Int32) (p3 : Int32) (σr : mS) (hg : fX1_refer F σ p1 p2 p3 = some σr) : Met l yX1_refer wsX1_refer rX1_refer (mPre G h0 h σ sz [.int p1, .int p2, .int p3]) (mQv G h0 h σr (mA G h0 h σ sz)) 0 0 (mA G h0 h σ sz) := by
  refine mMet (Qc := mQv G h0 h σr) (by decide +kernel) rfl rfl (Nat.le_of_ble_eq_true rfl) ?_
  intro p e s m args below meth c A S hr hlocks hK hA H locs hI ls hl
  have hl : lv_has ls 5 [(0, .ref h0), (1, .int p1), (2, .int p2), (3, .int p3)] := hl
  have hin : ∀ w ∈ wsX10, w ∈ wsX1_refer := in_ws
  have hx := S.1
  have hb := S.2.1
  have hts := S.2.2.2.2
  have hown := S.2.2.2.1
  unfold fX1_refer at hg
  refine lv_aload_n hx hb dX1_refer_0 rfl (lv_at hl 0 rfl) ?_
  refine lv_iload_n hx hb dX1_refer_1 rfl (lv_at hl 1 rfl) ?_
  refine lv_iload_n hx hb dX1_refer_2 rfl (lv_at hl 2 rfl) ?_
  obtain ⟨r2, σ1, er2, hg⟩ := bnd_e hg
  refine mc_i S hK hA hI (As := [.int p1, .int p2]) (rest := []) (kX1_hasValue l G h0 h H.size F σ p1 p2  r2 σ1 er2) (cwV 2 hts gX1_refer_X1_hasValue rfl rfl rfl nX1_hasValue ⟨Nat.le_of_ble_eq_true rfl, Nat.le_of_ble_eq_true rfl⟩) rfl hl.1 rfl (Nat.le_of_ble_eq_true rfl) dX1_refer_3 ⟨Nat.le_refl _, Nat.le_refl _⟩ (fun H locs hI => ?_)
  refine lv_if_eq (tgt := 20) hx hb dX1_refer_6 (by decide) (fun c3 => ?_) (fun c3 => ?_)
  · have hg := cIf_te c3 hg
    exact jX1_refer_20 S hr hlocks hin hK hA σ1 p1 p2 p3 H locs ls hg hI (lv_sub hl [0, 1, 2, 3] rfl)
  · have hg := cIf_fe c3 hg
    refine lv_iload_n hx hb dX1_refer_9 rfl (lv_at hl 3 rfl) ?_
    obtain ⟨r17, er17, hg⟩ := bnp_e hg
    refine ms_i S hA hI (As := [.int p3]) (rest := []) (kX1_isRoot l H.size F p3 r17 er17) (va_cwS 1 hts gX1_refer_X1_isRoot rfl rfl rfl nX1_isRoot ⟨Nat.le_of_ble_eq_true rfl, Nat.le_of_ble_eq_true rfl⟩) rfl hl.1 rfl (Nat.le_of_ble_eq_true rfl) dX1_refer_10 ⟨Nat.le_refl _, Nat.le_refl _⟩ (fun H locs hI => ?_)
    refine lv_if_eq (tgt := 20) hx hb dX1_refer_13 (by decide) (fun c18 => ?_) (fun c18 => ?_)
    · have hg := cIf_te c18 hg
      exact jX1_refer_20 S hr hlocks hin hK hA σ1 p1 p2 p3 H locs ls hg hI (lv_sub hl [0, 1, 2, 3] rfl)
    · have hg := cIf_fe c18 hg
      refine lv_iconst (v := 1) hx hb dX1_refer_16 (by decide) ?_
      refine lv_goto (tgt := 21) hx hb dX1_refer_17 (by decide) ?_
      exact jX1_refer_21 S hr hlocks hin hK hA σ1 p1 p2 p3 1 H locs ls hg hI (lv_sub hl [0, 1, 2, 3] rfl)
-- OwnMemoryModel.bits
abbrev rX1_bits : Room := { frames := 4, cells := 0, slots := 0, locals := 85 }
theorem nX1_bits : yX1_bits.cls = RX1 ∧ yX1_bits.cls ≠ "java/lang/invoke/MethodHandle" ∧ yX1_bits.cls ≠ "java/lang/invoke/VarHandle" ∧ (parseMethodDescriptor yX1_bits.desc).map (fun d => d.parameters.length) = some 2 := by decide +kernel
noncomputable def JX1_bits_36 (F : Nat) (σ : mS) (v1 : Int32) (v2 : Int32) (v3 : Int32) (t1 : Int32) : Option (Int64 × mS) := bnd (fX1_says F σ t1) (fun r5 σ4 => cIf (r5 = 0) (some (0, σ4)) (ck (vp_in v1 24) (nmd (m_root σ4 v1.toNatClampNeg) (fun x8 => ck (vp_in ((8 * x8) + v2) 32768) (nmd (m_number σ4 ((8 * x8) + v2).toNatClampNeg) (fun x10 => some (x10, σ4)))))))
noncomputable def JX1_bits_35 (F : Nat) (σ : mS) (v1 : Int32) (v2 : Int32) (v3 : Int32) : Option (Int64 × mS) := JX1_bits_36 F σ v1 v2 v3 0
noncomputable def fX1_bits (F : Nat) (σ : mS) (p1 : Int32) (p2 : Int32) : Option (Int64 × mS) := bnd (fX1_hasValue F σ p1 p2) (fun r2 σ1 => cIf (r2 = 0) (JX1_bits_35 F σ1 p1 p2 r2) (ck (vp_in p1 24) (nmd (m_root σ1 p1.toNatClampNeg) (fun x12 => ck (vp_in ((8 * x12) + p2) 32768) (nmd (m_refers σ1 ((8 * x12) + p2).toNatClampNeg) (fun x14 => cIf (x14 = 0) (JX1_bits_36 F σ1 p1 p2 r2 1) (JX1_bits_35 F σ1 p1 p2 r2)))))))
set_option maxHeartbeats 4000000 in
set_option maxRecDepth 100000 in
theorem jX1_bits_36 {p : Program} {l : Launch} {e : Env} {s : State} {m : MethodId} {args : Array Value} {below : List Frame} {meth : Method} {c : Code} {A : Nat → Prop} {G : gT} {h0 : Nat} {h : (Nat → Nat)} {F : Nat} (S : CallFix p m c cX1_bits 4 s args wsX1_bits RX1) (hr : meth.sig.returnType = some .long) (hlocks : meth.locks = false) (hin : ∀ w ∈ wsX10, w ∈ wsX1_bits) (hK : gK G s) (hA : ∀ q, s.heap.size ≤ q → A q) {res : (Int64 × mS)} (σ : mS) (v1 : Int32) (v2 : Int32) (v3 : Int32) (t1 : Int32) (H : Heap) (locs : List Loc) (ls : Array Slot) (hg : JX1_bits_36 F σ v1 v2 v3 t1 = some res) (hI : mI s A G h0 h σ H locs) (hl : lv_has ls 4 [(0, .ref h0), (1, .int v1), (2, .int v2), (3, .int v3)]) : W p l e rX1_bits s m args below meth c H locs 0 0 (MQ below (mQl G h0 h res.1 res.2 A) args s 0 0 A) (F0 m 36 ls [.int t1, .ref h0]) := by
  have hx := S.1
  have hb := S.2.1
  have hts := S.2.2.2.2
  have hown := S.2.2.2.1
  unfold JX1_bits_36 at hg
  obtain ⟨r5, σ4, er5, hg⟩ := bnd_e hg
  refine mc_i S hK hA hI (As := [.int t1]) (rest := []) (kX1_says l G h0 h H.size F σ t1  r5 σ4 er5) (cwV 1 hts gX1_bits_X1_says rfl rfl rfl nX1_says ⟨Nat.le_of_ble_eq_true rfl, Nat.le_of_ble_eq_true rfl⟩) rfl hl.1 rfl (Nat.le_of_ble_eq_true rfl) dX1_bits_36 ⟨Nat.le_refl _, Nat.le_refl _⟩ (fun H locs hI => ?_)
  refine lv_if_eq (tgt := 61) hx hb dX1_bits_39 (by decide) (fun c6 => ?_) (fun c6 => ?_)
  · have hg := cIf_te c6 hg
    refine lv_lconst (v := 0) hx hb dX1_bits_61 (by decide) ?_
    exact me_l S hr hlocks hK hI hg dX1_bits_62
  · have hg := cIf_fe c6 hg
    refine lv_aload_n hx hb dX1_bits_42 rfl (lv_at hl 0 rfl) ?_
    refine mg_number S hin hK hI (ix := 33) (by decide +kernel) dX1_bits_43 ?_
    refine lv_bipush (v := 8) hx hb dX1_bits_46 (by decide) ?_
    refine lv_aload_n hx hb dX1_bits_48 rfl (lv_at hl 0 rfl) ?_
    refine mg_root S hin hK hI (ix := 9) (by decide +kernel) dX1_bits_49 ?_
    refine lv_iload_n hx hb dX1_bits_52 rfl (lv_at hl 1 rfl) ?_
    obtain ⟨c7, hg⟩ := ck_e hg
    obtain ⟨x8, ex8, hg⟩ := nmd_e hg
    refine mr_root S hK hI c7 ex8 dX1_bits_53 ?_
    refine lv_imul hx hb dX1_bits_54 ?_
    refine lv_iload_n hx hb dX1_bits_55 rfl (lv_at hl 2 rfl) ?_
    refine lv_iadd hx hb dX1_bits_56 ?_
    obtain ⟨c9, hg⟩ := ck_e hg
    obtain ⟨x10, ex10, hg⟩ := nmd_e hg
    refine mr_number S hK hI c9 ex10 dX1_bits_57 ?_
    refine lv_goto (tgt := 62) hx hb dX1_bits_58 (by decide) ?_
    exact me_l S hr hlocks hK hI hg dX1_bits_62
set_option maxHeartbeats 4000000 in
set_option maxRecDepth 100000 in
theorem jX1_bits_35 {p : Program} {l : Launch} {e : Env} {s : State} {m : MethodId} {args : Array Value} {below : List Frame} {meth : Method} {c : Code} {A : Nat → Prop} {G : gT} {h0 : Nat} {h : (Nat → Nat)} {F : Nat} (S : CallFix p m c cX1_bits 4 s args wsX1_bits RX1) (hr : meth.sig.returnType = some .long) (hlocks : meth.locks = false) (hin : ∀ w ∈ wsX10, w ∈ wsX1_bits) (hK : gK G s) (hA : ∀ q, s.heap.size ≤ q → A q) {res : (Int64 × mS)} (σ : mS) (v1 : Int32) (v2 : Int32) (v3 : Int32) (H : Heap) (locs : List Loc) (ls : Array Slot) (hg : JX1_bits_35 F σ v1 v2 v3 = some res) (hI : mI s A G h0 h σ H locs) (hl : lv_has ls 4 [(0, .ref h0), (1, .int v1), (2, .int v2), (3, .int v3)]) : W p l e rX1_bits s m args below meth c H locs 0 0 (MQ below (mQl G h0 h res.1 res.2 A) args s 0 0 A) (F0 m 35 ls [.ref h0]) := by
  have hx := S.1
  have hb := S.2.1
  have hts := S.2.2.2.2
  have hown := S.2.2.2.1
  unfold JX1_bits_35 at hg
  refine lv_iconst (v := 0) hx hb dX1_bits_35 (by decide) ?_
  exact jX1_bits_36 S hr hlocks hin hK hA σ v1 v2 v3 0 H locs ls hg hI (lv_sub hl [0, 1, 2, 3] rfl)
set_option maxHeartbeats 4000000 in
set_option maxRecDepth 100000 in
theorem kX1_bits (l : Launch) (G : gT) (h0 : Nat) (h : (Nat → Nat)) (sz F : Nat) (σ : mS) (p1 : Int32) (p2 : Int32) (r : Int64) (σr : mS) (hg : fX1_bits F σ p1 p2 = some (r, σr)) : Met l yX1_bits wsX1_bits rX1_bits (mPre G h0 h σ sz [.int p1, .int p2]) (mQl G h0 h r σr (mA G h0 h σ sz)) 0 0 (mA G h0 h σ sz) := by
  refine mMet (Qc := mQl G h0 h r σr) (by decide +kernel) rfl rfl (Nat.le_of_ble_eq_true rfl) ?_
  intro p e s m args below meth c A S hr hlocks hK hA H locs hI ls hl
  have hl : lv_has ls 4 [(0, .ref h0), (1, .int p1), (2, .int p2)] := hl
  have hin : ∀ w ∈ wsX10, w ∈ wsX1_bits := by decide +kernel
  have hx := S.1
  have hb := S.2.1
  have hts := S.2.2.2.2
  have hown := S.2.2.2.1
  unfold fX1_bits at hg
  refine lv_aload_n hx hb dX1_bits_0 rfl (lv_at hl 0 rfl) ?_
  refine lv_iload_n hx hb dX1_bits_1 rfl (lv_at hl 1 rfl) ?_
  refine lv_iload_n hx hb dX1_bits_2 rfl (lv_at hl 2 rfl) ?_
  obtain ⟨r2, σ1, er2, hg⟩ := bnd_e hg
  refine mc_i S hK hA hI (As := [.int p1, .int p2]) (rest := []) (kX1_hasValue l G h0 h H.size F σ p1 p2  r2 σ1 er2) (cwV 2 hts gX1_bits_X1_hasValue rfl rfl rfl nX1_hasValue ⟨Nat.le_of_ble_eq_true rfl, Nat.le_of_ble_eq_true rfl⟩) rfl hl.1 rfl (Nat.le_of_ble_eq_true rfl) dX1_bits_3 ⟨Nat.le_refl _, Nat.le_refl _⟩ (fun H locs hI => ?_)
  refine lv_istore_n (lv' := [(3, .int r2), (0, .ref h0), (1, .int p1), (2, .int p2)]) hx hb dX1_bits_6 rfl hl (by decide) rfl (fun ls hl => ?_)
  refine lv_aload_n hx hb dX1_bits_7 rfl (lv_at hl 1 rfl) ?_
  refine lv_iload_n hx hb dX1_bits_8 rfl (lv_at hl 0 rfl) ?_
  refine lv_if_eq (tgt := 35) hx hb dX1_bits_9 (by decide) (fun c3 => ?_) (fun c3 => ?_)
  · have hg := cIf_te c3 hg
    exact jX1_bits_35 S hr hlocks hin hK hA σ1 p1 p2 r2 H locs ls hg hI (lv_sub hl [1, 2, 3, 0] rfl)
  · have hg := cIf_fe c3 hg
    refine lv_aload_n hx hb dX1_bits_12 rfl (lv_at hl 1 rfl) ?_
    refine mg_refers S hin hK hI (ix := 37) (by decide +kernel) dX1_bits_13 ?_
    refine lv_bipush (v := 8) hx hb dX1_bits_16 (by decide) ?_
    refine lv_aload_n hx hb dX1_bits_18 rfl (lv_at hl 1 rfl) ?_
    refine mg_root S hin hK hI (ix := 9) (by decide +kernel) dX1_bits_19 ?_
    refine lv_iload_n hx hb dX1_bits_22 rfl (lv_at hl 2 rfl) ?_
    obtain ⟨c11, hg⟩ := ck_e hg
    obtain ⟨x12, ex12, hg⟩ := nmd_e hg
    refine mr_root S hK hI c11 ex12 dX1_bits_23 ?_
    refine lv_imul hx hb dX1_bits_24 ?_
    refine lv_iload_n hx hb dX1_bits_25 rfl (lv_at hl 3 rfl) ?_
    refine lv_iadd hx hb dX1_bits_26 ?_
    obtain ⟨c13, hg⟩ := ck_e hg
    obtain ⟨x14, ex14, hg⟩ := nmd_e hg
    refine mr_refers S hK hI c13 ex14 dX1_bits_27 ?_
    refine lv_if_ne (tgt := 35) hx hb dX1_bits_28 (by decide) (fun c15 => ?_) (fun c15 => ?_)
    · have hg := cIf_fe c15 hg
      exact jX1_bits_35 S hr hlocks hin hK hA σ1 p1 p2 r2 H locs ls hg hI (lv_sub hl [1, 2, 3, 0] rfl)
    · have hg := cIf_te c15 hg
      refine lv_iconst (v := 1) hx hb dX1_bits_31 (by decide) ?_
      refine lv_goto (tgt := 36) hx hb dX1_bits_32 (by decide) ?_
      exact jX1_bits_36 S hr hlocks hin hK hA σ1 p1 p2 r2 1 H locs ls hg hI (lv_sub hl [1, 2, 3, 0] rfl)
-- OwnMemoryModel.follow
abbrev rX1_follow : Room := { frames := 4, cells := 0, slots := 0, locals := 85 }
theorem nX1_follow : yX1_follow.cls = RX1 ∧ yX1_follow.cls ≠ "java/lang/invoke/MethodHandle" ∧ yX1_follow.cls ≠ "java/lang/invoke/VarHandle" ∧ (parseMethodDescriptor yX1_follow.desc).map (fun d => d.parameters.length) = some 3 := by decide +kernel
noncomputable def JX1_follow_22 (F : Nat) (σ : mS) (v1 : Int32) (v2 : Int32) (v3 : Int32) (t1 : Int32) : Option (Int32 × mS) := bnd (fX1_says F σ t1) (fun r5 σ4 => cIf (r5 = 0) (some (0, σ4)) (ck (vp_in v1 24) (nmd (m_root σ4 v1.toNatClampNeg) (fun x8 => ck (vp_in ((8 * x8) + v2) 32768) (nmd (m_refers σ4 ((8 * x8) + v2).toNatClampNeg) (fun x10 => cIf (x10 ≤ 0) (cIf (x10 ≤ 0) (some (0, σ4)) (some (1, σ4))) (ck (vp_in v3 24) (nmd (m_s_root σ4 (upd (m_root σ4) v3.toNatClampNeg x10)) (fun σ14 => cIf (x10 ≤ 0) (some (0, σ14)) (some (1, σ14)))))))))))
noncomputable def JX1_follow_21 (F : Nat) (σ : mS) (v1 : Int32) (v2 : Int32) (v3 : Int32) : Option (Int32 × mS) := JX1_follow_22 F σ v1 v2 v3 0
noncomputable def fX1_follow (F : Nat) (σ : mS) (p1 : Int32) (p2 : Int32) (p3 : Int32) : Option (Int32 × mS) := bnd (fX1_hasValue F σ p1 p2) (fun r2 σ1 => cIf (r2 = 0) (JX1_follow_21 F σ1 p1 p2 p3) (bnp (fX1_isRoot F p3) (fun r16 => cIf (r16 = 0) (JX1_follow_21 F σ1 p1 p2 p3) (JX1_follow_22 F σ1 p1 p2 p3 1))))
set_option maxHeartbeats 4000000 in
set_option maxRecDepth 100000 in
theorem jX1_follow_22 {p : Program} {l : Launch} {e : Env} {s : State} {m : MethodId} {args : Array Value} {below : List Frame} {meth : Method} {c : Code} {A : Nat → Prop} {G : gT} {h0 : Nat} {h : (Nat → Nat)} {F : Nat} (S : CallFix p m c cX1_follow 5 s args wsX1_follow RX1) (hr : meth.sig.returnType = some .boolean) (hlocks : meth.locks = false) (hin : ∀ w ∈ wsX10, w ∈ wsX1_follow) (hK : gK G s) (hA : ∀ q, s.heap.size ≤ q → A q) {res : (Int32 × mS)} (σ : mS) (v1 : Int32) (v2 : Int32) (v3 : Int32) (t1 : Int32) (H : Heap) (locs : List Loc) (ls : Array Slot) (hg : JX1_follow_22 F σ v1 v2 v3 t1 = some res) (hI : mI s A G h0 h σ H locs) (hl : lv_has ls 5 [(0, .ref h0), (1, .int v1), (2, .int v2), (3, .int v3)]) : W p l e rX1_follow s m args below meth c H locs 0 0 (MQ below (mQi G h0 h res.1 res.2 A) args s 0 0 A) (F0 m 22 ls [.int t1, .ref h0]) := by
  have hx := S.1
  have hb := S.2.1
  have hts := S.2.2.2.2
  have hown := S.2.2.2.1
  unfold JX1_follow_22 at hg
  obtain ⟨r5, σ4, er5, hg⟩ := bnd_e hg
  refine mc_i S hK hA hI (As := [.int t1]) (rest := []) (kX1_says l G h0 h H.size F σ t1  r5 σ4 er5) (cwV 1 hts gX1_follow_X1_says rfl rfl rfl nX1_says ⟨Nat.le_of_ble_eq_true rfl, Nat.le_of_ble_eq_true rfl⟩) rfl hl.1 rfl (Nat.le_of_ble_eq_true rfl) dX1_follow_22 ⟨Nat.le_refl _, Nat.le_refl _⟩ (fun H locs hI => ?_)
  refine lv_if_ne (tgt := 30) hx hb dX1_follow_25 (by decide) (fun c6 => ?_) (fun c6 => ?_)
  · have hg := cIf_fe c6 hg
    refine lv_aload_n hx hb dX1_follow_30 rfl (lv_at hl 0 rfl) ?_
    refine mg_refers S hin hK hI (ix := 37) (by decide +kernel) dX1_follow_31 ?_
    refine lv_bipush (v := 8) hx hb dX1_follow_34 (by decide) ?_
    refine lv_aload_n hx hb dX1_follow_36 rfl (lv_at hl 0 rfl) ?_
    refine mg_root S hin hK hI (ix := 9) (by decide +kernel) dX1_follow_37 ?_
    refine lv_iload_n hx hb dX1_follow_40 rfl (lv_at hl 1 rfl) ?_
    obtain ⟨c7, hg⟩ := ck_e hg
    obtain ⟨x8, ex8, hg⟩ := nmd_e hg
    refine mr_root S hK hI c7 ex8 dX1_follow_41 ?_
    refine lv_imul hx hb dX1_follow_42 ?_
    refine lv_iload_n hx hb dX1_follow_43 rfl (lv_at hl 2 rfl) ?_
    refine lv_iadd hx hb dX1_follow_44 ?_
    obtain ⟨c9, hg⟩ := ck_e hg
    obtain ⟨x10, ex10, hg⟩ := nmd_e hg
    refine mr_refers S hK hI c9 ex10 dX1_follow_45 ?_
    refine lv_istore (lv' := [(4, .int x10), (0, .ref h0), (1, .int v1), (2, .int v2), (3, .int v3)]) hx hb dX1_follow_46 hl (by decide) rfl (fun ls hl => ?_)
    refine lv_iload hx hb dX1_follow_48 (lv_at hl 0 rfl) ?_
    refine lv_if_le (tgt := 61) hx hb dX1_follow_50 (by decide) (fun c11 => ?_) (fun c11 => ?_)
    · have hg := cIf_te c11 hg
      refine lv_iload hx hb dX1_follow_61 (lv_at hl 0 rfl) ?_
      refine lv_if_le (tgt := 70) hx hb dX1_follow_63 (by decide) (fun c12 => ?_) (fun c12 => ?_)
      · have hg := cIf_te c12 hg
        refine lv_iconst (v := 0) hx hb dX1_follow_70 (by decide) ?_
        exact me_z S hr hlocks hK hI rfl hg dX1_follow_71
      · have hg := cIf_fe c12 hg
        refine lv_iconst (v := 1) hx hb dX1_follow_66 (by decide) ?_
        refine lv_goto (tgt := 71) hx hb dX1_follow_67 (by decide) ?_
        exact me_z S hr hlocks hK hI rfl hg dX1_follow_71
    · have hg := cIf_fe c11 hg
      refine lv_aload_n hx hb dX1_follow_53 rfl (lv_at hl 1 rfl) ?_
      refine mg_root S hin hK hI (ix := 9) (by decide +kernel) dX1_follow_54 ?_
      refine lv_iload_n hx hb dX1_follow_57 rfl (lv_at hl 4 rfl) ?_
      refine lv_iload hx hb dX1_follow_58 (lv_at hl 0 rfl) ?_
      obtain ⟨c13, hg⟩ := ck_e hg
      obtain ⟨σ14, eσ14, hg⟩ := nmd_e hg
      refine mu_root S hK hI c13 eσ14 dX1_follow_60 (fun H locs hI => ?_)
      refine lv_iload hx hb dX1_follow_61 (lv_at hl 0 rfl) ?_
      refine lv_if_le (tgt := 70) hx hb dX1_follow_63 (by decide) (fun c15 => ?_) (fun c15 => ?_)
      · have hg := cIf_te c15 hg
        refine lv_iconst (v := 0) hx hb dX1_follow_70 (by decide) ?_
        exact me_z S hr hlocks hK hI rfl hg dX1_follow_71
      · have hg := cIf_fe c15 hg
        refine lv_iconst (v := 1) hx hb dX1_follow_66 (by decide) ?_
        refine lv_goto (tgt := 71) hx hb dX1_follow_67 (by decide) ?_
        exact me_z S hr hlocks hK hI rfl hg dX1_follow_71
  · have hg := cIf_te c6 hg
    refine lv_iconst (v := 0) hx hb dX1_follow_28 (by decide) ?_
    exact me_z S hr hlocks hK hI rfl hg dX1_follow_29
set_option maxHeartbeats 4000000 in
set_option maxRecDepth 100000 in
theorem jX1_follow_21 {p : Program} {l : Launch} {e : Env} {s : State} {m : MethodId} {args : Array Value} {below : List Frame} {meth : Method} {c : Code} {A : Nat → Prop} {G : gT} {h0 : Nat} {h : (Nat → Nat)} {F : Nat} (S : CallFix p m c cX1_follow 5 s args wsX1_follow RX1) (hr : meth.sig.returnType = some .boolean) (hlocks : meth.locks = false) (hin : ∀ w ∈ wsX10, w ∈ wsX1_follow) (hK : gK G s) (hA : ∀ q, s.heap.size ≤ q → A q) {res : (Int32 × mS)} (σ : mS) (v1 : Int32) (v2 : Int32) (v3 : Int32) (H : Heap) (locs : List Loc) (ls : Array Slot) (hg : JX1_follow_21 F σ v1 v2 v3 = some res) (hI : mI s A G h0 h σ H locs) (hl : lv_has ls 5 [(0, .ref h0), (1, .int v1), (2, .int v2), (3, .int v3)]) : W p l e rX1_follow s m args below meth c H locs 0 0 (MQ below (mQi G h0 h res.1 res.2 A) args s 0 0 A) (F0 m 21 ls [.ref h0]) := by
  have hx := S.1
  have hb := S.2.1
  have hts := S.2.2.2.2
  have hown := S.2.2.2.1
  unfold JX1_follow_21 at hg
  refine lv_iconst (v := 0) hx hb dX1_follow_21 (by decide) ?_
  exact jX1_follow_22 S hr hlocks hin hK hA σ v1 v2 v3 0 H locs ls hg hI (lv_sub hl [0, 1, 2, 3] rfl)
set_option maxHeartbeats 4000000 in
set_option maxRecDepth 100000 in
theorem kX1_follow (l : Launch) (G : gT) (h0 : Nat) (h : (Nat → Nat)) (sz F : Nat) (σ : mS) (p1 : Int32) (p2 : Int32) (p3 : Int32) (r : Int32) (σr : mS) (hg : fX1_follow F σ p1 p2 p3 = some (r, σr)) : Met l yX1_follow wsX1_follow rX1_follow (mPre G h0 h σ sz [.int p1, .int p2, .int p3]) (mQi G h0 h r σr (mA G h0 h σ sz)) 0 0 (mA G h0 h σ sz) := by
  refine mMet (Qc := mQi G h0 h r σr) (by decide +kernel) rfl rfl (Nat.le_of_ble_eq_true rfl) ?_
  intro p e s m args below meth c A S hr hlocks hK hA H locs hI ls hl
  have hl : lv_has ls 5 [(0, .ref h0), (1, .int p1), (2, .int p2), (3, .int p3)] := hl
  have hin : ∀ w ∈ wsX10, w ∈ wsX1_follow := in_ws
  have hx := S.1
  have hb := S.2.1
  have hts := S.2.2.2.2
  have hown := S.2.2.2.1
  unfold fX1_follow at hg
  refine lv_aload_n hx hb dX1_follow_0 rfl (lv_at hl 0 rfl) ?_
  refine lv_aload_n hx hb dX1_follow_1 rfl (lv_at hl 0 rfl) ?_
  refine lv_iload_n hx hb dX1_follow_2 rfl (lv_at hl 1 rfl) ?_
  refine lv_iload_n hx hb dX1_follow_3 rfl (lv_at hl 2 rfl) ?_
  obtain ⟨r2, σ1, er2, hg⟩ := bnd_e hg
  refine mc_i S hK hA hI (As := [.int p1, .int p2]) (rest := [.ref h0]) (kX1_hasValue l G h0 h H.size F σ p1 p2  r2 σ1 er2) (cwV 2 hts gX1_follow_X1_hasValue rfl rfl rfl nX1_hasValue ⟨Nat.le_of_ble_eq_true rfl, Nat.le_of_ble_eq_true rfl⟩) rfl hl.1 rfl (Nat.le_of_ble_eq_true rfl) dX1_follow_4 ⟨Nat.le_refl _, Nat.le_refl _⟩ (fun H locs hI => ?_)
  refine lv_if_eq (tgt := 21) hx hb dX1_follow_7 (by decide) (fun c3 => ?_) (fun c3 => ?_)
  · have hg := cIf_te c3 hg
    exact jX1_follow_21 S hr hlocks hin hK hA σ1 p1 p2 p3 H locs ls hg hI (lv_sub hl [0, 1, 2, 3] rfl)
  · have hg := cIf_fe c3 hg
    refine lv_iload_n hx hb dX1_follow_10 rfl (lv_at hl 3 rfl) ?_
    obtain ⟨r16, er16, hg⟩ := bnp_e hg
    refine ms_i S hA hI (As := [.int p3]) (rest := [.ref h0]) (kX1_isRoot l H.size F p3 r16 er16) (va_cwS 1 hts gX1_follow_X1_isRoot rfl rfl rfl nX1_isRoot ⟨Nat.le_of_ble_eq_true rfl, Nat.le_of_ble_eq_true rfl⟩) rfl hl.1 rfl (Nat.le_of_ble_eq_true rfl) dX1_follow_11 ⟨Nat.le_refl _, Nat.le_refl _⟩ (fun H locs hI => ?_)
    refine lv_if_eq (tgt := 21) hx hb dX1_follow_14 (by decide) (fun c17 => ?_) (fun c17 => ?_)
    · have hg := cIf_te c17 hg
      exact jX1_follow_21 S hr hlocks hin hK hA σ1 p1 p2 p3 H locs ls hg hI (lv_sub hl [0, 1, 2, 3] rfl)
    · have hg := cIf_fe c17 hg
      refine lv_iconst (v := 1) hx hb dX1_follow_17 (by decide) ?_
      refine lv_goto (tgt := 22) hx hb dX1_follow_18 (by decide) ?_
      exact jX1_follow_22 S hr hlocks hin hK hA σ1 p1 p2 p3 1 H locs ls hg hI (lv_sub hl [0, 1, 2, 3] rfl)
-- OwnMemoryModel.set
abbrev rX1_set : Room := { frames := 4, cells := 0, slots := 0, locals := 85 }
theorem nX1_set : yX1_set.cls = RX1 ∧ yX1_set.cls ≠ "java/lang/invoke/MethodHandle" ∧ yX1_set.cls ≠ "java/lang/invoke/VarHandle" ∧ (parseMethodDescriptor yX1_set.desc).map (fun d => d.parameters.length) = some 3 := by decide +kernel
noncomputable def fX1_set (F : Nat) (σ : mS) (p1 : Int32) (p2 : Int32) (p3 : Int32) : Option mS := bnd (fX1_hasWord F σ p1 p2) (fun r2 σ1 => bnd (fX1_says F σ1 r2) (fun r4 σ3 => cIf (r4 = 0) (some σ3) (ck (vp_in p1 24) (nmd (m_root σ3 p1.toNatClampNeg) (fun x7 => ck (vp_in ((16 * x7) + p2) 65536) (nmd (m_s_word σ3 (upd (m_word σ3) ((16 * x7) + p2).toNatClampNeg p3)) (fun σ9 => some σ9)))))))
set_option maxHeartbeats 4000000 in
set_option maxRecDepth 100000 in
theorem kX1_set (l : Launch) (G : gT) (h0 : Nat) (h : (Nat → Nat)) (sz F : Nat) (σ : mS) (p1 : Int32) (p2 : Int32) (p3 : Int32) (σr : mS) (hg : fX1_set F σ p1 p2 p3 = some σr) : Met l yX1_set wsX1_set rX1_set (mPre G h0 h σ sz [.int p1, .int p2, .int p3]) (mQv G h0 h σr (mA G h0 h σ sz)) 0 0 (mA G h0 h σ sz) := by
  refine mMet (Qc := mQv G h0 h σr) (by decide +kernel) rfl rfl (Nat.le_of_ble_eq_true rfl) ?_
  intro p e s m args below meth c A S hr hlocks hK hA H locs hI ls hl
  have hl : lv_has ls 4 [(0, .ref h0), (1, .int p1), (2, .int p2), (3, .int p3)] := hl
  have hin : ∀ w ∈ wsX10, w ∈ wsX1_set := in_ws
  have hx := S.1
  have hb := S.2.1
  have hts := S.2.2.2.2
  have hown := S.2.2.2.1
  unfold fX1_set at hg
  refine lv_aload_n hx hb dX1_set_0 rfl (lv_at hl 0 rfl) ?_
  refine lv_aload_n hx hb dX1_set_1 rfl (lv_at hl 0 rfl) ?_
  refine lv_iload_n hx hb dX1_set_2 rfl (lv_at hl 1 rfl) ?_
  refine lv_iload_n hx hb dX1_set_3 rfl (lv_at hl 2 rfl) ?_
  obtain ⟨r2, σ1, er2, hg⟩ := bnd_e hg
  refine mc_i S hK hA hI (As := [.int p1, .int p2]) (rest := [.ref h0]) (kX1_hasWord l G h0 h H.size F σ p1 p2  r2 σ1 er2) (cwV 2 hts gX1_set_X1_hasWord rfl rfl rfl nX1_hasWord ⟨Nat.le_of_ble_eq_true rfl, Nat.le_of_ble_eq_true rfl⟩) rfl hl.1 rfl (Nat.le_of_ble_eq_true rfl) dX1_set_4 ⟨Nat.le_refl _, Nat.le_refl _⟩ (fun H locs hI => ?_)
  obtain ⟨r4, σ3, er4, hg⟩ := bnd_e hg
  refine mc_i S hK hA hI (As := [.int r2]) (rest := []) (kX1_says l G h0 h H.size F σ1 r2  r4 σ3 er4) (cwV 1 hts gX1_set_X1_says rfl rfl rfl nX1_says ⟨Nat.le_of_ble_eq_true rfl, Nat.le_of_ble_eq_true rfl⟩) rfl hl.1 rfl (Nat.le_of_ble_eq_true rfl) dX1_set_7 ⟨Nat.le_refl _, Nat.le_refl _⟩ (fun H locs hI => ?_)
  refine lv_if_eq (tgt := 30) hx hb dX1_set_10 (by decide) (fun c5 => ?_) (fun c5 => ?_)
  · have hg := cIf_te c5 hg
    exact me_v S hr hlocks hK hI hg dX1_set_30
  · have hg := cIf_fe c5 hg
    refine lv_aload_n hx hb dX1_set_13 rfl (lv_at hl 0 rfl) ?_
    refine mg_word S hin hK hI (ix := 41) (by decide +kernel) dX1_set_14 ?_
    refine lv_bipush (v := 16) hx hb dX1_set_17 (by decide) ?_
    refine lv_aload_n hx hb dX1_set_19 rfl (lv_at hl 0 rfl) ?_
    refine mg_root S hin hK hI (ix := 9) (by decide +kernel) dX1_set_20 ?_
    refine lv_iload_n hx hb dX1_set_23 rfl (lv_at hl 1 rfl) ?_
    obtain ⟨c6, hg⟩ := ck_e hg
    obtain ⟨x7, ex7, hg⟩ := nmd_e hg
    refine mr_root S hK hI c6 ex7 dX1_set_24 ?_
    refine lv_imul hx hb dX1_set_25 ?_
    refine lv_iload_n hx hb dX1_set_26 rfl (lv_at hl 2 rfl) ?_
    refine lv_iadd hx hb dX1_set_27 ?_
    refine lv_iload_n hx hb dX1_set_28 rfl (lv_at hl 3 rfl) ?_
    obtain ⟨c8, hg⟩ := ck_e hg
    obtain ⟨σ9, eσ9, hg⟩ := nmd_e hg
    refine mu_word S hK hI c8 eσ9 dX1_set_29 (fun H locs hI => ?_)
    exact me_v S hr hlocks hK hI hg dX1_set_30
-- OwnMemoryModel.get
abbrev rX1_get : Room := { frames := 4, cells := 0, slots := 0, locals := 85 }
theorem nX1_get : yX1_get.cls = RX1 ∧ yX1_get.cls ≠ "java/lang/invoke/MethodHandle" ∧ yX1_get.cls ≠ "java/lang/invoke/VarHandle" ∧ (parseMethodDescriptor yX1_get.desc).map (fun d => d.parameters.length) = some 2 := by decide +kernel
noncomputable def fX1_get (F : Nat) (σ : mS) (p1 : Int32) (p2 : Int32) : Option (Int32 × mS) := bnd (fX1_hasWord F σ p1 p2) (fun r2 σ1 => bnd (fX1_says F σ1 r2) (fun r4 σ3 => cIf (r4 = 0) (some (0, σ3)) (ck (vp_in p1 24) (nmd (m_root σ3 p1.toNatClampNeg) (fun x7 => ck (vp_in ((16 * x7) + p2) 65536) (nmd (m_word σ3 ((16 * x7) + p2).toNatClampNeg) (fun x9 => some (x9, σ3))))))))
set_option maxHeartbeats 4000000 in
set_option maxRecDepth 100000 in
theorem kX1_get (l : Launch) (G : gT) (h0 : Nat) (h : (Nat → Nat)) (sz F : Nat) (σ : mS) (p1 : Int32) (p2 : Int32) (r : Int32) (σr : mS) (hg : fX1_get F σ p1 p2 = some (r, σr)) : Met l yX1_get wsX1_get rX1_get (mPre G h0 h σ sz [.int p1, .int p2]) (mQi G h0 h r σr (mA G h0 h σ sz)) 0 0 (mA G h0 h σ sz) := by
  refine mMet (Qc := mQi G h0 h r σr) (by decide +kernel) rfl rfl (Nat.le_of_ble_eq_true rfl) ?_
  intro p e s m args below meth c A S hr hlocks hK hA H locs hI ls hl
  have hl : lv_has ls 3 [(0, .ref h0), (1, .int p1), (2, .int p2)] := hl
  have hin : ∀ w ∈ wsX10, w ∈ wsX1_get := in_ws
  have hx := S.1
  have hb := S.2.1
  have hts := S.2.2.2.2
  have hown := S.2.2.2.1
  unfold fX1_get at hg
  refine lv_aload_n hx hb dX1_get_0 rfl (lv_at hl 0 rfl) ?_
  refine lv_aload_n hx hb dX1_get_1 rfl (lv_at hl 0 rfl) ?_
  refine lv_iload_n hx hb dX1_get_2 rfl (lv_at hl 1 rfl) ?_
  refine lv_iload_n hx hb dX1_get_3 rfl (lv_at hl 2 rfl) ?_
  obtain ⟨r2, σ1, er2, hg⟩ := bnd_e hg
  refine mc_i S hK hA hI (As := [.int p1, .int p2]) (rest := [.ref h0]) (kX1_hasWord l G h0 h H.size F σ p1 p2  r2 σ1 er2) (cwV 2 hts gX1_get_X1_hasWord rfl rfl rfl nX1_hasWord ⟨Nat.le_of_ble_eq_true rfl, Nat.le_of_ble_eq_true rfl⟩) rfl hl.1 rfl (Nat.le_of_ble_eq_true rfl) dX1_get_4 ⟨Nat.le_refl _, Nat.le_refl _⟩ (fun H locs hI => ?_)
  obtain ⟨r4, σ3, er4, hg⟩ := bnd_e hg
  refine mc_i S hK hA hI (As := [.int r2]) (rest := []) (kX1_says l G h0 h H.size F σ1 r2  r4 σ3 er4) (cwV 1 hts gX1_get_X1_says rfl rfl rfl nX1_says ⟨Nat.le_of_ble_eq_true rfl, Nat.le_of_ble_eq_true rfl⟩) rfl hl.1 rfl (Nat.le_of_ble_eq_true rfl) dX1_get_7 ⟨Nat.le_refl _, Nat.le_refl _⟩ (fun H locs hI => ?_)
  refine lv_if_eq (tgt := 32) hx hb dX1_get_10 (by decide) (fun c5 => ?_) (fun c5 => ?_)
  · have hg := cIf_te c5 hg
    refine lv_iconst (v := 0) hx hb dX1_get_32 (by decide) ?_
    exact me_i S hr hlocks hK hI hg dX1_get_33
  · have hg := cIf_fe c5 hg
    refine lv_aload_n hx hb dX1_get_13 rfl (lv_at hl 0 rfl) ?_
    refine mg_word S hin hK hI (ix := 41) (by decide +kernel) dX1_get_14 ?_
    refine lv_bipush (v := 16) hx hb dX1_get_17 (by decide) ?_
    refine lv_aload_n hx hb dX1_get_19 rfl (lv_at hl 0 rfl) ?_
    refine mg_root S hin hK hI (ix := 9) (by decide +kernel) dX1_get_20 ?_
    refine lv_iload_n hx hb dX1_get_23 rfl (lv_at hl 1 rfl) ?_
    obtain ⟨c6, hg⟩ := ck_e hg
    obtain ⟨x7, ex7, hg⟩ := nmd_e hg
    refine mr_root S hK hI c6 ex7 dX1_get_24 ?_
    refine lv_imul hx hb dX1_get_25 ?_
    refine lv_iload_n hx hb dX1_get_26 rfl (lv_at hl 2 rfl) ?_
    refine lv_iadd hx hb dX1_get_27 ?_
    obtain ⟨c8, hg⟩ := ck_e hg
    obtain ⟨x9, ex9, hg⟩ := nmd_e hg
    refine mr_word S hK hI c8 ex9 dX1_get_28 ?_
    refine lv_goto (tgt := 33) hx hb dX1_get_29 (by decide) ?_
    exact me_i S hr hlocks hK hI hg dX1_get_33
-- OwnMemoryModel.isText
abbrev rX1_isText : Room := { frames := 2, cells := 0, slots := 0, locals := 42 }
theorem nX1_isText : yX1_isText.cls = RX1 ∧ yX1_isText.cls ≠ "java/lang/invoke/MethodHandle" ∧ yX1_isText.cls ≠ "java/lang/invoke/VarHandle" ∧ (parseMethodDescriptor yX1_isText.desc).map (fun d => d.parameters.length) = some 1 := by decide +kernel
noncomputable def fX1_isText (F : Nat) (σ : mS) (p1 : Int32) : Option (Int32 × mS) := bnp (fX1_isRoot F p1) (fun r1 => cIf (r1 = 0) (some (0, σ)) (ck (vp_in p1 24) (nmd (m_root σ p1.toNatClampNeg) (fun x4 => ck (vp_in x4 4096) (nmd (m_kind σ x4.toNatClampNeg) (fun x6 => cIf (x6 ≤ 1) (some (0, σ)) (some (1, σ))))))))
set_option maxHeartbeats 4000000 in
set_option maxRecDepth 100000 in
theorem kX1_isText (l : Launch) (G : gT) (h0 : Nat) (h : (Nat → Nat)) (sz F : Nat) (σ : mS) (p1 : Int32) (r : Int32) (σr : mS) (hg : fX1_isText F σ p1 = some (r, σr)) : Met l yX1_isText wsX1_isText rX1_isText (mPre G h0 h σ sz [.int p1]) (mQi G h0 h r σr (mA G h0 h σ sz)) 0 0 (mA G h0 h σ sz) := by
  refine mMet (Qc := mQi G h0 h r σr) (by decide +kernel) rfl rfl (Nat.le_of_ble_eq_true rfl) ?_
  intro p e s m args below meth c A S hr hlocks hK hA H locs hI ls hl
  have hl : lv_has ls 2 [(0, .ref h0), (1, .int p1)] := hl
  have hin : ∀ w ∈ wsX10, w ∈ wsX1_isText := in_ws
  have hx := S.1
  have hb := S.2.1
  have hts := S.2.2.2.2
  have hown := S.2.2.2.1
  unfold fX1_isText at hg
  refine lv_iload_n hx hb dX1_isText_0 rfl (lv_at hl 1 rfl) ?_
  obtain ⟨r1, er1, hg⟩ := bnp_e hg
  refine ms_i S hA hI (As := [.int p1]) (rest := []) (kX1_isRoot l H.size F p1 r1 er1) (va_cwS 1 hts gX1_isText_X1_isRoot rfl rfl rfl nX1_isRoot ⟨Nat.le_of_ble_eq_true rfl, Nat.le_of_ble_eq_true rfl⟩) rfl hl.1 rfl (Nat.le_of_ble_eq_true rfl) dX1_isText_1 ⟨Nat.le_refl _, Nat.le_refl _⟩ (fun H locs hI => ?_)
  refine lv_if_eq (tgt := 26) hx hb dX1_isText_4 (by decide) (fun c2 => ?_) (fun c2 => ?_)
  · have hg := cIf_te c2 hg
    refine lv_iconst (v := 0) hx hb dX1_isText_26 (by decide) ?_
    exact me_z S hr hlocks hK hI rfl hg dX1_isText_27
  · have hg := cIf_fe c2 hg
    refine lv_aload_n hx hb dX1_isText_7 rfl (lv_at hl 0 rfl) ?_
    refine mg_kind S hin hK hI (ix := 17) (by decide +kernel) dX1_isText_8 ?_
    refine lv_aload_n hx hb dX1_isText_11 rfl (lv_at hl 0 rfl) ?_
    refine mg_root S hin hK hI (ix := 9) (by decide +kernel) dX1_isText_12 ?_
    refine lv_iload_n hx hb dX1_isText_15 rfl (lv_at hl 1 rfl) ?_
    obtain ⟨c3, hg⟩ := ck_e hg
    obtain ⟨x4, ex4, hg⟩ := nmd_e hg
    refine mr_root S hK hI c3 ex4 dX1_isText_16 ?_
    obtain ⟨c5, hg⟩ := ck_e hg
    obtain ⟨x6, ex6, hg⟩ := nmd_e hg
    refine mr_kind S hK hI c5 ex6 dX1_isText_17 ?_
    refine lv_iconst (v := 1) hx hb dX1_isText_18 (by decide) ?_
    refine lv_icmp_le (tgt := 26) hx hb dX1_isText_19 (by decide) (fun c7 => ?_) (fun c7 => ?_)
    · have hg := cIf_te c7 hg
      refine lv_iconst (v := 0) hx hb dX1_isText_26 (by decide) ?_
      exact me_z S hr hlocks hK hI rfl hg dX1_isText_27
    · have hg := cIf_fe c7 hg
      refine lv_iconst (v := 1) hx hb dX1_isText_22 (by decide) ?_
      refine lv_goto (tgt := 27) hx hb dX1_isText_23 (by decide) ?_
      exact me_z S hr hlocks hK hI rfl hg dX1_isText_27
-- OwnMemoryModel.unitOf
abbrev rX1_unitOf : Room := { frames := 0, cells := 0, slots := 0, locals := 0 }
theorem nX1_unitOf : yX1_unitOf.cls = RX1 ∧ yX1_unitOf.cls ≠ "java/lang/invoke/MethodHandle" ∧ yX1_unitOf.cls ≠ "java/lang/invoke/VarHandle" ∧ (parseMethodDescriptor yX1_unitOf.desc).map (fun d => d.parameters.length) = some 2 := by decide +kernel
noncomputable def LX1_unitOf_5 (F : Nat) (K : Int32 → Int32 → mS → Option (Int32 × mS)) (v1 : Int32) (v2 : Int32) : Nat → Int32 → Int32 → mS → Option (Int32 × mS)
  | 0, _, _, _ => none
  | n + 1, v3, v4, σ => ck (vp_in v3 4096) (nmd (m_madeOf σ v3.toNatClampNeg) (fun x2 => cIf (x2 ≤ 0) (K v3 v4 σ) (ck (vp_in v3 4096) (nmd (m_madeOf σ v3.toNatClampNeg) (fun x5 => cIf (x5 = 1) (ck (vp_in v3 4096) (nmd (m_b σ v3.toNatClampNeg) (fun x22 => nmd (v4 + x22) (fun x23 => ck (vp_in v3 4096) (nmd (m_a σ v3.toNatClampNeg) (fun x25 => LX1_unitOf_5 F K v1 v2 n x25 x23 σ)))))) (ck (vp_in v3 4096) (nmd (m_a σ v3.toNatClampNeg) (fun x8 => ck (vp_in x8 4096) (nmd (m_length σ x8.toNatClampNeg) (fun x10 => cIf (x10 ≤ v4) (ck (vp_in v3 4096) (nmd (m_a σ v3.toNatClampNeg) (fun x13 => ck (vp_in x13 4096) (nmd (m_length σ x13.toNatClampNeg) (fun x15 => nmd (v4 - x15) (fun x16 => ck (vp_in v3 4096) (nmd (m_b σ v3.toNatClampNeg) (fun x18 => LX1_unitOf_5 F K v1 v2 n x18 x16 σ)))))))) (ck (vp_in v3 4096) (nmd (m_a σ v3.toNatClampNeg) (fun x20 => LX1_unitOf_5 F K v1 v2 n x20 v4 σ)))))))))))))
noncomputable def fX1_unitOf (F : Nat) (σ : mS) (p1 : Int32) (p2 : Int32) : Option (Int32 × mS) := LX1_unitOf_5 F (fun w26 w27 σ28 => ck (vp_in w26 4096) (nmd (m_units σ28 w26.toNatClampNeg) (fun x30 => ck (vp_in w26 4096) (nmd (m_length σ28 w26.toNatClampNeg) (fun x32 => some (((x30 >>> ((16 * ((x32 - 1) - w27)).toInt64 &&& 63)) &&& 65535).toInt32, σ28)))))) p1 p2 F p1 p2 σ
set_option maxHeartbeats 4000000 in
set_option maxRecDepth 100000 in
theorem lX1_unitOf_5 {p : Program} {l : Launch} {e : Env} {s : State} {m : MethodId} {args : Array Value} {below : List Frame} {meth : Method} {c : Code} {A : Nat → Prop} {G : gT} {h0 : Nat} {h : (Nat → Nat)} {F : Nat} (S : CallFix p m c cX1_unitOf 5 s args wsX1_unitOf RX1) (hr : meth.sig.returnType = some .int) (hlocks : meth.locks = false) (hin : ∀ w ∈ wsX10, w ∈ wsX1_unitOf) (hK : gK G s) (hA : ∀ q, s.heap.size ≤ q → A q) {K : Int32 → Int32 → mS → Option (Int32 × mS)} {res : (Int32 × mS)} (v1 : Int32) (v2 : Int32) (n : Nat) : ∀ (v3 : Int32) (v4 : Int32) (σ : mS) (H : Heap) (locs : List Loc) (ls : Array Slot), LX1_unitOf_5 F K v1 v2 n v3 v4 σ = some res → mI s A G h0 h σ H locs → lv_has ls 5 [(0, .ref h0), (1, .int v1), (2, .int v2), (3, .int v3), (4, .int v4)] → (∀ (v3 : Int32) (v4 : Int32) (σ : mS) (H : Heap) (locs : List Loc) (ls : Array Slot), K v3 v4 σ = some res → mI s A G h0 h σ H locs → lv_has ls 5 [(0, .ref h0), (1, .int v1), (2, .int v2), (3, .int v3), (4, .int v4)] → W p l e rX1_unitOf s m args below meth c H locs 0 0 (MQ below (mQi G h0 h res.1 res.2 A) args s 0 0 A) (F0 m 97 ls [])) → W p l e rX1_unitOf s m args below meth c H locs 0 0 (MQ below (mQi G h0 h res.1 res.2 A) args s 0 0 A) (F0 m 5 ls []) := by
  have hx := S.1
  have hb := S.2.1
  have hts := S.2.2.2.2
  have hown := S.2.2.2.1
  induction n with
  | zero => intro v3 v4 σ H locs ls hg; rw [LX1_unitOf_5] at hg; cases hg
  | succ n ih =>
    intro v3 v4 σ H locs ls hg hI hl kk
    rw [LX1_unitOf_5] at hg
    refine lv_aload_n hx hb dX1_unitOf_5 rfl (lv_at hl 0 rfl) ?_
    refine mg_madeOf S hin hK hI (ix := 47) (by decide +kernel) dX1_unitOf_6 ?_
    refine lv_iload_n hx hb dX1_unitOf_9 rfl (lv_at hl 3 rfl) ?_
    obtain ⟨c1, hg⟩ := ck_e hg
    obtain ⟨x2, ex2, hg⟩ := nmd_e hg
    refine mr_madeOf S hK hI c1 ex2 dX1_unitOf_10 ?_
    refine lv_if_le (tgt := 97) hx hb dX1_unitOf_11 (by decide) (fun c3 => ?_) (fun c3 => ?_)
    · have hg := cIf_te c3 hg
      exact kk v3 v4 σ H locs ls hg hI (lv_sub hl [0, 1, 2, 3, 4] rfl)
    · have hg := cIf_fe c3 hg
      refine lv_aload_n hx hb dX1_unitOf_14 rfl (lv_at hl 0 rfl) ?_
      refine mg_madeOf S hin hK hI (ix := 47) (by decide +kernel) dX1_unitOf_15 ?_
      refine lv_iload_n hx hb dX1_unitOf_18 rfl (lv_at hl 3 rfl) ?_
      obtain ⟨c4, hg⟩ := ck_e hg
      obtain ⟨x5, ex5, hg⟩ := nmd_e hg
      refine mr_madeOf S hK hI c4 ex5 dX1_unitOf_19 ?_
      refine lv_iconst (v := 1) hx hb dX1_unitOf_20 (by decide) ?_
      refine lv_icmp_ne (tgt := 45) hx hb dX1_unitOf_21 (by decide) (fun c6 => ?_) (fun c6 => ?_)
      · have hg := cIf_fe c6 hg
        refine lv_iload hx hb dX1_unitOf_45 (lv_at hl 4 rfl) ?_
        refine lv_aload_n hx hb dX1_unitOf_47 rfl (lv_at hl 0 rfl) ?_
        refine mg_length S hin hK hI (ix := 44) (by decide +kernel) dX1_unitOf_48 ?_
        refine lv_aload_n hx hb dX1_unitOf_51 rfl (lv_at hl 0 rfl) ?_
        refine mg_a S hin hK hI (ix := 50) (by decide +kernel) dX1_unitOf_52 ?_
        refine lv_iload_n hx hb dX1_unitOf_55 rfl (lv_at hl 3 rfl) ?_
        obtain ⟨c7, hg⟩ := ck_e hg
        obtain ⟨x8, ex8, hg⟩ := nmd_e hg
        refine mr_a S hK hI c7 ex8 dX1_unitOf_56 ?_
        obtain ⟨c9, hg⟩ := ck_e hg
        obtain ⟨x10, ex10, hg⟩ := nmd_e hg
        refine mr_length S hK hI c9 ex10 dX1_unitOf_57 ?_
        refine lv_icmp_ge (tgt := 71) hx hb dX1_unitOf_58 (by decide) (fun c11 => ?_) (fun c11 => ?_)
        · have hg := cIf_te c11 hg
          refine lv_iload hx hb dX1_unitOf_71 (lv_at hl 4 rfl) ?_
          refine lv_aload_n hx hb dX1_unitOf_73 rfl (lv_at hl 0 rfl) ?_
          refine mg_length S hin hK hI (ix := 44) (by decide +kernel) dX1_unitOf_74 ?_
          refine lv_aload_n hx hb dX1_unitOf_77 rfl (lv_at hl 0 rfl) ?_
          refine mg_a S hin hK hI (ix := 50) (by decide +kernel) dX1_unitOf_78 ?_
          refine lv_iload_n hx hb dX1_unitOf_81 rfl (lv_at hl 3 rfl) ?_
          obtain ⟨c12, hg⟩ := ck_e hg
          obtain ⟨x13, ex13, hg⟩ := nmd_e hg
          refine mr_a S hK hI c12 ex13 dX1_unitOf_82 ?_
          obtain ⟨c14, hg⟩ := ck_e hg
          obtain ⟨x15, ex15, hg⟩ := nmd_e hg
          refine mr_length S hK hI c14 ex15 dX1_unitOf_83 ?_
          refine lv_isub hx hb dX1_unitOf_84 ?_
          obtain ⟨x16, ex16, hg⟩ := nmd_e hg
          refine wn_i ex16 ?_
          refine lv_istore (lv' := [(4, .int x16), (0, .ref h0), (1, .int v1), (2, .int v2), (3, .int v3)]) hx hb dX1_unitOf_85 hl (by decide) rfl (fun ls hl => ?_)
          refine lv_aload_n hx hb dX1_unitOf_87 rfl (lv_at hl 1 rfl) ?_
          refine mg_b S hin hK hI (ix := 53) (by decide +kernel) dX1_unitOf_88 ?_
          refine lv_iload_n hx hb dX1_unitOf_91 rfl (lv_at hl 4 rfl) ?_
          obtain ⟨c17, hg⟩ := ck_e hg
          obtain ⟨x18, ex18, hg⟩ := nmd_e hg
          refine mr_b S hK hI c17 ex18 dX1_unitOf_92 ?_
          refine lv_istore_n (lv' := [(3, .int x18), (4, .int x16), (0, .ref h0), (1, .int v1), (2, .int v2)]) hx hb dX1_unitOf_93 rfl hl (by decide) rfl (fun ls hl => ?_)
          refine lv_goto (tgt := 5) hx hb dX1_unitOf_94 (by decide) ?_
          exact ih x18 x16 σ H locs ls hg hI (lv_sub hl [2, 3, 4, 0, 1] rfl) kk
        · have hg := cIf_fe c11 hg
          refine lv_aload_n hx hb dX1_unitOf_61 rfl (lv_at hl 0 rfl) ?_
          refine mg_a S hin hK hI (ix := 50) (by decide +kernel) dX1_unitOf_62 ?_
          refine lv_iload_n hx hb dX1_unitOf_65 rfl (lv_at hl 3 rfl) ?_
          obtain ⟨c19, hg⟩ := ck_e hg
          obtain ⟨x20, ex20, hg⟩ := nmd_e hg
          refine mr_a S hK hI c19 ex20 dX1_unitOf_66 ?_
          refine lv_istore_n (lv' := [(3, .int x20), (0, .ref h0), (1, .int v1), (2, .int v2), (4, .int v4)]) hx hb dX1_unitOf_67 rfl hl (by decide) rfl (fun ls hl => ?_)
          refine lv_goto (tgt := 5) hx hb dX1_unitOf_68 (by decide) ?_
          exact ih x20 v4 σ H locs ls hg hI (lv_sub hl [1, 2, 3, 0, 4] rfl) kk
      · have hg := cIf_te c6 hg
        refine lv_iload hx hb dX1_unitOf_24 (lv_at hl 4 rfl) ?_
        refine lv_aload_n hx hb dX1_unitOf_26 rfl (lv_at hl 0 rfl) ?_
        refine mg_b S hin hK hI (ix := 53) (by decide +kernel) dX1_unitOf_27 ?_
        refine lv_iload_n hx hb dX1_unitOf_30 rfl (lv_at hl 3 rfl) ?_
        obtain ⟨c21, hg⟩ := ck_e hg
        obtain ⟨x22, ex22, hg⟩ := nmd_e hg
        refine mr_b S hK hI c21 ex22 dX1_unitOf_31 ?_
        refine lv_iadd hx hb dX1_unitOf_32 ?_
        obtain ⟨x23, ex23, hg⟩ := nmd_e hg
        refine wn_i ex23 ?_
        refine lv_istore (lv' := [(4, .int x23), (0, .ref h0), (1, .int v1), (2, .int v2), (3, .int v3)]) hx hb dX1_unitOf_33 hl (by decide) rfl (fun ls hl => ?_)
        refine lv_aload_n hx hb dX1_unitOf_35 rfl (lv_at hl 1 rfl) ?_
        refine mg_a S hin hK hI (ix := 50) (by decide +kernel) dX1_unitOf_36 ?_
        refine lv_iload_n hx hb dX1_unitOf_39 rfl (lv_at hl 4 rfl) ?_
        obtain ⟨c24, hg⟩ := ck_e hg
        obtain ⟨x25, ex25, hg⟩ := nmd_e hg
        refine mr_a S hK hI c24 ex25 dX1_unitOf_40 ?_
        refine lv_istore_n (lv' := [(3, .int x25), (4, .int x23), (0, .ref h0), (1, .int v1), (2, .int v2)]) hx hb dX1_unitOf_41 rfl hl (by decide) rfl (fun ls hl => ?_)
        refine lv_goto (tgt := 5) hx hb dX1_unitOf_42 (by decide) ?_
        exact ih x25 x23 σ H locs ls hg hI (lv_sub hl [2, 3, 4, 0, 1] rfl) kk
set_option maxHeartbeats 4000000 in
set_option maxRecDepth 100000 in
theorem kX1_unitOf (l : Launch) (G : gT) (h0 : Nat) (h : (Nat → Nat)) (sz F : Nat) (σ : mS) (p1 : Int32) (p2 : Int32) (r : Int32) (σr : mS) (hg : fX1_unitOf F σ p1 p2 = some (r, σr)) : Met l yX1_unitOf wsX1_unitOf rX1_unitOf (mPre G h0 h σ sz [.int p1, .int p2]) (mQi G h0 h r σr (mA G h0 h σ sz)) 0 0 (mA G h0 h σ sz) := by
  refine mMet (Qc := mQi G h0 h r σr) (by decide +kernel) rfl rfl (Nat.le_of_ble_eq_true rfl) ?_
  intro p e s m args below meth c A S hr hlocks hK hA H locs hI ls hl
  have hl : lv_has ls 5 [(0, .ref h0), (1, .int p1), (2, .int p2)] := hl
  have hin : ∀ w ∈ wsX10, w ∈ wsX1_unitOf := in_ws
  have hx := S.1
  have hb := S.2.1
  have hts := S.2.2.2.2
  have hown := S.2.2.2.1
  unfold fX1_unitOf at hg
  refine lv_iload_n hx hb dX1_unitOf_0 rfl (lv_at hl 1 rfl) ?_
  refine lv_istore_n (lv' := [(3, .int p1), (0, .ref h0), (1, .int p1), (2, .int p2)]) hx hb dX1_unitOf_1 rfl hl (by decide) rfl (fun ls hl => ?_)
  refine lv_iload_n hx hb dX1_unitOf_2 rfl (lv_at hl 3 rfl) ?_
  refine lv_istore (lv' := [(4, .int p2), (3, .int p1), (0, .ref h0), (1, .int p1), (2, .int p2)]) hx hb dX1_unitOf_3 hl (by decide) rfl (fun ls hl => ?_)
  refine lX1_unitOf_5 S hr hlocks hin hK hA p1 p2 F p1 p2 σ H locs ls hg hI (lv_sub hl [2, 3, 4, 1, 0] rfl) (fun w26 w27 σ28 H locs ls hg hI hl => ?_)
  refine lv_aload_n hx hb dX1_unitOf_97 rfl (lv_at hl 0 rfl) ?_
  refine mg_units S hin hK hI (ix := 56) (by decide +kernel) dX1_unitOf_98 ?_
  refine lv_iload_n hx hb dX1_unitOf_101 rfl (lv_at hl 3 rfl) ?_
  obtain ⟨c29, hg⟩ := ck_e hg
  obtain ⟨x30, ex30, hg⟩ := nmd_e hg
  refine mr_units S hK hI c29 ex30 dX1_unitOf_102 ?_
  refine lv_bipush (v := 16) hx hb dX1_unitOf_103 (by decide) ?_
  refine lv_aload_n hx hb dX1_unitOf_105 rfl (lv_at hl 0 rfl) ?_
  refine mg_length S hin hK hI (ix := 44) (by decide +kernel) dX1_unitOf_106 ?_
  refine lv_iload_n hx hb dX1_unitOf_109 rfl (lv_at hl 3 rfl) ?_
  obtain ⟨c31, hg⟩ := ck_e hg
  obtain ⟨x32, ex32, hg⟩ := nmd_e hg
  refine mr_length S hK hI c31 ex32 dX1_unitOf_110 ?_
  refine lv_iconst (v := 1) hx hb dX1_unitOf_111 (by decide) ?_
  refine lv_isub hx hb dX1_unitOf_112 ?_
  refine lv_iload hx hb dX1_unitOf_113 (lv_at hl 4 rfl) ?_
  refine lv_isub hx hb dX1_unitOf_115 ?_
  refine lv_imul hx hb dX1_unitOf_116 ?_
  refine lv_lshr (v := (x30 >>> ((16 * ((x32 - 1) - w27)).toInt64 &&& 63))) hx hb dX1_unitOf_117 rfl ?_
  refine lv_ldc2 (v := 65535) hx hb hown (hts (.constantLong RX1 125 (65535)) (by decide +kernel)) dX1_unitOf_118 ?_
  refine lv_land hx hb dX1_unitOf_121 ?_
  refine lv_l2i (v := ((x30 >>> ((16 * ((x32 - 1) - w27)).toInt64 &&& 63)) &&& 65535).toInt32) hx hb dX1_unitOf_122 rfl ?_
  exact me_i S hr hlocks hK hI hg dX1_unitOf_123
-- OwnMemoryModel.goOver
abbrev rX1_goOver : Room := { frames := 4, cells := 0, slots := 0, locals := 89 }
theorem nX1_goOver : yX1_goOver.cls = RX1 ∧ yX1_goOver.cls ≠ "java/lang/invoke/MethodHandle" ∧ yX1_goOver.cls ≠ "java/lang/invoke/VarHandle" ∧ (parseMethodDescriptor yX1_goOver.desc).map (fun d => d.parameters.length) = some 1 := by decide +kernel
noncomputable def fX1_goOver (F : Nat) (σ : mS) (p1 : Int32) : Option (Int32 × mS) := ck (vp_in p1 4096) (nmd (m_kind σ p1.toNatClampNeg) (fun x2 => cIf (x2 = 3) (ck (vp_in p1 4096) (nmd (m_length σ p1.toNatClampNeg) (fun x5 => bnd (fX1_make F σ 2 x5 1) (fun r7 σ6 => cIf (r7 = 0) (some (0, σ6)) (ck (vp_in r7 4096) (nmd (m_s_a σ6 (upd (m_a σ6) r7.toNatClampNeg p1)) (fun σ10 => ck (vp_in r7 4096) (nmd (m_s_b σ10 (upd (m_b σ10) r7.toNatClampNeg 0)) (fun σ12 => ck (vp_in p1 4096) (nmd (m_s_kind σ12 (upd (m_kind σ12) p1.toNatClampNeg 4)) (fun σ14 => ck (vp_in p1 4096) (nmd (m_s_spread σ14 (upd (m_spread σ14) p1.toNatClampNeg r7)) (fun σ16 => some (1, σ16)))))))))))))) (some (1, σ))))
set_option maxHeartbeats 4000000 in
set_option maxRecDepth 100000 in
theorem kX1_goOver (l : Launch) (G : gT) (h0 : Nat) (h : (Nat → Nat)) (sz F : Nat) (σ : mS) (p1 : Int32) (r : Int32) (σr : mS) (hg : fX1_goOver F σ p1 = some (r, σr)) : Met l yX1_goOver wsX1_goOver rX1_goOver (mPre G h0 h σ sz [.int p1]) (mQi G h0 h r σr (mA G h0 h σ sz)) 0 0 (mA G h0 h σ sz) := by
  refine mMet (Qc := mQi G h0 h r σr) (by decide +kernel) rfl rfl (Nat.le_of_ble_eq_true rfl) ?_
  intro p e s m args below meth c A S hr hlocks hK hA H locs hI ls hl
  have hl : lv_has ls 3 [(0, .ref h0), (1, .int p1)] := hl
  have hin : ∀ w ∈ wsX10, w ∈ wsX1_goOver := by decide +kernel
  have hx := S.1
  have hb := S.2.1
  have hts := S.2.2.2.2
  have hown := S.2.2.2.1
  unfold fX1_goOver at hg
  refine lv_aload_n hx hb dX1_goOver_0 rfl (lv_at hl 0 rfl) ?_
  refine mg_kind S hin hK hI (ix := 17) (by decide +kernel) dX1_goOver_1 ?_
  refine lv_iload_n hx hb dX1_goOver_4 rfl (lv_at hl 1 rfl) ?_
  obtain ⟨c1, hg⟩ := ck_e hg
  obtain ⟨x2, ex2, hg⟩ := nmd_e hg
  refine mr_kind S hK hI c1 ex2 dX1_goOver_5 ?_
  refine lv_iconst (v := 3) hx hb dX1_goOver_6 (by decide) ?_
  refine lv_icmp_eq (tgt := 12) hx hb dX1_goOver_7 (by decide) (fun c3 => ?_) (fun c3 => ?_)
  · have hg := cIf_te c3 hg
    refine lv_aload_n hx hb dX1_goOver_12 rfl (lv_at hl 0 rfl) ?_
    refine lv_iconst (v := 2) hx hb dX1_goOver_13 (by decide) ?_
    refine lv_aload_n hx hb dX1_goOver_14 rfl (lv_at hl 0 rfl) ?_
    refine mg_length S hin hK hI (ix := 44) (by decide +kernel) dX1_goOver_15 ?_
    refine lv_iload_n hx hb dX1_goOver_18 rfl (lv_at hl 1 rfl) ?_
    obtain ⟨c4, hg⟩ := ck_e hg
    obtain ⟨x5, ex5, hg⟩ := nmd_e hg
    refine mr_length S hK hI c4 ex5 dX1_goOver_19 ?_
    refine lv_iconst (v := 1) hx hb dX1_goOver_20 (by decide) ?_
    obtain ⟨r7, σ6, er7, hg⟩ := bnd_e hg
    refine mc_i S hK hA hI (As := [.int 2, .int x5, .int 1]) (rest := []) (kX1_make l G h0 h H.size F σ 2 x5 1  r7 σ6 er7) (cwV 3 hts gX1_goOver_X1_make rfl rfl rfl nX1_make ⟨Nat.le_of_ble_eq_true rfl, Nat.le_of_ble_eq_true rfl⟩) rfl hl.1 rfl (Nat.le_of_ble_eq_true rfl) dX1_goOver_21 ⟨Nat.le_refl _, Nat.le_refl _⟩ (fun H locs hI => ?_)
    refine lv_istore_n (lv' := [(2, .int r7), (0, .ref h0), (1, .int p1)]) hx hb dX1_goOver_24 rfl hl (by decide) rfl (fun ls hl => ?_)
    refine lv_iload_n hx hb dX1_goOver_25 rfl (lv_at hl 0 rfl) ?_
    refine lv_if_ne (tgt := 31) hx hb dX1_goOver_26 (by decide) (fun c8 => ?_) (fun c8 => ?_)
    · have hg := cIf_fe c8 hg
      refine lv_aload_n hx hb dX1_goOver_31 rfl (lv_at hl 1 rfl) ?_
      refine mg_a S hin hK hI (ix := 50) (by decide +kernel) dX1_goOver_32 ?_
      refine lv_iload_n hx hb dX1_goOver_35 rfl (lv_at hl 0 rfl) ?_
      refine lv_iload_n hx hb dX1_goOver_36 rfl (lv_at hl 2 rfl) ?_
      obtain ⟨c9, hg⟩ := ck_e hg
      obtain ⟨σ10, eσ10, hg⟩ := nmd_e hg
      refine mu_a S hK hI c9 eσ10 dX1_goOver_37 (fun H locs hI => ?_)
      refine lv_aload_n hx hb dX1_goOver_38 rfl (lv_at hl 1 rfl) ?_
      refine mg_b S hin hK hI (ix := 53) (by decide +kernel) dX1_goOver_39 ?_
      refine lv_iload_n hx hb dX1_goOver_42 rfl (lv_at hl 0 rfl) ?_
      refine lv_iconst (v := 0) hx hb dX1_goOver_43 (by decide) ?_
      obtain ⟨c11, hg⟩ := ck_e hg
      obtain ⟨σ12, eσ12, hg⟩ := nmd_e hg
      refine mu_b S hK hI c11 eσ12 dX1_goOver_44 (fun H locs hI => ?_)
      refine lv_aload_n hx hb dX1_goOver_45 rfl (lv_at hl 1 rfl) ?_
      refine mg_kind S hin hK hI (ix := 17) (by decide +kernel) dX1_goOver_46 ?_
      refine lv_iload_n hx hb dX1_goOver_49 rfl (lv_at hl 2 rfl) ?_
      refine lv_iconst (v := 4) hx hb dX1_goOver_50 (by decide) ?_
      obtain ⟨c13, hg⟩ := ck_e hg
      obtain ⟨σ14, eσ14, hg⟩ := nmd_e hg
      refine mu_kind S hK hI c13 eσ14 dX1_goOver_51 (fun H locs hI => ?_)
      refine lv_aload_n hx hb dX1_goOver_52 rfl (lv_at hl 1 rfl) ?_
      refine mg_spread S hin hK hI (ix := 59) (by decide +kernel) dX1_goOver_53 ?_
      refine lv_iload_n hx hb dX1_goOver_56 rfl (lv_at hl 2 rfl) ?_
      refine lv_iload_n hx hb dX1_goOver_57 rfl (lv_at hl 0 rfl) ?_
      obtain ⟨c15, hg⟩ := ck_e hg
      obtain ⟨σ16, eσ16, hg⟩ := nmd_e hg
      refine mu_spread S hK hI c15 eσ16 dX1_goOver_58 (fun H locs hI => ?_)
      refine lv_iconst (v := 1) hx hb dX1_goOver_59 (by decide) ?_
      exact me_z S hr hlocks hK hI rfl hg dX1_goOver_60
    · have hg := cIf_te c8 hg
      refine lv_iconst (v := 0) hx hb dX1_goOver_29 (by decide) ?_
      exact me_z S hr hlocks hK hI rfl hg dX1_goOver_30
  · have hg := cIf_fe c3 hg
    refine lv_iconst (v := 1) hx hb dX1_goOver_10 (by decide) ?_
    exact me_z S hr hlocks hK hI rfl hg dX1_goOver_11
-- OwnMemoryModel.full
abbrev rX1_full : Room := { frames := 0, cells := 0, slots := 0, locals := 0 }
theorem nX1_full : yX1_full.cls = RX1 ∧ yX1_full.cls ≠ "java/lang/invoke/MethodHandle" ∧ yX1_full.cls ≠ "java/lang/invoke/VarHandle" ∧ (parseMethodDescriptor yX1_full.desc).map (fun d => d.parameters.length) = some 1 := by decide +kernel
noncomputable def fX1_full (F : Nat) (σ : mS) (p1 : Int32) : Option (Int32 × mS) := cIf (p1 = 0) (nmd (m_s_thrown σ 2) (fun σ3 => some (p1, σ3))) (nmd (m_s_thrown σ 0) (fun σ2 => some (p1, σ2)))
set_option maxHeartbeats 4000000 in
set_option maxRecDepth 100000 in
theorem kX1_full (l : Launch) (G : gT) (h0 : Nat) (h : (Nat → Nat)) (sz F : Nat) (σ : mS) (p1 : Int32) (r : Int32) (σr : mS) (hg : fX1_full F σ p1 = some (r, σr)) : Met l yX1_full wsX1_full rX1_full (mPre G h0 h σ sz [.int p1]) (mQi G h0 h r σr (mA G h0 h σ sz)) 0 0 (mA G h0 h σ sz) := by
  refine mMet (Qc := mQi G h0 h r σr) (by decide +kernel) rfl rfl (Nat.le_of_ble_eq_true rfl) ?_
  intro p e s m args below meth c A S hr hlocks hK hA H locs hI ls hl
  have hl : lv_has ls 2 [(0, .ref h0), (1, .int p1)] := hl
  have hin : ∀ w ∈ wsX10, w ∈ wsX1_full := in_ws
  have hx := S.1
  have hb := S.2.1
  have hts := S.2.2.2.2
  have hown := S.2.2.2.1
  unfold fX1_full at hg
  refine lv_aload_n hx hb dX1_full_0 rfl (lv_at hl 0 rfl) ?_
  refine lv_iload_n hx hb dX1_full_1 rfl (lv_at hl 1 rfl) ?_
  refine lv_if_ne (tgt := 9) hx hb dX1_full_2 (by decide) (fun c1 => ?_) (fun c1 => ?_)
  · have hg := cIf_fe c1 hg
    refine lv_iconst (v := 0) hx hb dX1_full_9 (by decide) ?_
    obtain ⟨σ2, eσ2, hg⟩ := nmd_e hg
    refine mp_thrown S hin hK hI (ix := 73) (by decide +kernel) eσ2 dX1_full_10 (fun H locs hI => ?_)
    refine lv_iload_n hx hb dX1_full_13 rfl (lv_at hl 1 rfl) ?_
    exact me_i S hr hlocks hK hI hg dX1_full_14
  · have hg := cIf_te c1 hg
    refine lv_iconst (v := 2) hx hb dX1_full_5 (by decide) ?_
    refine lv_goto (tgt := 10) hx hb dX1_full_6 (by decide) ?_
    obtain ⟨σ3, eσ3, hg⟩ := nmd_e hg
    refine mp_thrown S hin hK hI (ix := 73) (by decide +kernel) eσ3 dX1_full_10 (fun H locs hI => ?_)
    refine lv_iload_n hx hb dX1_full_13 rfl (lv_at hl 1 rfl) ?_
    exact me_i S hr hlocks hK hI hg dX1_full_14
-- OwnMemoryModel.text
abbrev rX1_text : Room := { frames := 4, cells := 0, slots := 0, locals := 89 }
theorem nX1_text : yX1_text.cls = RX1 ∧ yX1_text.cls ≠ "java/lang/invoke/MethodHandle" ∧ yX1_text.cls ≠ "java/lang/invoke/VarHandle" ∧ (parseMethodDescriptor yX1_text.desc).map (fun d => d.parameters.length) = some 3 := by decide +kernel
noncomputable def JX1_text_23 (F : Nat) (σ : mS) (v1 : Int32) (v2 : Int64) (v4 : Int32) (t1 : Int32) : Option mS := bnd (fX1_says F σ t1) (fun r4 σ3 => cIf (r4 = 0) (some σ3) (bnd (fX1_make F σ3 2 v4 0) (fun r7 σ6 => bnd (fX1_full F σ6 r7) (fun r9 σ8 => cIf (r9 = 0) (some σ8) (ck (vp_in r9 4096) (nmd (m_s_units σ8 (vp_updL (m_units σ8) r9.toNatClampNeg v2)) (fun σ12 => ck (vp_in v1 24) (nmd (m_s_root σ12 (upd (m_root σ12) v1.toNatClampNeg r9)) (fun σ14 => some σ14)))))))))
noncomputable def JX1_text_22 (F : Nat) (σ : mS) (v1 : Int32) (v2 : Int64) (v4 : Int32) : Option mS := JX1_text_23 F σ v1 v2 v4 0
noncomputable def fX1_text (F : Nat) (σ : mS) (p1 : Int32) (p2 : Int64) (p3 : Int32) : Option mS := bnp (fX1_isRoot F p1) (fun r1 => cIf (r1 = 0) (JX1_text_22 F σ p1 p2 p3) (bnp (fX1_in F p3 0 4) (fun r15 => cIf (r15 = 0) (JX1_text_22 F σ p1 p2 p3) (JX1_text_23 F σ p1 p2 p3 1))))
set_option maxHeartbeats 4000000 in
set_option maxRecDepth 100000 in
theorem jX1_text_23 {p : Program} {l : Launch} {e : Env} {s : State} {m : MethodId} {args : Array Value} {below : List Frame} {meth : Method} {c : Code} {A : Nat → Prop} {G : gT} {h0 : Nat} {h : (Nat → Nat)} {F : Nat} (S : CallFix p m c cX1_text 6 s args wsX1_text RX1) (hr : meth.sig.returnType = none) (hlocks : meth.locks = false) (hin : ∀ w ∈ wsX10, w ∈ wsX1_text) (hK : gK G s) (hA : ∀ q, s.heap.size ≤ q → A q) {res : mS} (σ : mS) (v1 : Int32) (v2 : Int64) (v4 : Int32) (t1 : Int32) (H : Heap) (locs : List Loc) (ls : Array Slot) (hg : JX1_text_23 F σ v1 v2 v4 t1 = some res) (hI : mI s A G h0 h σ H locs) (hl : lv_has ls 6 [(0, .ref h0), (1, .int v1), (2, .long v2), (4, .int v4)]) : W p l e rX1_text s m args below meth c H locs 0 0 (MQ below (mQv G h0 h res A) args s 0 0 A) (F0 m 23 ls [.int t1, .ref h0]) := by
  have hx := S.1
  have hb := S.2.1
  have hts := S.2.2.2.2
  have hown := S.2.2.2.1
  unfold JX1_text_23 at hg
  obtain ⟨r4, σ3, er4, hg⟩ := bnd_e hg
  refine mc_i S hK hA hI (As := [.int t1]) (rest := []) (kX1_says l G h0 h H.size F σ t1  r4 σ3 er4) (cwV 1 hts gX1_text_X1_says rfl rfl rfl nX1_says ⟨Nat.le_of_ble_eq_true rfl, Nat.le_of_ble_eq_true rfl⟩) rfl hl.1 rfl (Nat.le_of_ble_eq_true rfl) dX1_text_23 ⟨Nat.le_refl _, Nat.le_refl _⟩ (fun H locs hI => ?_)
  refine lv_if_ne (tgt := 30) hx hb dX1_text_26 (by decide) (fun c5 => ?_) (fun c5 => ?_)
  · have hg := cIf_fe c5 hg
    refine lv_aload_n hx hb dX1_text_30 rfl (lv_at hl 0 rfl) ?_
    refine lv_aload_n hx hb dX1_text_31 rfl (lv_at hl 0 rfl) ?_
    refine lv_iconst (v := 2) hx hb dX1_text_32 (by decide) ?_
    refine lv_iload hx hb dX1_text_33 (lv_at hl 3 rfl) ?_
    refine lv_iconst (v := 0) hx hb dX1_text_35 (by decide) ?_
    obtain ⟨r7, σ6, er7, hg⟩ := bnd_e hg
    refine mc_i S hK hA hI (As := [.int 2, .int v4, .int 0]) (rest := [.ref h0]) (kX1_make l G h0 h H.size F σ3 2 v4 0  r7 σ6 er7) (cwV 3 hts gX1_text_X1_make rfl rfl rfl nX1_make ⟨Nat.le_of_ble_eq_true rfl, Nat.le_of_ble_eq_true rfl⟩) rfl hl.1 rfl (Nat.le_of_ble_eq_true rfl) dX1_text_36 ⟨Nat.le_refl _, Nat.le_refl _⟩ (fun H locs hI => ?_)
    obtain ⟨r9, σ8, er9, hg⟩ := bnd_e hg
    refine mc_i S hK hA hI (As := [.int r7]) (rest := []) (kX1_full l G h0 h H.size F σ6 r7  r9 σ8 er9) (cwV 1 hts gX1_text_X1_full rfl rfl rfl nX1_full ⟨Nat.le_of_ble_eq_true rfl, Nat.le_of_ble_eq_true rfl⟩) rfl hl.1 rfl (Nat.le_of_ble_eq_true rfl) dX1_text_39 ⟨Nat.le_refl _, Nat.le_refl _⟩ (fun H locs hI => ?_)
    refine lv_istore (lv' := [(5, .int r9), (0, .ref h0), (1, .int v1), (2, .long v2), (4, .int v4)]) hx hb dX1_text_42 hl (by decide) rfl (fun ls hl => ?_)
    refine lv_iload hx hb dX1_text_44 (lv_at hl 0 rfl) ?_
    refine lv_if_ne (tgt := 50) hx hb dX1_text_46 (by decide) (fun c10 => ?_) (fun c10 => ?_)
    · have hg := cIf_fe c10 hg
      refine lv_aload_n hx hb dX1_text_50 rfl (lv_at hl 1 rfl) ?_
      refine mg_units S hin hK hI (ix := 56) (by decide +kernel) dX1_text_51 ?_
      refine lv_iload hx hb dX1_text_54 (lv_at hl 0 rfl) ?_
      refine lv_lload_n hx hb dX1_text_56 rfl (lv_at hl 3 rfl) ?_
      obtain ⟨c11, hg⟩ := ck_e hg
      obtain ⟨σ12, eσ12, hg⟩ := nmd_e hg
      refine mu_units S hK hI c11 eσ12 dX1_text_57 (fun H locs hI => ?_)
      refine lv_aload_n hx hb dX1_text_58 rfl (lv_at hl 1 rfl) ?_
      refine mg_root S hin hK hI (ix := 9) (by decide +kernel) dX1_text_59 ?_
      refine lv_iload_n hx hb dX1_text_62 rfl (lv_at hl 2 rfl) ?_
      refine lv_iload hx hb dX1_text_63 (lv_at hl 0 rfl) ?_
      obtain ⟨c13, hg⟩ := ck_e hg
      obtain ⟨σ14, eσ14, hg⟩ := nmd_e hg
      refine mu_root S hK hI c13 eσ14 dX1_text_65 (fun H locs hI => ?_)
      exact me_v S hr hlocks hK hI hg dX1_text_66
    · have hg := cIf_te c10 hg
      exact me_v S hr hlocks hK hI hg dX1_text_49
  · have hg := cIf_te c5 hg
    exact me_v S hr hlocks hK hI hg dX1_text_29
set_option maxHeartbeats 4000000 in
set_option maxRecDepth 100000 in
theorem jX1_text_22 {p : Program} {l : Launch} {e : Env} {s : State} {m : MethodId} {args : Array Value} {below : List Frame} {meth : Method} {c : Code} {A : Nat → Prop} {G : gT} {h0 : Nat} {h : (Nat → Nat)} {F : Nat} (S : CallFix p m c cX1_text 6 s args wsX1_text RX1) (hr : meth.sig.returnType = none) (hlocks : meth.locks = false) (hin : ∀ w ∈ wsX10, w ∈ wsX1_text) (hK : gK G s) (hA : ∀ q, s.heap.size ≤ q → A q) {res : mS} (σ : mS) (v1 : Int32) (v2 : Int64) (v4 : Int32) (H : Heap) (locs : List Loc) (ls : Array Slot) (hg : JX1_text_22 F σ v1 v2 v4 = some res) (hI : mI s A G h0 h σ H locs) (hl : lv_has ls 6 [(0, .ref h0), (1, .int v1), (2, .long v2), (4, .int v4)]) : W p l e rX1_text s m args below meth c H locs 0 0 (MQ below (mQv G h0 h res A) args s 0 0 A) (F0 m 22 ls [.ref h0]) := by
  have hx := S.1
  have hb := S.2.1
  have hts := S.2.2.2.2
  have hown := S.2.2.2.1
  unfold JX1_text_22 at hg
  refine lv_iconst (v := 0) hx hb dX1_text_22 (by decide) ?_
  exact jX1_text_23 S hr hlocks hin hK hA σ v1 v2 v4 0 H locs ls hg hI (lv_sub hl [0, 1, 2, 3] rfl)
set_option maxHeartbeats 4000000 in
set_option maxRecDepth 100000 in
theorem kX1_text (l : Launch) (G : gT) (h0 : Nat) (h : (Nat → Nat)) (sz F : Nat) (σ : mS) (p1 : Int32) (p2 : Int64) (p3 : Int32) (σr : mS) (hg : fX1_text F σ p1 p2 p3 = some σr) : Met l yX1_text wsX1_text rX1_text (mPre G h0 h σ sz [.int p1, .long p2, .int p3]) (mQv G h0 h σr (mA G h0 h σ sz)) 0 0 (mA G h0 h σ sz) := by
  refine mMet (Qc := mQv G h0 h σr) (by decide +kernel) rfl rfl (Nat.le_of_ble_eq_true rfl) ?_
  intro p e s m args below meth c A S hr hlocks hK hA H locs hI ls hl
  have hl : lv_has ls 6 [(0, .ref h0), (1, .int p1), (2, .long p2), (4, .int p3)] := hl
  have hin : ∀ w ∈ wsX10, w ∈ wsX1_text := by decide +kernel
  have hx := S.1
  have hb := S.2.1
  have hts := S.2.2.2.2
  have hown := S.2.2.2.1
  unfold fX1_text at hg
  refine lv_aload_n hx hb dX1_text_0 rfl (lv_at hl 0 rfl) ?_
  refine lv_iload_n hx hb dX1_text_1 rfl (lv_at hl 1 rfl) ?_
  obtain ⟨r1, er1, hg⟩ := bnp_e hg
  refine ms_i S hA hI (As := [.int p1]) (rest := [.ref h0]) (kX1_isRoot l H.size F p1 r1 er1) (va_cwS 1 hts gX1_text_X1_isRoot rfl rfl rfl nX1_isRoot ⟨Nat.le_of_ble_eq_true rfl, Nat.le_of_ble_eq_true rfl⟩) rfl hl.1 rfl (Nat.le_of_ble_eq_true rfl) dX1_text_2 ⟨Nat.le_refl _, Nat.le_refl _⟩ (fun H locs hI => ?_)
  refine lv_if_eq (tgt := 22) hx hb dX1_text_5 (by decide) (fun c2 => ?_) (fun c2 => ?_)
  · have hg := cIf_te c2 hg
    exact jX1_text_22 S hr hlocks hin hK hA σ p1 p2 p3 H locs ls hg hI (lv_sub hl [0, 1, 2, 3] rfl)
  · have hg := cIf_fe c2 hg
    refine lv_iload hx hb dX1_text_8 (lv_at hl 3 rfl) ?_
    refine lv_iconst (v := 0) hx hb dX1_text_10 (by decide) ?_
    refine lv_iconst (v := 4) hx hb dX1_text_11 (by decide) ?_
    obtain ⟨r15, er15, hg⟩ := bnp_e hg
    refine ms_i S hA hI (As := [.int p3, .int 0, .int 4]) (rest := [.ref h0]) (kX1_in l H.size F p3 0 4 r15 er15) (va_cwS 3 hts gX1_text_X1_in rfl rfl rfl nX1_in ⟨Nat.le_of_ble_eq_true rfl, Nat.le_of_ble_eq_true rfl⟩) rfl hl.1 rfl (Nat.le_of_ble_eq_true rfl) dX1_text_12 ⟨Nat.le_refl _, Nat.le_refl _⟩ (fun H locs hI => ?_)
    refine lv_if_eq (tgt := 22) hx hb dX1_text_15 (by decide) (fun c16 => ?_) (fun c16 => ?_)
    · have hg := cIf_te c16 hg
      exact jX1_text_22 S hr hlocks hin hK hA σ p1 p2 p3 H locs ls hg hI (lv_sub hl [0, 1, 2, 3] rfl)
    · have hg := cIf_fe c16 hg
      refine lv_iconst (v := 1) hx hb dX1_text_18 (by decide) ?_
      refine lv_goto (tgt := 23) hx hb dX1_text_19 (by decide) ?_
      exact jX1_text_23 S hr hlocks hin hK hA σ p1 p2 p3 1 H locs ls hg hI (lv_sub hl [0, 1, 2, 3] rfl)
-- OwnMemoryModel.join
abbrev rX1_join : Room := { frames := 4, cells := 0, slots := 0, locals := 89 }
theorem nX1_join : yX1_join.cls = RX1 ∧ yX1_join.cls ≠ "java/lang/invoke/MethodHandle" ∧ yX1_join.cls ≠ "java/lang/invoke/VarHandle" ∧ (parseMethodDescriptor yX1_join.desc).map (fun d => d.parameters.length) = some 3 := by decide +kernel
noncomputable def JX1_join_89 (F : Nat) (σ : mS) (v1 : Int32) (v2 : Int32) (v3 : Int32) (v4 : Int32) (v5 : Int32) (v6 : Int32) : Option mS := ck (vp_in v4 4096) (nmd (m_length σ v4.toNatClampNeg) (fun x19 => cIf (x19 = 0) (ck (vp_in v1 24) (nmd (m_s_root σ (upd (m_root σ) v1.toNatClampNeg v5)) (fun σ24 => some σ24))) (ck (vp_in v1 24) (nmd (m_s_root σ (upd (m_root σ) v1.toNatClampNeg v4)) (fun σ22 => some σ22)))))
noncomputable def JX1_join_144 (F : Nat) (σ : mS) (v1 : Int32) (v2 : Int32) (v3 : Int32) (v4 : Int32) (v5 : Int32) (v6 : Int32) (t0 : Int32) : Option mS := bnd (fX1_full F σ t0) (fun r33 σ32 => cIf (r33 = 0) (some σ32) (ck (vp_in t0 4096) (nmd (m_s_a σ32 (upd (m_a σ32) t0.toNatClampNeg v4)) (fun σ36 => ck (vp_in t0 4096) (nmd (m_s_b σ36 (upd (m_b σ36) t0.toNatClampNeg v5)) (fun σ38 => ck (vp_in v1 24) (nmd (m_s_root σ38 (upd (m_root σ38) v1.toNatClampNeg t0)) (fun σ40 => some σ40))))))))
noncomputable def JX1_join_138 (F : Nat) (σ : mS) (v1 : Int32) (v2 : Int32) (v3 : Int32) (v4 : Int32) (v5 : Int32) (v6 : Int32) (t1 : Int32) : Option mS := bnd (fX1_make F σ t1 v6 2) (fun r31 σ30 => JX1_join_144 F σ30 v1 v2 v3 v4 v5 v6 r31)
noncomputable def JX1_join_29 (F : Nat) (σ : mS) (v1 : Int32) (v2 : Int32) (v3 : Int32) (t1 : Int32) : Option mS := bnd (fX1_says F σ t1) (fun r4 σ3 => cIf (r4 = 0) (some σ3) (ck (vp_in v2 24) (nmd (m_root σ3 v2.toNatClampNeg) (fun x7 => ck (vp_in v3 24) (nmd (m_root σ3 v3.toNatClampNeg) (fun x9 => ck (vp_in x7 4096) (nmd (m_length σ3 x7.toNatClampNeg) (fun x11 => ck (vp_in x9 4096) (nmd (m_length σ3 x9.toNatClampNeg) (fun x13 => nmd (x11 + x13) (fun x14 => ck (vp_in x7 4096) (nmd (m_length σ3 x7.toNatClampNeg) (fun x16 => cIf (x16 = 0) (JX1_join_89 F σ3 v1 v2 v3 x7 x9 x14) (ck (vp_in x9 4096) (nmd (m_length σ3 x9.toNatClampNeg) (fun x26 => cIf (x26 = 0) (JX1_join_89 F σ3 v1 v2 v3 x7 x9 x14) (cIf (x14 ≤ 4000) (cIf (x14 ≤ 24) (JX1_join_138 F σ3 v1 v2 v3 x7 x9 x14 2) (JX1_join_138 F σ3 v1 v2 v3 x7 x9 x14 3)) (JX1_join_144 F σ3 v1 v2 v3 x7 x9 x14 0))))))))))))))))))
noncomputable def JX1_join_28 (F : Nat) (σ : mS) (v1 : Int32) (v2 : Int32) (v3 : Int32) : Option mS := JX1_join_29 F σ v1 v2 v3 0
noncomputable def fX1_join (F : Nat) (σ : mS) (p1 : Int32) (p2 : Int32) (p3 : Int32) : Option mS := bnp (fX1_isRoot F p1) (fun r1 => cIf (r1 = 0) (JX1_join_28 F σ p1 p2 p3) (bnd (fX1_isText F σ p2) (fun r42 σ41 => cIf (r42 = 0) (JX1_join_28 F σ41 p1 p2 p3) (bnd (fX1_isText F σ41 p3) (fun r45 σ44 => cIf (r45 = 0) (JX1_join_28 F σ44 p1 p2 p3) (JX1_join_29 F σ44 p1 p2 p3 1))))))
set_option maxHeartbeats 4000000 in
set_option maxRecDepth 100000 in
theorem jX1_join_89 {p : Program} {l : Launch} {e : Env} {s : State} {m : MethodId} {args : Array Value} {below : List Frame} {meth : Method} {c : Code} {A : Nat → Prop} {G : gT} {h0 : Nat} {h : (Nat → Nat)} {F : Nat} (S : CallFix p m c cX1_join 8 s args wsX1_join RX1) (hr : meth.sig.returnType = none) (hlocks : meth.locks = false) (hin : ∀ w ∈ wsX10, w ∈ wsX1_join) (hK : gK G s) (hA : ∀ q, s.heap.size ≤ q → A q) {res : mS} (σ : mS) (v1 : Int32) (v2 : Int32) (v3 : Int32) (v4 : Int32) (v5 : Int32) (v6 : Int32) (H : Heap) (locs : List Loc) (ls : Array Slot) (hg : JX1_join_89 F σ v1 v2 v3 v4 v5 v6 = some res) (hI : mI s A G h0 h σ H locs) (hl : lv_has ls 8 [(0, .ref h0), (1, .int v1), (2, .int v2), (3, .int v3), (4, .int v4), (5, .int v5), (6, .int v6)]) : W p l e rX1_join s m args below meth c H locs 0 0 (MQ below (mQv G h0 h res A) args s 0 0 A) (F0 m 89 ls []) := by
  have hx := S.1
  have hb := S.2.1
  have hts := S.2.2.2.2
  have hown := S.2.2.2.1
  unfold JX1_join_89 at hg
  refine lv_aload_n hx hb dX1_join_89 rfl (lv_at hl 0 rfl) ?_
  refine mg_root S hin hK hI (ix := 9) (by decide +kernel) dX1_join_90 ?_
  refine lv_iload_n hx hb dX1_join_93 rfl (lv_at hl 1 rfl) ?_
  refine lv_aload_n hx hb dX1_join_94 rfl (lv_at hl 0 rfl) ?_
  refine mg_length S hin hK hI (ix := 44) (by decide +kernel) dX1_join_95 ?_
  refine lv_iload hx hb dX1_join_98 (lv_at hl 4 rfl) ?_
  obtain ⟨c18, hg⟩ := ck_e hg
  obtain ⟨x19, ex19, hg⟩ := nmd_e hg
  refine mr_length S hK hI c18 ex19 dX1_join_100 ?_
  refine lv_if_ne (tgt := 109) hx hb dX1_join_101 (by decide) (fun c20 => ?_) (fun c20 => ?_)
  · have hg := cIf_fe c20 hg
    refine lv_iload hx hb dX1_join_109 (lv_at hl 4 rfl) ?_
    obtain ⟨c21, hg⟩ := ck_e hg
    obtain ⟨σ22, eσ22, hg⟩ := nmd_e hg
    refine mu_root S hK hI c21 eσ22 dX1_join_111 (fun H locs hI => ?_)
    exact me_v S hr hlocks hK hI hg dX1_join_112
  · have hg := cIf_te c20 hg
    refine lv_iload hx hb dX1_join_104 (lv_at hl 5 rfl) ?_
    refine lv_goto (tgt := 111) hx hb dX1_join_106 (by decide) ?_
    obtain ⟨c23, hg⟩ := ck_e hg
    obtain ⟨σ24, eσ24, hg⟩ := nmd_e hg
    refine mu_root S hK hI c23 eσ24 dX1_join_111 (fun H locs hI => ?_)
    exact me_v S hr hlocks hK hI hg dX1_join_112
set_option maxHeartbeats 4000000 in
set_option maxRecDepth 100000 in
theorem jX1_join_144 {p : Program} {l : Launch} {e : Env} {s : State} {m : MethodId} {args : Array Value} {below : List Frame} {meth : Method} {c : Code} {A : Nat → Prop} {G : gT} {h0 : Nat} {h : (Nat → Nat)} {F : Nat} (S : CallFix p m c cX1_join 8 s args wsX1_join RX1) (hr : meth.sig.returnType = none) (hlocks : meth.locks = false) (hin : ∀ w ∈ wsX10, w ∈ wsX1_join) (hK : gK G s) (hA : ∀ q, s.heap.size ≤ q → A q) {res : mS} (σ : mS) (v1 : Int32) (v2 : Int32) (v3 : Int32) (v4 : Int32) (v5 : Int32) (v6 : Int32) (t0 : Int32) (H : Heap) (locs : List Loc) (ls : Array Slot) (hg : JX1_join_144 F σ v1 v2 v3 v4 v5 v6 t0 = some res) (hI : mI s A G h0 h σ H locs) (hl : lv_has ls 8 [(0, .ref h0), (1, .int v1), (2, .int v2), (3, .int v3), (4, .int v4), (5, .int v5), (6, .int v6)]) : W p l e rX1_join s m args below meth c H locs 0 0 (MQ below (mQv G h0 h res A) args s 0 0 A) (F0 m 144 ls [.int t0]) := by
  have hx := S.1
  have hb := S.2.1
  have hts := S.2.2.2.2
  have hown := S.2.2.2.1
  unfold JX1_join_144 at hg
  refine lv_istore (lv' := [(7, .int t0), (0, .ref h0), (1, .int v1), (2, .int v2), (3, .int v3), (4, .int v4), (5, .int v5), (6, .int v6)]) hx hb dX1_join_144 hl (by decide) rfl (fun ls hl => ?_)
  refine lv_aload_n hx hb dX1_join_146 rfl (lv_at hl 1 rfl) ?_
  refine lv_iload hx hb dX1_join_147 (lv_at hl 0 rfl) ?_
  obtain ⟨r33, σ32, er33, hg⟩ := bnd_e hg
  refine mc_i S hK hA hI (As := [.int t0]) (rest := []) (kX1_full l G h0 h H.size F σ t0  r33 σ32 er33) (cwV 1 hts gX1_join_X1_full rfl rfl rfl nX1_full ⟨Nat.le_of_ble_eq_true rfl, Nat.le_of_ble_eq_true rfl⟩) rfl hl.1 rfl (Nat.le_of_ble_eq_true rfl) dX1_join_149 ⟨Nat.le_refl _, Nat.le_refl _⟩ (fun H locs hI => ?_)
  refine lv_if_ne (tgt := 156) hx hb dX1_join_152 (by decide) (fun c34 => ?_) (fun c34 => ?_)
  · have hg := cIf_fe c34 hg
    refine lv_aload_n hx hb dX1_join_156 rfl (lv_at hl 1 rfl) ?_
    refine mg_a S hin hK hI (ix := 50) (by decide +kernel) dX1_join_157 ?_
    refine lv_iload hx hb dX1_join_160 (lv_at hl 0 rfl) ?_
    refine lv_iload hx hb dX1_join_162 (lv_at hl 5 rfl) ?_
    obtain ⟨c35, hg⟩ := ck_e hg
    obtain ⟨σ36, eσ36, hg⟩ := nmd_e hg
    refine mu_a S hK hI c35 eσ36 dX1_join_164 (fun H locs hI => ?_)
    refine lv_aload_n hx hb dX1_join_165 rfl (lv_at hl 1 rfl) ?_
    refine mg_b S hin hK hI (ix := 53) (by decide +kernel) dX1_join_166 ?_
    refine lv_iload hx hb dX1_join_169 (lv_at hl 0 rfl) ?_
    refine lv_iload hx hb dX1_join_171 (lv_at hl 6 rfl) ?_
    obtain ⟨c37, hg⟩ := ck_e hg
    obtain ⟨σ38, eσ38, hg⟩ := nmd_e hg
    refine mu_b S hK hI c37 eσ38 dX1_join_173 (fun H locs hI => ?_)
    refine lv_aload_n hx hb dX1_join_174 rfl (lv_at hl 1 rfl) ?_
    refine mg_root S hin hK hI (ix := 9) (by decide +kernel) dX1_join_175 ?_
    refine lv_iload_n hx hb dX1_join_178 rfl (lv_at hl 2 rfl) ?_
    refine lv_iload hx hb dX1_join_179 (lv_at hl 0 rfl) ?_
    obtain ⟨c39, hg⟩ := ck_e hg
    obtain ⟨σ40, eσ40, hg⟩ := nmd_e hg
    refine mu_root S hK hI c39 eσ40 dX1_join_181 (fun H locs hI => ?_)
    exact me_v S hr hlocks hK hI hg dX1_join_182
  · have hg := cIf_te c34 hg
    exact me_v S hr hlocks hK hI hg dX1_join_155
set_option maxHeartbeats 4000000 in
set_option maxRecDepth 100000 in
theorem jX1_join_138 {p : Program} {l : Launch} {e : Env} {s : State} {m : MethodId} {args : Array Value} {below : List Frame} {meth : Method} {c : Code} {A : Nat → Prop} {G : gT} {h0 : Nat} {h : (Nat → Nat)} {F : Nat} (S : CallFix p m c cX1_join 8 s args wsX1_join RX1) (hr : meth.sig.returnType = none) (hlocks : meth.locks = false) (hin : ∀ w ∈ wsX10, w ∈ wsX1_join) (hK : gK G s) (hA : ∀ q, s.heap.size ≤ q → A q) {res : mS} (σ : mS) (v1 : Int32) (v2 : Int32) (v3 : Int32) (v4 : Int32) (v5 : Int32) (v6 : Int32) (t1 : Int32) (H : Heap) (locs : List Loc) (ls : Array Slot) (hg : JX1_join_138 F σ v1 v2 v3 v4 v5 v6 t1 = some res) (hI : mI s A G h0 h σ H locs) (hl : lv_has ls 8 [(0, .ref h0), (1, .int v1), (2, .int v2), (3, .int v3), (4, .int v4), (5, .int v5), (6, .int v6)]) : W p l e rX1_join s m args below meth c H locs 0 0 (MQ below (mQv G h0 h res A) args s 0 0 A) (F0 m 138 ls [.int t1, .ref h0]) := by
  have hx := S.1
  have hb := S.2.1
  have hts := S.2.2.2.2
  have hown := S.2.2.2.1
  unfold JX1_join_138 at hg
  refine lv_iload hx hb dX1_join_138 (lv_at hl 6 rfl) ?_
  refine lv_iconst (v := 2) hx hb dX1_join_140 (by decide) ?_
  obtain ⟨r31, σ30, er31, hg⟩ := bnd_e hg
  refine mc_i S hK hA hI (As := [.int t1, .int v6, .int 2]) (rest := []) (kX1_make l G h0 h H.size F σ t1 v6 2  r31 σ30 er31) (cwV 3 hts gX1_join_X1_make rfl rfl rfl nX1_make ⟨Nat.le_of_ble_eq_true rfl, Nat.le_of_ble_eq_true rfl⟩) rfl hl.1 rfl (Nat.le_of_ble_eq_true rfl) dX1_join_141 ⟨Nat.le_refl _, Nat.le_refl _⟩ (fun H locs hI => ?_)
  exact jX1_join_144 S hr hlocks hin hK hA σ30 v1 v2 v3 v4 v5 v6 r31 H locs ls hg hI (lv_sub hl [0, 1, 2, 3, 4, 5, 6] rfl)
set_option maxHeartbeats 4000000 in
set_option maxRecDepth 100000 in
theorem jX1_join_29 {p : Program} {l : Launch} {e : Env} {s : State} {m : MethodId} {args : Array Value} {below : List Frame} {meth : Method} {c : Code} {A : Nat → Prop} {G : gT} {h0 : Nat} {h : (Nat → Nat)} {F : Nat} (S : CallFix p m c cX1_join 8 s args wsX1_join RX1) (hr : meth.sig.returnType = none) (hlocks : meth.locks = false) (hin : ∀ w ∈ wsX10, w ∈ wsX1_join) (hK : gK G s) (hA : ∀ q, s.heap.size ≤ q → A q) {res : mS} (σ : mS) (v1 : Int32) (v2 : Int32) (v3 : Int32) (t1 : Int32) (H : Heap) (locs : List Loc) (ls : Array Slot) (hg : JX1_join_29 F σ v1 v2 v3 t1 = some res) (hI : mI s A G h0 h σ H locs) (hl : lv_has ls 8 [(0, .ref h0), (1, .int v1), (2, .int v2), (3, .int v3)]) : W p l e rX1_join s m args below meth c H locs 0 0 (MQ below (mQv G h0 h res A) args s 0 0 A) (F0 m 29 ls [.int t1, .ref h0]) := by
  have hx := S.1
  have hb := S.2.1
  have hts := S.2.2.2.2
  have hown := S.2.2.2.1
  unfold JX1_join_29 at hg
  obtain ⟨r4, σ3, er4, hg⟩ := bnd_e hg
  refine mc_i S hK hA hI (As := [.int t1]) (rest := []) (kX1_says l G h0 h H.size F σ t1  r4 σ3 er4) (cwV 1 hts gX1_join_X1_says rfl rfl rfl nX1_says ⟨Nat.le_of_ble_eq_true rfl, Nat.le_of_ble_eq_true rfl⟩) rfl hl.1 rfl (Nat.le_of_ble_eq_true rfl) dX1_join_29 ⟨Nat.le_refl _, Nat.le_refl _⟩ (fun H locs hI => ?_)
  refine lv_if_ne (tgt := 36) hx hb dX1_join_32 (by decide) (fun c5 => ?_) (fun c5 => ?_)
  · have hg := cIf_fe c5 hg
    refine lv_aload_n hx hb dX1_join_36 rfl (lv_at hl 0 rfl) ?_
    refine mg_root S hin hK hI (ix := 9) (by decide +kernel) dX1_join_37 ?_
    refine lv_iload_n hx hb dX1_join_40 rfl (lv_at hl 2 rfl) ?_
    obtain ⟨c6, hg⟩ := ck_e hg
    obtain ⟨x7, ex7, hg⟩ := nmd_e hg
    refine mr_root S hK hI c6 ex7 dX1_join_41 ?_
    refine lv_istore (lv' := [(4, .int x7), (0, .ref h0), (1, .int v1), (2, .int v2), (3, .int v3)]) hx hb dX1_join_42 hl (by decide) rfl (fun ls hl => ?_)
    refine lv_aload_n hx hb dX1_join_44 rfl (lv_at hl 1 rfl) ?_
    refine mg_root S hin hK hI (ix := 9) (by decide +kernel) dX1_join_45 ?_
    refine lv_iload_n hx hb dX1_join_48 rfl (lv_at hl 4 rfl) ?_
    obtain ⟨c8, hg⟩ := ck_e hg
    obtain ⟨x9, ex9, hg⟩ := nmd_e hg
    refine mr_root S hK hI c8 ex9 dX1_join_49 ?_
    refine lv_istore (lv' := [(5, .int x9), (4, .int x7), (0, .ref h0), (1, .int v1), (2, .int v2), (3, .int v3)]) hx hb dX1_join_50 hl (by decide) rfl (fun ls hl => ?_)
    refine lv_aload_n hx hb dX1_join_52 rfl (lv_at hl 2 rfl) ?_
    refine mg_length S hin hK hI (ix := 44) (by decide +kernel) dX1_join_53 ?_
    refine lv_iload hx hb dX1_join_56 (lv_at hl 1 rfl) ?_
    obtain ⟨c10, hg⟩ := ck_e hg
    obtain ⟨x11, ex11, hg⟩ := nmd_e hg
    refine mr_length S hK hI c10 ex11 dX1_join_58 ?_
    refine lv_aload_n hx hb dX1_join_59 rfl (lv_at hl 2 rfl) ?_
    refine mg_length S hin hK hI (ix := 44) (by decide +kernel) dX1_join_60 ?_
    refine lv_iload hx hb dX1_join_63 (lv_at hl 0 rfl) ?_
    obtain ⟨c12, hg⟩ := ck_e hg
    obtain ⟨x13, ex13, hg⟩ := nmd_e hg
    refine mr_length S hK hI c12 ex13 dX1_join_65 ?_
    refine lv_iadd hx hb dX1_join_66 ?_
    obtain ⟨x14, ex14, hg⟩ := nmd_e hg
    refine wn_i ex14 ?_
    refine lv_istore (lv' := [(6, .int x14), (5, .int x9), (4, .int x7), (0, .ref h0), (1, .int v1), (2, .int v2), (3, .int v3)]) hx hb dX1_join_67 hl (by decide) rfl (fun ls hl => ?_)
    refine lv_aload_n hx hb dX1_join_69 rfl (lv_at hl 3 rfl) ?_
    refine mg_length S hin hK hI (ix := 44) (by decide +kernel) dX1_join_70 ?_
    refine lv_iload hx hb dX1_join_73 (lv_at hl 2 rfl) ?_
    obtain ⟨c15, hg⟩ := ck_e hg
    obtain ⟨x16, ex16, hg⟩ := nmd_e hg
    refine mr_length S hK hI c15 ex16 dX1_join_75 ?_
    refine lv_if_eq (tgt := 89) hx hb dX1_join_76 (by decide) (fun c17 => ?_) (fun c17 => ?_)
    · have hg := cIf_te c17 hg
      exact jX1_join_89 S hr hlocks hin hK hA σ3 v1 v2 v3 x7 x9 x14 H locs ls hg hI (lv_sub hl [3, 4, 5, 6, 2, 1, 0] rfl)
    · have hg := cIf_fe c17 hg
      refine lv_aload_n hx hb dX1_join_79 rfl (lv_at hl 3 rfl) ?_
      refine mg_length S hin hK hI (ix := 44) (by decide +kernel) dX1_join_80 ?_
      refine lv_iload hx hb dX1_join_83 (lv_at hl 1 rfl) ?_
      obtain ⟨c25, hg⟩ := ck_e hg
      obtain ⟨x26, ex26, hg⟩ := nmd_e hg
      refine mr_length S hK hI c25 ex26 dX1_join_85 ?_
      refine lv_if_ne (tgt := 113) hx hb dX1_join_86 (by decide) (fun c27 => ?_) (fun c27 => ?_)
      · have hg := cIf_fe c27 hg
        refine lv_iload hx hb dX1_join_113 (lv_at hl 0 rfl) ?_
        refine lv_sipush (v := 4000) hx hb dX1_join_115 (by decide) ?_
        refine lv_icmp_le (tgt := 125) hx hb dX1_join_118 (by decide) (fun c28 => ?_) (fun c28 => ?_)
        · have hg := cIf_te c28 hg
          refine lv_aload_n hx hb dX1_join_125 rfl (lv_at hl 3 rfl) ?_
          refine lv_iload hx hb dX1_join_126 (lv_at hl 0 rfl) ?_
          refine lv_bipush (v := 24) hx hb dX1_join_128 (by decide) ?_
          refine lv_icmp_le (tgt := 137) hx hb dX1_join_130 (by decide) (fun c29 => ?_) (fun c29 => ?_)
          · have hg := cIf_te c29 hg
            refine lv_iconst (v := 2) hx hb dX1_join_137 (by decide) ?_
            exact jX1_join_138 S hr hlocks hin hK hA σ3 v1 v2 v3 x7 x9 x14 2 H locs ls hg hI (lv_sub hl [3, 4, 5, 6, 2, 1, 0] rfl)
          · have hg := cIf_fe c29 hg
            refine lv_iconst (v := 3) hx hb dX1_join_133 (by decide) ?_
            refine lv_goto (tgt := 138) hx hb dX1_join_134 (by decide) ?_
            exact jX1_join_138 S hr hlocks hin hK hA σ3 v1 v2 v3 x7 x9 x14 3 H locs ls hg hI (lv_sub hl [3, 4, 5, 6, 2, 1, 0] rfl)
        · have hg := cIf_fe c28 hg
          refine lv_iconst (v := 0) hx hb dX1_join_121 (by decide) ?_
          refine lv_goto (tgt := 144) hx hb dX1_join_122 (by decide) ?_
          exact jX1_join_144 S hr hlocks hin hK hA σ3 v1 v2 v3 x7 x9 x14 0 H locs ls hg hI (lv_sub hl [3, 4, 5, 6, 2, 1, 0] rfl)
      · have hg := cIf_te c27 hg
        exact jX1_join_89 S hr hlocks hin hK hA σ3 v1 v2 v3 x7 x9 x14 H locs ls hg hI (lv_sub hl [3, 4, 5, 6, 2, 1, 0] rfl)
  · have hg := cIf_te c5 hg
    exact me_v S hr hlocks hK hI hg dX1_join_35
set_option maxHeartbeats 4000000 in
set_option maxRecDepth 100000 in
theorem jX1_join_28 {p : Program} {l : Launch} {e : Env} {s : State} {m : MethodId} {args : Array Value} {below : List Frame} {meth : Method} {c : Code} {A : Nat → Prop} {G : gT} {h0 : Nat} {h : (Nat → Nat)} {F : Nat} (S : CallFix p m c cX1_join 8 s args wsX1_join RX1) (hr : meth.sig.returnType = none) (hlocks : meth.locks = false) (hin : ∀ w ∈ wsX10, w ∈ wsX1_join) (hK : gK G s) (hA : ∀ q, s.heap.size ≤ q → A q) {res : mS} (σ : mS) (v1 : Int32) (v2 : Int32) (v3 : Int32) (H : Heap) (locs : List Loc) (ls : Array Slot) (hg : JX1_join_28 F σ v1 v2 v3 = some res) (hI : mI s A G h0 h σ H locs) (hl : lv_has ls 8 [(0, .ref h0), (1, .int v1), (2, .int v2), (3, .int v3)]) : W p l e rX1_join s m args below meth c H locs 0 0 (MQ below (mQv G h0 h res A) args s 0 0 A) (F0 m 28 ls [.ref h0]) := by
  have hx := S.1
  have hb := S.2.1
  have hts := S.2.2.2.2
  have hown := S.2.2.2.1
  unfold JX1_join_28 at hg
  refine lv_iconst (v := 0) hx hb dX1_join_28 (by decide) ?_
  exact jX1_join_29 S hr hlocks hin hK hA σ v1 v2 v3 0 H locs ls hg hI (lv_sub hl [0, 1, 2, 3] rfl)
set_option maxHeartbeats 4000000 in
set_option maxRecDepth 100000 in
theorem kX1_join (l : Launch) (G : gT) (h0 : Nat) (h : (Nat → Nat)) (sz F : Nat) (σ : mS) (p1 : Int32) (p2 : Int32) (p3 : Int32) (σr : mS) (hg : fX1_join F σ p1 p2 p3 = some σr) : Met l yX1_join wsX1_join rX1_join (mPre G h0 h σ sz [.int p1, .int p2, .int p3]) (mQv G h0 h σr (mA G h0 h σ sz)) 0 0 (mA G h0 h σ sz) := by
  refine mMet (Qc := mQv G h0 h σr) (by decide +kernel) rfl rfl (Nat.le_of_ble_eq_true rfl) ?_
  intro p e s m args below meth c A S hr hlocks hK hA H locs hI ls hl
  have hl : lv_has ls 8 [(0, .ref h0), (1, .int p1), (2, .int p2), (3, .int p3)] := hl
  have hin : ∀ w ∈ wsX10, w ∈ wsX1_join := by decide +kernel
  have hx := S.1
  have hb := S.2.1
  have hts := S.2.2.2.2
  have hown := S.2.2.2.1
  unfold fX1_join at hg
  refine lv_aload_n hx hb dX1_join_0 rfl (lv_at hl 0 rfl) ?_
  refine lv_iload_n hx hb dX1_join_1 rfl (lv_at hl 1 rfl) ?_
  obtain ⟨r1, er1, hg⟩ := bnp_e hg
  refine ms_i S hA hI (As := [.int p1]) (rest := [.ref h0]) (kX1_isRoot l H.size F p1 r1 er1) (va_cwS 1 hts gX1_join_X1_isRoot rfl rfl rfl nX1_isRoot ⟨Nat.le_of_ble_eq_true rfl, Nat.le_of_ble_eq_true rfl⟩) rfl hl.1 rfl (Nat.le_of_ble_eq_true rfl) dX1_join_2 ⟨Nat.le_refl _, Nat.le_refl _⟩ (fun H locs hI => ?_)
  refine lv_if_eq (tgt := 28) hx hb dX1_join_5 (by decide) (fun c2 => ?_) (fun c2 => ?_)
  · have hg := cIf_te c2 hg
    exact jX1_join_28 S hr hlocks hin hK hA σ p1 p2 p3 H locs ls hg hI (lv_sub hl [0, 1, 2, 3] rfl)
  · have hg := cIf_fe c2 hg
    refine lv_aload_n hx hb dX1_join_8 rfl (lv_at hl 0 rfl) ?_
    refine lv_iload_n hx hb dX1_join_9 rfl (lv_at hl 2 rfl) ?_
    obtain ⟨r42, σ41, er42, hg⟩ := bnd_e hg
    refine mc_i S hK hA hI (As := [.int p2]) (rest := [.ref h0]) (kX1_isText l G h0 h H.size F σ p2  r42 σ41 er42) (cwV 1 hts gX1_join_X1_isText rfl rfl rfl nX1_isText ⟨Nat.le_of_ble_eq_true rfl, Nat.le_of_ble_eq_true rfl⟩) rfl hl.1 rfl (Nat.le_of_ble_eq_true rfl) dX1_join_10 ⟨Nat.le_refl _, Nat.le_refl _⟩ (fun H locs hI => ?_)
    refine lv_if_eq (tgt := 28) hx hb dX1_join_13 (by decide) (fun c43 => ?_) (fun c43 => ?_)
    · have hg := cIf_te c43 hg
      exact jX1_join_28 S hr hlocks hin hK hA σ41 p1 p2 p3 H locs ls hg hI (lv_sub hl [0, 1, 2, 3] rfl)
    · have hg := cIf_fe c43 hg
      refine lv_aload_n hx hb dX1_join_16 rfl (lv_at hl 0 rfl) ?_
      refine lv_iload_n hx hb dX1_join_17 rfl (lv_at hl 3 rfl) ?_
      obtain ⟨r45, σ44, er45, hg⟩ := bnd_e hg
      refine mc_i S hK hA hI (As := [.int p3]) (rest := [.ref h0]) (kX1_isText l G h0 h H.size F σ41 p3  r45 σ44 er45) (cwV 1 hts gX1_join_X1_isText rfl rfl rfl nX1_isText ⟨Nat.le_of_ble_eq_true rfl, Nat.le_of_ble_eq_true rfl⟩) rfl hl.1 rfl (Nat.le_of_ble_eq_true rfl) dX1_join_18 ⟨Nat.le_refl _, Nat.le_refl _⟩ (fun H locs hI => ?_)
      refine lv_if_eq (tgt := 28) hx hb dX1_join_21 (by decide) (fun c46 => ?_) (fun c46 => ?_)
      · have hg := cIf_te c46 hg
        exact jX1_join_28 S hr hlocks hin hK hA σ44 p1 p2 p3 H locs ls hg hI (lv_sub hl [0, 1, 2, 3] rfl)
      · have hg := cIf_fe c46 hg
        refine lv_iconst (v := 1) hx hb dX1_join_24 (by decide) ?_
        refine lv_goto (tgt := 29) hx hb dX1_join_25 (by decide) ?_
        exact jX1_join_29 S hr hlocks hin hK hA σ44 p1 p2 p3 1 H locs ls hg hI (lv_sub hl [0, 1, 2, 3] rfl)
-- OwnMemoryModel.partOf
abbrev rX1_partOf : Room := { frames := 5, cells := 0, slots := 0, locals := 111 }
theorem nX1_partOf : yX1_partOf.cls = RX1 ∧ yX1_partOf.cls ≠ "java/lang/invoke/MethodHandle" ∧ yX1_partOf.cls ≠ "java/lang/invoke/VarHandle" ∧ (parseMethodDescriptor yX1_partOf.desc).map (fun d => d.parameters.length) = some 4 := by decide +kernel
noncomputable def fX1_partOf (F : Nat) (σ : mS) (p1 : Int32) (p2 : Int32) (p3 : Int32) (p4 : Int32) : Option (Int32 × mS) := bnd (fX1_goOver F σ p2) (fun r2 σ1 => cIf (r2 = 0) (some (0, σ1)) (bnd (fX1_make F σ1 p1 (p4 - p3) 1) (fun r5 σ4 => ck (vp_in r5 4096) (nmd (m_s_a σ4 (upd (m_a σ4) r5.toNatClampNeg p2)) (fun σ7 => ck (vp_in r5 4096) (nmd (m_s_b σ7 (upd (m_b σ7) r5.toNatClampNeg p3)) (fun σ9 => some (r5, σ9))))))))
set_option maxHeartbeats 4000000 in
set_option maxRecDepth 100000 in
theorem kX1_partOf (l : Launch) (G : gT) (h0 : Nat) (h : (Nat → Nat)) (sz F : Nat) (σ : mS) (p1 : Int32) (p2 : Int32) (p3 : Int32) (p4 : Int32) (r : Int32) (σr : mS) (hg : fX1_partOf F σ p1 p2 p3 p4 = some (r, σr)) : Met l yX1_partOf wsX1_partOf rX1_partOf (mPre G h0 h σ sz [.int p1, .int p2, .int p3, .int p4]) (mQi G h0 h r σr (mA G h0 h σ sz)) 0 0 (mA G h0 h σ sz) := by
  refine mMet (Qc := mQi G h0 h r σr) (by decide +kernel) rfl rfl (Nat.le_of_ble_eq_true rfl) ?_
  intro p e s m args below meth c A S hr hlocks hK hA H locs hI ls hl
  have hl : lv_has ls 6 [(0, .ref h0), (1, .int p1), (2, .int p2), (3, .int p3), (4, .int p4)] := hl
  have hin : ∀ w ∈ wsX10, w ∈ wsX1_partOf := by decide +kernel
  have hx := S.1
  have hb := S.2.1
  have hts := S.2.2.2.2
  have hown := S.2.2.2.1
  unfold fX1_partOf at hg
  refine lv_aload_n hx hb dX1_partOf_0 rfl (lv_at hl 0 rfl) ?_
  refine lv_iload_n hx hb dX1_partOf_1 rfl (lv_at hl 2 rfl) ?_
  obtain ⟨r2, σ1, er2, hg⟩ := bnd_e hg
  refine mc_i S hK hA hI (As := [.int p2]) (rest := []) (kX1_goOver l G h0 h H.size F σ p2  r2 σ1 er2) (cwV 1 hts gX1_partOf_X1_goOver rfl rfl rfl nX1_goOver ⟨Nat.le_of_ble_eq_true rfl, Nat.le_of_ble_eq_true rfl⟩) rfl hl.1 rfl (Nat.le_of_ble_eq_true rfl) dX1_partOf_2 ⟨Nat.le_refl _, Nat.le_refl _⟩ (fun H locs hI => ?_)
  refine lv_if_ne (tgt := 10) hx hb dX1_partOf_5 (by decide) (fun c3 => ?_) (fun c3 => ?_)
  · have hg := cIf_fe c3 hg
    refine lv_aload_n hx hb dX1_partOf_10 rfl (lv_at hl 0 rfl) ?_
    refine lv_iload_n hx hb dX1_partOf_11 rfl (lv_at hl 1 rfl) ?_
    refine lv_iload hx hb dX1_partOf_12 (lv_at hl 4 rfl) ?_
    refine lv_iload_n hx hb dX1_partOf_14 rfl (lv_at hl 3 rfl) ?_
    refine lv_isub hx hb dX1_partOf_15 ?_
    refine lv_iconst (v := 1) hx hb dX1_partOf_16 (by decide) ?_
    obtain ⟨r5, σ4, er5, hg⟩ := bnd_e hg
    refine mc_i S hK hA hI (As := [.int p1, .int (p4 - p3), .int 1]) (rest := []) (kX1_make l G h0 h H.size F σ1 p1 (p4 - p3) 1  r5 σ4 er5) (cwV 3 hts gX1_partOf_X1_make rfl rfl rfl nX1_make ⟨Nat.le_of_ble_eq_true rfl, Nat.le_of_ble_eq_true rfl⟩) rfl hl.1 rfl (Nat.le_of_ble_eq_true rfl) dX1_partOf_17 ⟨Nat.le_refl _, Nat.le_refl _⟩ (fun H locs hI => ?_)
    refine lv_istore (lv' := [(5, .int r5), (0, .ref h0), (1, .int p1), (2, .int p2), (3, .int p3), (4, .int p4)]) hx hb dX1_partOf_20 hl (by decide) rfl (fun ls hl => ?_)
    refine lv_aload_n hx hb dX1_partOf_22 rfl (lv_at hl 1 rfl) ?_
    refine mg_a S hin hK hI (ix := 50) (by decide +kernel) dX1_partOf_23 ?_
    refine lv_iload hx hb dX1_partOf_26 (lv_at hl 0 rfl) ?_
    refine lv_iload_n hx hb dX1_partOf_28 rfl (lv_at hl 3 rfl) ?_
    obtain ⟨c6, hg⟩ := ck_e hg
    obtain ⟨σ7, eσ7, hg⟩ := nmd_e hg
    refine mu_a S hK hI c6 eσ7 dX1_partOf_29 (fun H locs hI => ?_)
    refine lv_aload_n hx hb dX1_partOf_30 rfl (lv_at hl 1 rfl) ?_
    refine mg_b S hin hK hI (ix := 53) (by decide +kernel) dX1_partOf_31 ?_
    refine lv_iload hx hb dX1_partOf_34 (lv_at hl 0 rfl) ?_
    refine lv_iload_n hx hb dX1_partOf_36 rfl (lv_at hl 4 rfl) ?_
    obtain ⟨c8, hg⟩ := ck_e hg
    obtain ⟨σ9, eσ9, hg⟩ := nmd_e hg
    refine mu_b S hK hI c8 eσ9 dX1_partOf_37 (fun H locs hI => ?_)
    refine lv_iload hx hb dX1_partOf_38 (lv_at hl 0 rfl) ?_
    exact me_i S hr hlocks hK hI hg dX1_partOf_40
  · have hg := cIf_te c3 hg
    refine lv_iconst (v := 0) hx hb dX1_partOf_8 (by decide) ?_
    exact me_i S hr hlocks hK hI hg dX1_partOf_9
-- OwnMemoryModel.part
abbrev rX1_part : Room := { frames := 6, cells := 0, slots := 0, locals := 136 }
theorem nX1_part : yX1_part.cls = RX1 ∧ yX1_part.cls ≠ "java/lang/invoke/MethodHandle" ∧ yX1_part.cls ≠ "java/lang/invoke/VarHandle" ∧ (parseMethodDescriptor yX1_part.desc).map (fun d => d.parameters.length) = some 4 := by decide +kernel
noncomputable def JX1_part_59 (F : Nat) (σ : mS) (v1 : Int32) (v2 : Int32) (v3 : Int32) (v4 : Int32) (v5 : Int32) (t1 : Int32) : Option mS := bnd (fX1_says F σ t1) (fun r5 σ4 => cIf (r5 = 0) (some σ4) (ck (vp_in v2 24) (nmd (m_root σ4 v2.toNatClampNeg) (fun x8 => bnd (fX1_partOf F σ4 2 x8 v3 v4) (fun r10 σ9 => bnd (fX1_full F σ9 r10) (fun r12 σ11 => cIf (r12 ≤ 0) (some σ11) (ck (vp_in v1 24) (nmd (m_s_root σ11 (upd (m_root σ11) v1.toNatClampNeg r12)) (fun σ15 => some σ15)))))))))
noncomputable def JX1_part_58 (F : Nat) (σ : mS) (v1 : Int32) (v2 : Int32) (v3 : Int32) (v4 : Int32) (v5 : Int32) : Option mS := JX1_part_59 F σ v1 v2 v3 v4 v5 0
noncomputable def JX1_part_20 (F : Nat) (σ : mS) (v1 : Int32) (v2 : Int32) (v3 : Int32) (v4 : Int32) (t0 : Int32) : Option mS := cIf (t0 = 0) (JX1_part_58 F σ v1 v2 v3 v4 t0) (cIf (v3 < 0) (JX1_part_58 F σ v1 v2 v3 v4 t0) (cIf (v4 < v3) (JX1_part_58 F σ v1 v2 v3 v4 t0) (ck (vp_in v2 24) (nmd (m_root σ v2.toNatClampNeg) (fun x19 => ck (vp_in x19 4096) (nmd (m_length σ x19.toNatClampNeg) (fun x21 => cIf (x21 < v4) (JX1_part_58 F σ v1 v2 v3 v4 t0) (JX1_part_59 F σ v1 v2 v3 v4 t0 1))))))))
noncomputable def JX1_part_19 (F : Nat) (σ : mS) (v1 : Int32) (v2 : Int32) (v3 : Int32) (v4 : Int32) : Option mS := JX1_part_20 F σ v1 v2 v3 v4 0
noncomputable def fX1_part (F : Nat) (σ : mS) (p1 : Int32) (p2 : Int32) (p3 : Int32) (p4 : Int32) : Option mS := bnp (fX1_isRoot F p1) (fun r1 => cIf (r1 = 0) (JX1_part_19 F σ p1 p2 p3 p4) (bnd (fX1_isText F σ p2) (fun r24 σ23 => cIf (r24 = 0) (JX1_part_19 F σ23 p1 p2 p3 p4) (JX1_part_20 F σ23 p1 p2 p3 p4 1))))
set_option maxHeartbeats 4000000 in
set_option maxRecDepth 100000 in
theorem jX1_part_59 {p : Program} {l : Launch} {e : Env} {s : State} {m : MethodId} {args : Array Value} {below : List Frame} {meth : Method} {c : Code} {A : Nat → Prop} {G : gT} {h0 : Nat} {h : (Nat → Nat)} {F : Nat} (S : CallFix p m c cX1_part 7 s args wsX1_part RX1) (hr : meth.sig.returnType = none) (hlocks : meth.locks = false) (hin : ∀ w ∈ wsX10, w ∈ wsX1_part) (hK : gK G s) (hA : ∀ q, s.heap.size ≤ q → A q) {res : mS} (σ : mS) (v1 : Int32) (v2 : Int32) (v3 : Int32) (v4 : Int32) (v5 : Int32) (t1 : Int32) (H : Heap) (locs : List Loc) (ls : Array Slot) (hg : JX1_part_59 F σ v1 v2 v3 v4 v5 t1 = some res) (hI : mI s A G h0 h σ H locs) (hl : lv_has ls 7 [(0, .ref h0), (1, .int v1), (2, .int v2), (3, .int v3), (4, .int v4), (5, .int v5)]) : W p l e rX1_part s m args below meth c H locs 0 0 (MQ below (mQv G h0 h res A) args s 0 0 A) (F0 m 59 ls [.int t1, .ref h0]) := by
  have hx := S.1
  have hb := S.2.1
  have hts := S.2.2.2.2
  have hown := S.2.2.2.1
  unfold JX1_part_59 at hg
  obtain ⟨r5, σ4, er5, hg⟩ := bnd_e hg
  refine mc_i S hK hA hI (As := [.int t1]) (rest := []) (kX1_says l G h0 h H.size F σ t1  r5 σ4 er5) (cwV 1 hts gX1_part_X1_says rfl rfl rfl nX1_says ⟨Nat.le_of_ble_eq_true rfl, Nat.le_of_ble_eq_true rfl⟩) rfl hl.1 rfl (Nat.le_of_ble_eq_true rfl) dX1_part_59 ⟨Nat.le_refl _, Nat.le_refl _⟩ (fun H locs hI => ?_)
  refine lv_if_ne (tgt := 66) hx hb dX1_part_62 (by decide) (fun c6 => ?_) (fun c6 => ?_)
  · have hg := cIf_fe c6 hg
    refine lv_aload_n hx hb dX1_part_66 rfl (lv_at hl 0 rfl) ?_
    refine lv_aload_n hx hb dX1_part_67 rfl (lv_at hl 0 rfl) ?_
    refine lv_iconst (v := 2) hx hb dX1_part_68 (by decide) ?_
    refine lv_aload_n hx hb dX1_part_69 rfl (lv_at hl 0 rfl) ?_
    refine mg_root S hin hK hI (ix := 9) (by decide +kernel) dX1_part_70 ?_
    refine lv_iload_n hx hb dX1_part_73 rfl (lv_at hl 2 rfl) ?_
    obtain ⟨c7, hg⟩ := ck_e hg
    obtain ⟨x8, ex8, hg⟩ := nmd_e hg
    refine mr_root S hK hI c7 ex8 dX1_part_74 ?_
    refine lv_iload_n hx hb dX1_part_75 rfl (lv_at hl 3 rfl) ?_
    refine lv_iload hx hb dX1_part_76 (lv_at hl 4 rfl) ?_
    obtain ⟨r10, σ9, er10, hg⟩ := bnd_e hg
    refine mc_i S hK hA hI (As := [.int 2, .int x8, .int v3, .int v4]) (rest := [.ref h0]) (kX1_partOf l G h0 h H.size F σ4 2 x8 v3 v4  r10 σ9 er10) (cwV 4 hts gX1_part_X1_partOf rfl rfl rfl nX1_partOf ⟨Nat.le_of_ble_eq_true rfl, Nat.le_of_ble_eq_true rfl⟩) rfl hl.1 rfl (Nat.le_of_ble_eq_true rfl) dX1_part_78 ⟨Nat.le_refl _, Nat.le_refl _⟩ (fun H locs hI => ?_)
    obtain ⟨r12, σ11, er12, hg⟩ := bnd_e hg
    refine mc_i S hK hA hI (As := [.int r10]) (rest := []) (kX1_full l G h0 h H.size F σ9 r10  r12 σ11 er12) (cwV 1 hts gX1_part_X1_full rfl rfl rfl nX1_full ⟨Nat.le_of_ble_eq_true rfl, Nat.le_of_ble_eq_true rfl⟩) rfl hl.1 rfl (Nat.le_of_ble_eq_true rfl) dX1_part_81 ⟨Nat.le_refl _, Nat.le_refl _⟩ (fun H locs hI => ?_)
    refine lv_istore (lv' := [(6, .int r12), (0, .ref h0), (1, .int v1), (2, .int v2), (3, .int v3), (4, .int v4), (5, .int v5)]) hx hb dX1_part_84 hl (by decide) rfl (fun ls hl => ?_)
    refine lv_iload hx hb dX1_part_86 (lv_at hl 0 rfl) ?_
    refine lv_if_le (tgt := 99) hx hb dX1_part_88 (by decide) (fun c13 => ?_) (fun c13 => ?_)
    · have hg := cIf_te c13 hg
      exact me_v S hr hlocks hK hI hg dX1_part_99
    · have hg := cIf_fe c13 hg
      refine lv_aload_n hx hb dX1_part_91 rfl (lv_at hl 1 rfl) ?_
      refine mg_root S hin hK hI (ix := 9) (by decide +kernel) dX1_part_92 ?_
      refine lv_iload_n hx hb dX1_part_95 rfl (lv_at hl 2 rfl) ?_
      refine lv_iload hx hb dX1_part_96 (lv_at hl 0 rfl) ?_
      obtain ⟨c14, hg⟩ := ck_e hg
      obtain ⟨σ15, eσ15, hg⟩ := nmd_e hg
      refine mu_root S hK hI c14 eσ15 dX1_part_98 (fun H locs hI => ?_)
      exact me_v S hr hlocks hK hI hg dX1_part_99
  · have hg := cIf_te c6 hg
    exact me_v S hr hlocks hK hI hg dX1_part_65
set_option maxHeartbeats 4000000 in
set_option maxRecDepth 100000 in
theorem jX1_part_58 {p : Program} {l : Launch} {e : Env} {s : State} {m : MethodId} {args : Array Value} {below : List Frame} {meth : Method} {c : Code} {A : Nat → Prop} {G : gT} {h0 : Nat} {h : (Nat → Nat)} {F : Nat} (S : CallFix p m c cX1_part 7 s args wsX1_part RX1) (hr : meth.sig.returnType = none) (hlocks : meth.locks = false) (hin : ∀ w ∈ wsX10, w ∈ wsX1_part) (hK : gK G s) (hA : ∀ q, s.heap.size ≤ q → A q) {res : mS} (σ : mS) (v1 : Int32) (v2 : Int32) (v3 : Int32) (v4 : Int32) (v5 : Int32) (H : Heap) (locs : List Loc) (ls : Array Slot) (hg : JX1_part_58 F σ v1 v2 v3 v4 v5 = some res) (hI : mI s A G h0 h σ H locs) (hl : lv_has ls 7 [(0, .ref h0), (1, .int v1), (2, .int v2), (3, .int v3), (4, .int v4), (5, .int v5)]) : W p l e rX1_part s m args below meth c H locs 0 0 (MQ below (mQv G h0 h res A) args s 0 0 A) (F0 m 58 ls [.ref h0]) := by
  have hx := S.1
  have hb := S.2.1
  have hts := S.2.2.2.2
  have hown := S.2.2.2.1
  unfold JX1_part_58 at hg
  refine lv_iconst (v := 0) hx hb dX1_part_58 (by decide) ?_
  exact jX1_part_59 S hr hlocks hin hK hA σ v1 v2 v3 v4 v5 0 H locs ls hg hI (lv_sub hl [0, 1, 2, 3, 4, 5] rfl)
set_option maxHeartbeats 4000000 in
set_option maxRecDepth 100000 in
theorem jX1_part_20 {p : Program} {l : Launch} {e : Env} {s : State} {m : MethodId} {args : Array Value} {below : List Frame} {meth : Method} {c : Code} {A : Nat → Prop} {G : gT} {h0 : Nat} {h : (Nat → Nat)} {F : Nat} (S : CallFix p m c cX1_part 7 s args wsX1_part RX1) (hr : meth.sig.returnType = none) (hlocks : meth.locks = false) (hin : ∀ w ∈ wsX10, w ∈ wsX1_part) (hK : gK G s) (hA : ∀ q, s.heap.size ≤ q → A q) {res : mS} (σ : mS) (v1 : Int32) (v2 : Int32) (v3 : Int32) (v4 : Int32) (t0 : Int32) (H : Heap) (locs : List Loc) (ls : Array Slot) (hg : JX1_part_20 F σ v1 v2 v3 v4 t0 = some res) (hI : mI s A G h0 h σ H locs) (hl : lv_has ls 7 [(0, .ref h0), (1, .int v1), (2, .int v2), (3, .int v3), (4, .int v4)]) : W p l e rX1_part s m args below meth c H locs 0 0 (MQ below (mQv G h0 h res A) args s 0 0 A) (F0 m 20 ls [.int t0]) := by
  have hx := S.1
  have hb := S.2.1
  have hts := S.2.2.2.2
  have hown := S.2.2.2.1
  unfold JX1_part_20 at hg
  refine lv_istore (lv' := [(5, .int t0), (0, .ref h0), (1, .int v1), (2, .int v2), (3, .int v3), (4, .int v4)]) hx hb dX1_part_20 hl (by decide) rfl (fun ls hl => ?_)
  refine lv_aload_n hx hb dX1_part_22 rfl (lv_at hl 1 rfl) ?_
  refine lv_iload hx hb dX1_part_23 (lv_at hl 0 rfl) ?_
  refine lv_if_eq (tgt := 58) hx hb dX1_part_25 (by decide) (fun c3 => ?_) (fun c3 => ?_)
  · have hg := cIf_te c3 hg
    exact jX1_part_58 S hr hlocks hin hK hA σ v1 v2 v3 v4 t0 H locs ls hg hI (lv_sub hl [1, 2, 3, 4, 5, 0] rfl)
  · have hg := cIf_fe c3 hg
    refine lv_iload_n hx hb dX1_part_28 rfl (lv_at hl 4 rfl) ?_
    refine lv_if_lt (tgt := 58) hx hb dX1_part_29 (by decide) (fun c16 => ?_) (fun c16 => ?_)
    · have hg := cIf_te c16 hg
      exact jX1_part_58 S hr hlocks hin hK hA σ v1 v2 v3 v4 t0 H locs ls hg hI (lv_sub hl [1, 2, 3, 4, 5, 0] rfl)
    · have hg := cIf_fe c16 hg
      refine lv_iload_n hx hb dX1_part_32 rfl (lv_at hl 4 rfl) ?_
      refine lv_iload hx hb dX1_part_33 (lv_at hl 5 rfl) ?_
      refine lv_icmp_gt (tgt := 58) hx hb dX1_part_35 (by decide) (fun c17 => ?_) (fun c17 => ?_)
      · have hg := cIf_te c17 hg
        exact jX1_part_58 S hr hlocks hin hK hA σ v1 v2 v3 v4 t0 H locs ls hg hI (lv_sub hl [1, 2, 3, 4, 5, 0] rfl)
      · have hg := cIf_fe c17 hg
        refine lv_iload hx hb dX1_part_38 (lv_at hl 5 rfl) ?_
        refine lv_aload_n hx hb dX1_part_40 rfl (lv_at hl 1 rfl) ?_
        refine mg_length S hin hK hI (ix := 44) (by decide +kernel) dX1_part_41 ?_
        refine lv_aload_n hx hb dX1_part_44 rfl (lv_at hl 1 rfl) ?_
        refine mg_root S hin hK hI (ix := 9) (by decide +kernel) dX1_part_45 ?_
        refine lv_iload_n hx hb dX1_part_48 rfl (lv_at hl 3 rfl) ?_
        obtain ⟨c18, hg⟩ := ck_e hg
        obtain ⟨x19, ex19, hg⟩ := nmd_e hg
        refine mr_root S hK hI c18 ex19 dX1_part_49 ?_
        obtain ⟨c20, hg⟩ := ck_e hg
        obtain ⟨x21, ex21, hg⟩ := nmd_e hg
        refine mr_length S hK hI c20 ex21 dX1_part_50 ?_
        refine lv_icmp_gt (tgt := 58) hx hb dX1_part_51 (by decide) (fun c22 => ?_) (fun c22 => ?_)
        · have hg := cIf_te c22 hg
          exact jX1_part_58 S hr hlocks hin hK hA σ v1 v2 v3 v4 t0 H locs ls hg hI (lv_sub hl [1, 2, 3, 4, 5, 0] rfl)
        · have hg := cIf_fe c22 hg
          refine lv_iconst (v := 1) hx hb dX1_part_54 (by decide) ?_
          refine lv_goto (tgt := 59) hx hb dX1_part_55 (by decide) ?_
          exact jX1_part_59 S hr hlocks hin hK hA σ v1 v2 v3 v4 t0 1 H locs ls hg hI (lv_sub hl [1, 2, 3, 4, 5, 0] rfl)
set_option maxHeartbeats 4000000 in
set_option maxRecDepth 100000 in
theorem jX1_part_19 {p : Program} {l : Launch} {e : Env} {s : State} {m : MethodId} {args : Array Value} {below : List Frame} {meth : Method} {c : Code} {A : Nat → Prop} {G : gT} {h0 : Nat} {h : (Nat → Nat)} {F : Nat} (S : CallFix p m c cX1_part 7 s args wsX1_part RX1) (hr : meth.sig.returnType = none) (hlocks : meth.locks = false) (hin : ∀ w ∈ wsX10, w ∈ wsX1_part) (hK : gK G s) (hA : ∀ q, s.heap.size ≤ q → A q) {res : mS} (σ : mS) (v1 : Int32) (v2 : Int32) (v3 : Int32) (v4 : Int32) (H : Heap) (locs : List Loc) (ls : Array Slot) (hg : JX1_part_19 F σ v1 v2 v3 v4 = some res) (hI : mI s A G h0 h σ H locs) (hl : lv_has ls 7 [(0, .ref h0), (1, .int v1), (2, .int v2), (3, .int v3), (4, .int v4)]) : W p l e rX1_part s m args below meth c H locs 0 0 (MQ below (mQv G h0 h res A) args s 0 0 A) (F0 m 19 ls []) := by
  have hx := S.1
  have hb := S.2.1
  have hts := S.2.2.2.2
  have hown := S.2.2.2.1
  unfold JX1_part_19 at hg
  refine lv_iconst (v := 0) hx hb dX1_part_19 (by decide) ?_
  exact jX1_part_20 S hr hlocks hin hK hA σ v1 v2 v3 v4 0 H locs ls hg hI (lv_sub hl [0, 1, 2, 3, 4] rfl)
set_option maxHeartbeats 4000000 in
set_option maxRecDepth 100000 in
theorem kX1_part (l : Launch) (G : gT) (h0 : Nat) (h : (Nat → Nat)) (sz F : Nat) (σ : mS) (p1 : Int32) (p2 : Int32) (p3 : Int32) (p4 : Int32) (σr : mS) (hg : fX1_part F σ p1 p2 p3 p4 = some σr) : Met l yX1_part wsX1_part rX1_part (mPre G h0 h σ sz [.int p1, .int p2, .int p3, .int p4]) (mQv G h0 h σr (mA G h0 h σ sz)) 0 0 (mA G h0 h σ sz) := by
  refine mMet (Qc := mQv G h0 h σr) (by decide +kernel) rfl rfl (Nat.le_of_ble_eq_true rfl) ?_
  intro p e s m args below meth c A S hr hlocks hK hA H locs hI ls hl
  have hl : lv_has ls 7 [(0, .ref h0), (1, .int p1), (2, .int p2), (3, .int p3), (4, .int p4)] := hl
  have hin : ∀ w ∈ wsX10, w ∈ wsX1_part := by decide +kernel
  have hx := S.1
  have hb := S.2.1
  have hts := S.2.2.2.2
  have hown := S.2.2.2.1
  unfold fX1_part at hg
  refine lv_iload_n hx hb dX1_part_0 rfl (lv_at hl 1 rfl) ?_
  obtain ⟨r1, er1, hg⟩ := bnp_e hg
  refine ms_i S hA hI (As := [.int p1]) (rest := []) (kX1_isRoot l H.size F p1 r1 er1) (va_cwS 1 hts gX1_part_X1_isRoot rfl rfl rfl nX1_isRoot ⟨Nat.le_of_ble_eq_true rfl, Nat.le_of_ble_eq_true rfl⟩) rfl hl.1 rfl (Nat.le_of_ble_eq_true rfl) dX1_part_1 ⟨Nat.le_refl _, Nat.le_refl _⟩ (fun H locs hI => ?_)
  refine lv_if_eq (tgt := 19) hx hb dX1_part_4 (by decide) (fun c2 => ?_) (fun c2 => ?_)
  · have hg := cIf_te c2 hg
    exact jX1_part_19 S hr hlocks hin hK hA σ p1 p2 p3 p4 H locs ls hg hI (lv_sub hl [0, 1, 2, 3, 4] rfl)
  · have hg := cIf_fe c2 hg
    refine lv_aload_n hx hb dX1_part_7 rfl (lv_at hl 0 rfl) ?_
    refine lv_iload_n hx hb dX1_part_8 rfl (lv_at hl 2 rfl) ?_
    obtain ⟨r24, σ23, er24, hg⟩ := bnd_e hg
    refine mc_i S hK hA hI (As := [.int p2]) (rest := []) (kX1_isText l G h0 h H.size F σ p2  r24 σ23 er24) (cwV 1 hts gX1_part_X1_isText rfl rfl rfl nX1_isText ⟨Nat.le_of_ble_eq_true rfl, Nat.le_of_ble_eq_true rfl⟩) rfl hl.1 rfl (Nat.le_of_ble_eq_true rfl) dX1_part_9 ⟨Nat.le_refl _, Nat.le_refl _⟩ (fun H locs hI => ?_)
    refine lv_if_eq (tgt := 19) hx hb dX1_part_12 (by decide) (fun c25 => ?_) (fun c25 => ?_)
    · have hg := cIf_te c25 hg
      exact jX1_part_19 S hr hlocks hin hK hA σ23 p1 p2 p3 p4 H locs ls hg hI (lv_sub hl [0, 1, 2, 3, 4] rfl)
    · have hg := cIf_fe c25 hg
      refine lv_iconst (v := 1) hx hb dX1_part_15 (by decide) ?_
      refine lv_goto (tgt := 20) hx hb dX1_part_16 (by decide) ?_
      exact jX1_part_20 S hr hlocks hin hK hA σ23 p1 p2 p3 p4 1 H locs ls hg hI (lv_sub hl [0, 1, 2, 3, 4] rfl)
-- OwnMemoryModel.length
abbrev rX1_length : Room := { frames := 3, cells := 0, slots := 0, locals := 63 }
theorem nX1_length : yX1_length.cls = RX1 ∧ yX1_length.cls ≠ "java/lang/invoke/MethodHandle" ∧ yX1_length.cls ≠ "java/lang/invoke/VarHandle" ∧ (parseMethodDescriptor yX1_length.desc).map (fun d => d.parameters.length) = some 1 := by decide +kernel
noncomputable def fX1_length (F : Nat) (σ : mS) (p1 : Int32) : Option (Int32 × mS) := bnd (fX1_isText F σ p1) (fun r2 σ1 => bnd (fX1_says F σ1 r2) (fun r4 σ3 => cIf (r4 = 0) (some (0, σ3)) (ck (vp_in p1 24) (nmd (m_root σ3 p1.toNatClampNeg) (fun x7 => ck (vp_in x7 4096) (nmd (m_length σ3 x7.toNatClampNeg) (fun x9 => some (x9, σ3))))))))
set_option maxHeartbeats 4000000 in
set_option maxRecDepth 100000 in
theorem kX1_length (l : Launch) (G : gT) (h0 : Nat) (h : (Nat → Nat)) (sz F : Nat) (σ : mS) (p1 : Int32) (r : Int32) (σr : mS) (hg : fX1_length F σ p1 = some (r, σr)) : Met l yX1_length wsX1_length rX1_length (mPre G h0 h σ sz [.int p1]) (mQi G h0 h r σr (mA G h0 h σ sz)) 0 0 (mA G h0 h σ sz) := by
  refine mMet (Qc := mQi G h0 h r σr) (by decide +kernel) rfl rfl (Nat.le_of_ble_eq_true rfl) ?_
  intro p e s m args below meth c A S hr hlocks hK hA H locs hI ls hl
  have hl : lv_has ls 2 [(0, .ref h0), (1, .int p1)] := hl
  have hin : ∀ w ∈ wsX10, w ∈ wsX1_length := in_ws
  have hx := S.1
  have hb := S.2.1
  have hts := S.2.2.2.2
  have hown := S.2.2.2.1
  unfold fX1_length at hg
  refine lv_aload_n hx hb dX1_length_0 rfl (lv_at hl 0 rfl) ?_
  refine lv_aload_n hx hb dX1_length_1 rfl (lv_at hl 0 rfl) ?_
  refine lv_iload_n hx hb dX1_length_2 rfl (lv_at hl 1 rfl) ?_
  obtain ⟨r2, σ1, er2, hg⟩ := bnd_e hg
  refine mc_i S hK hA hI (As := [.int p1]) (rest := [.ref h0]) (kX1_isText l G h0 h H.size F σ p1  r2 σ1 er2) (cwV 1 hts gX1_length_X1_isText rfl rfl rfl nX1_isText ⟨Nat.le_of_ble_eq_true rfl, Nat.le_of_ble_eq_true rfl⟩) rfl hl.1 rfl (Nat.le_of_ble_eq_true rfl) dX1_length_3 ⟨Nat.le_refl _, Nat.le_refl _⟩ (fun H locs hI => ?_)
  obtain ⟨r4, σ3, er4, hg⟩ := bnd_e hg
  refine mc_i S hK hA hI (As := [.int r2]) (rest := []) (kX1_says l G h0 h H.size F σ1 r2  r4 σ3 er4) (cwV 1 hts gX1_length_X1_says rfl rfl rfl nX1_says ⟨Nat.le_of_ble_eq_true rfl, Nat.le_of_ble_eq_true rfl⟩) rfl hl.1 rfl (Nat.le_of_ble_eq_true rfl) dX1_length_6 ⟨Nat.le_refl _, Nat.le_refl _⟩ (fun H locs hI => ?_)
  refine lv_if_eq (tgt := 26) hx hb dX1_length_9 (by decide) (fun c5 => ?_) (fun c5 => ?_)
  · have hg := cIf_te c5 hg
    refine lv_iconst (v := 0) hx hb dX1_length_26 (by decide) ?_
    exact me_i S hr hlocks hK hI hg dX1_length_27
  · have hg := cIf_fe c5 hg
    refine lv_aload_n hx hb dX1_length_12 rfl (lv_at hl 0 rfl) ?_
    refine mg_length S hin hK hI (ix := 44) (by decide +kernel) dX1_length_13 ?_
    refine lv_aload_n hx hb dX1_length_16 rfl (lv_at hl 0 rfl) ?_
    refine mg_root S hin hK hI (ix := 9) (by decide +kernel) dX1_length_17 ?_
    refine lv_iload_n hx hb dX1_length_20 rfl (lv_at hl 1 rfl) ?_
    obtain ⟨c6, hg⟩ := ck_e hg
    obtain ⟨x7, ex7, hg⟩ := nmd_e hg
    refine mr_root S hK hI c6 ex7 dX1_length_21 ?_
    obtain ⟨c8, hg⟩ := ck_e hg
    obtain ⟨x9, ex9, hg⟩ := nmd_e hg
    refine mr_length S hK hI c8 ex9 dX1_length_22 ?_
    refine lv_goto (tgt := 27) hx hb dX1_length_23 (by decide) ?_
    exact me_i S hr hlocks hK hI hg dX1_length_27
-- OwnMemoryModel.unit
abbrev rX1_unit : Room := { frames := 5, cells := 0, slots := 0, locals := 111 }
theorem nX1_unit : yX1_unit.cls = RX1 ∧ yX1_unit.cls ≠ "java/lang/invoke/MethodHandle" ∧ yX1_unit.cls ≠ "java/lang/invoke/VarHandle" ∧ (parseMethodDescriptor yX1_unit.desc).map (fun d => d.parameters.length) = some 2 := by decide +kernel
noncomputable def JX1_unit_37 (F : Nat) (σ : mS) (v1 : Int32) (v2 : Int32) (v3 : Int32) (t1 : Int32) : Option (Int32 × mS) := bnd (fX1_says F σ t1) (fun r5 σ4 => cIf (r5 = 0) (some (0, σ4)) (ck (vp_in v1 24) (nmd (m_root σ4 v1.toNatClampNeg) (fun x8 => bnd (fX1_goOver F σ4 x8) (fun r10 σ9 => cIf (r10 = 0) (nmd (m_s_thrown σ9 2) (fun σ16 => some (0, σ16))) (ck (vp_in v1 24) (nmd (m_root σ9 v1.toNatClampNeg) (fun x13 => bnd (fX1_unitOf F σ9 x13 v2) (fun r15 σ14 => some (r15, σ14))))))))))
noncomputable def JX1_unit_36 (F : Nat) (σ : mS) (v1 : Int32) (v2 : Int32) (v3 : Int32) : Option (Int32 × mS) := JX1_unit_37 F σ v1 v2 v3 0
noncomputable def fX1_unit (F : Nat) (σ : mS) (p1 : Int32) (p2 : Int32) : Option (Int32 × mS) := bnd (fX1_isText F σ p1) (fun r2 σ1 => cIf (r2 = 0) (JX1_unit_36 F σ1 p1 p2 r2) (ck (vp_in p1 24) (nmd (m_root σ1 p1.toNatClampNeg) (fun x18 => ck (vp_in x18 4096) (nmd (m_length σ1 x18.toNatClampNeg) (fun x20 => bnp (fX1_in F p2 0 (x20 - 1)) (fun r21 => cIf (r21 = 0) (JX1_unit_36 F σ1 p1 p2 r2) (JX1_unit_37 F σ1 p1 p2 r2 1))))))))
set_option maxHeartbeats 4000000 in
set_option maxRecDepth 100000 in
theorem jX1_unit_37 {p : Program} {l : Launch} {e : Env} {s : State} {m : MethodId} {args : Array Value} {below : List Frame} {meth : Method} {c : Code} {A : Nat → Prop} {G : gT} {h0 : Nat} {h : (Nat → Nat)} {F : Nat} (S : CallFix p m c cX1_unit 4 s args wsX1_unit RX1) (hr : meth.sig.returnType = some .int) (hlocks : meth.locks = false) (hin : ∀ w ∈ wsX10, w ∈ wsX1_unit) (hK : gK G s) (hA : ∀ q, s.heap.size ≤ q → A q) {res : (Int32 × mS)} (σ : mS) (v1 : Int32) (v2 : Int32) (v3 : Int32) (t1 : Int32) (H : Heap) (locs : List Loc) (ls : Array Slot) (hg : JX1_unit_37 F σ v1 v2 v3 t1 = some res) (hI : mI s A G h0 h σ H locs) (hl : lv_has ls 4 [(0, .ref h0), (1, .int v1), (2, .int v2), (3, .int v3)]) : W p l e rX1_unit s m args below meth c H locs 0 0 (MQ below (mQi G h0 h res.1 res.2 A) args s 0 0 A) (F0 m 37 ls [.int t1, .ref h0]) := by
  have hx := S.1
  have hb := S.2.1
  have hts := S.2.2.2.2
  have hown := S.2.2.2.1
  unfold JX1_unit_37 at hg
  obtain ⟨r5, σ4, er5, hg⟩ := bnd_e hg
  refine mc_i S hK hA hI (As := [.int t1]) (rest := []) (kX1_says l G h0 h H.size F σ t1  r5 σ4 er5) (cwV 1 hts gX1_unit_X1_says rfl rfl rfl nX1_says ⟨Nat.le_of_ble_eq_true rfl, Nat.le_of_ble_eq_true rfl⟩) rfl hl.1 rfl (Nat.le_of_ble_eq_true rfl) dX1_unit_37 ⟨Nat.le_refl _, Nat.le_refl _⟩ (fun H locs hI => ?_)
  refine lv_if_ne (tgt := 45) hx hb dX1_unit_40 (by decide) (fun c6 => ?_) (fun c6 => ?_)
  · have hg := cIf_fe c6 hg
    refine lv_aload_n hx hb dX1_unit_45 rfl (lv_at hl 0 rfl) ?_
    refine lv_aload_n hx hb dX1_unit_46 rfl (lv_at hl 0 rfl) ?_
    refine mg_root S hin hK hI (ix := 9) (by decide +kernel) dX1_unit_47 ?_
    refine lv_iload_n hx hb dX1_unit_50 rfl (lv_at hl 1 rfl) ?_
    obtain ⟨c7, hg⟩ := ck_e hg
    obtain ⟨x8, ex8, hg⟩ := nmd_e hg
    refine mr_root S hK hI c7 ex8 dX1_unit_51 ?_
    obtain ⟨r10, σ9, er10, hg⟩ := bnd_e hg
    refine mc_i S hK hA hI (As := [.int x8]) (rest := []) (kX1_goOver l G h0 h H.size F σ4 x8  r10 σ9 er10) (cwV 1 hts gX1_unit_X1_goOver rfl rfl rfl nX1_goOver ⟨Nat.le_of_ble_eq_true rfl, Nat.le_of_ble_eq_true rfl⟩) rfl hl.1 rfl (Nat.le_of_ble_eq_true rfl) dX1_unit_52 ⟨Nat.le_refl _, Nat.le_refl _⟩ (fun H locs hI => ?_)
    refine lv_if_ne (tgt := 65) hx hb dX1_unit_55 (by decide) (fun c11 => ?_) (fun c11 => ?_)
    · have hg := cIf_fe c11 hg
      refine lv_aload_n hx hb dX1_unit_65 rfl (lv_at hl 0 rfl) ?_
      refine lv_aload_n hx hb dX1_unit_66 rfl (lv_at hl 0 rfl) ?_
      refine mg_root S hin hK hI (ix := 9) (by decide +kernel) dX1_unit_67 ?_
      refine lv_iload_n hx hb dX1_unit_70 rfl (lv_at hl 1 rfl) ?_
      obtain ⟨c12, hg⟩ := ck_e hg
      obtain ⟨x13, ex13, hg⟩ := nmd_e hg
      refine mr_root S hK hI c12 ex13 dX1_unit_71 ?_
      refine lv_iload_n hx hb dX1_unit_72 rfl (lv_at hl 2 rfl) ?_
      obtain ⟨r15, σ14, er15, hg⟩ := bnd_e hg
      refine mc_i S hK hA hI (As := [.int x13, .int v2]) (rest := []) (kX1_unitOf l G h0 h H.size F σ9 x13 v2  r15 σ14 er15) (cwV 2 hts gX1_unit_X1_unitOf rfl rfl rfl nX1_unitOf ⟨Nat.le_of_ble_eq_true rfl, Nat.le_of_ble_eq_true rfl⟩) rfl hl.1 rfl (Nat.le_of_ble_eq_true rfl) dX1_unit_73 ⟨Nat.le_refl _, Nat.le_refl _⟩ (fun H locs hI => ?_)
      exact me_i S hr hlocks hK hI hg dX1_unit_76
    · have hg := cIf_te c11 hg
      refine lv_aload_n hx hb dX1_unit_58 rfl (lv_at hl 0 rfl) ?_
      refine lv_iconst (v := 2) hx hb dX1_unit_59 (by decide) ?_
      obtain ⟨σ16, eσ16, hg⟩ := nmd_e hg
      refine mp_thrown S hin hK hI (ix := 73) (by decide +kernel) eσ16 dX1_unit_60 (fun H locs hI => ?_)
      refine lv_iconst (v := 0) hx hb dX1_unit_63 (by decide) ?_
      exact me_i S hr hlocks hK hI hg dX1_unit_64
  · have hg := cIf_te c6 hg
    refine lv_iconst (v := 0) hx hb dX1_unit_43 (by decide) ?_
    exact me_i S hr hlocks hK hI hg dX1_unit_44
set_option maxHeartbeats 4000000 in
set_option maxRecDepth 100000 in
theorem jX1_unit_36 {p : Program} {l : Launch} {e : Env} {s : State} {m : MethodId} {args : Array Value} {below : List Frame} {meth : Method} {c : Code} {A : Nat → Prop} {G : gT} {h0 : Nat} {h : (Nat → Nat)} {F : Nat} (S : CallFix p m c cX1_unit 4 s args wsX1_unit RX1) (hr : meth.sig.returnType = some .int) (hlocks : meth.locks = false) (hin : ∀ w ∈ wsX10, w ∈ wsX1_unit) (hK : gK G s) (hA : ∀ q, s.heap.size ≤ q → A q) {res : (Int32 × mS)} (σ : mS) (v1 : Int32) (v2 : Int32) (v3 : Int32) (H : Heap) (locs : List Loc) (ls : Array Slot) (hg : JX1_unit_36 F σ v1 v2 v3 = some res) (hI : mI s A G h0 h σ H locs) (hl : lv_has ls 4 [(0, .ref h0), (1, .int v1), (2, .int v2), (3, .int v3)]) : W p l e rX1_unit s m args below meth c H locs 0 0 (MQ below (mQi G h0 h res.1 res.2 A) args s 0 0 A) (F0 m 36 ls [.ref h0]) := by
  have hx := S.1
  have hb := S.2.1
  have hts := S.2.2.2.2
  have hown := S.2.2.2.1
  unfold JX1_unit_36 at hg
  refine lv_iconst (v := 0) hx hb dX1_unit_36 (by decide) ?_
  exact jX1_unit_37 S hr hlocks hin hK hA σ v1 v2 v3 0 H locs ls hg hI (lv_sub hl [0, 1, 2, 3] rfl)
set_option maxHeartbeats 4000000 in
set_option maxRecDepth 100000 in
theorem kX1_unit (l : Launch) (G : gT) (h0 : Nat) (h : (Nat → Nat)) (sz F : Nat) (σ : mS) (p1 : Int32) (p2 : Int32) (r : Int32) (σr : mS) (hg : fX1_unit F σ p1 p2 = some (r, σr)) : Met l yX1_unit wsX1_unit rX1_unit (mPre G h0 h σ sz [.int p1, .int p2]) (mQi G h0 h r σr (mA G h0 h σ sz)) 0 0 (mA G h0 h σ sz) := by
  refine mMet (Qc := mQi G h0 h r σr) (by decide +kernel) rfl rfl (Nat.le_of_ble_eq_true rfl) ?_
  intro p e s m args below meth c A S hr hlocks hK hA H locs hI ls hl
  have hl : lv_has ls 4 [(0, .ref h0), (1, .int p1), (2, .int p2)] := hl
  have hin : ∀ w ∈ wsX10, w ∈ wsX1_unit := by decide +kernel
  have hx := S.1
  have hb := S.2.1
  have hts := S.2.2.2.2
  have hown := S.2.2.2.1
  unfold fX1_unit at hg
  refine lv_aload_n hx hb dX1_unit_0 rfl (lv_at hl 0 rfl) ?_
  refine lv_iload_n hx hb dX1_unit_1 rfl (lv_at hl 1 rfl) ?_
  obtain ⟨r2, σ1, er2, hg⟩ := bnd_e hg
  refine mc_i S hK hA hI (As := [.int p1]) (rest := []) (kX1_isText l G h0 h H.size F σ p1  r2 σ1 er2) (cwV 1 hts gX1_unit_X1_isText rfl rfl rfl nX1_isText ⟨Nat.le_of_ble_eq_true rfl, Nat.le_of_ble_eq_true rfl⟩) rfl hl.1 rfl (Nat.le_of_ble_eq_true rfl) dX1_unit_2 ⟨Nat.le_refl _, Nat.le_refl _⟩ (fun H locs hI => ?_)
  refine lv_istore_n (lv' := [(3, .int r2), (0, .ref h0), (1, .int p1), (2, .int p2)]) hx hb dX1_unit_5 rfl hl (by decide) rfl (fun ls hl => ?_)
  refine lv_aload_n hx hb dX1_unit_6 rfl (lv_at hl 1 rfl) ?_
  refine lv_iload_n hx hb dX1_unit_7 rfl (lv_at hl 0 rfl) ?_
  refine lv_if_eq (tgt := 36) hx hb dX1_unit_8 (by decide) (fun c3 => ?_) (fun c3 => ?_)
  · have hg := cIf_te c3 hg
    exact jX1_unit_36 S hr hlocks hin hK hA σ1 p1 p2 r2 H locs ls hg hI (lv_sub hl [1, 2, 3, 0] rfl)
  · have hg := cIf_fe c3 hg
    refine lv_iload_n hx hb dX1_unit_11 rfl (lv_at hl 3 rfl) ?_
    refine lv_iconst (v := 0) hx hb dX1_unit_12 (by decide) ?_
    refine lv_aload_n hx hb dX1_unit_13 rfl (lv_at hl 1 rfl) ?_
    refine mg_length S hin hK hI (ix := 44) (by decide +kernel) dX1_unit_14 ?_
    refine lv_aload_n hx hb dX1_unit_17 rfl (lv_at hl 1 rfl) ?_
    refine mg_root S hin hK hI (ix := 9) (by decide +kernel) dX1_unit_18 ?_
    refine lv_iload_n hx hb dX1_unit_21 rfl (lv_at hl 2 rfl) ?_
    obtain ⟨c17, hg⟩ := ck_e hg
    obtain ⟨x18, ex18, hg⟩ := nmd_e hg
    refine mr_root S hK hI c17 ex18 dX1_unit_22 ?_
    obtain ⟨c19, hg⟩ := ck_e hg
    obtain ⟨x20, ex20, hg⟩ := nmd_e hg
    refine mr_length S hK hI c19 ex20 dX1_unit_23 ?_
    refine lv_iconst (v := 1) hx hb dX1_unit_24 (by decide) ?_
    refine lv_isub hx hb dX1_unit_25 ?_
    obtain ⟨r21, er21, hg⟩ := bnp_e hg
    refine ms_i S hA hI (As := [.int p2, .int 0, .int (x20 - 1)]) (rest := [.ref h0]) (kX1_in l H.size F p2 0 (x20 - 1) r21 er21) (va_cwS 3 hts gX1_unit_X1_in rfl rfl rfl nX1_in ⟨Nat.le_of_ble_eq_true rfl, Nat.le_of_ble_eq_true rfl⟩) rfl hl.1 rfl (Nat.le_of_ble_eq_true rfl) dX1_unit_26 ⟨Nat.le_refl _, Nat.le_refl _⟩ (fun H locs hI => ?_)
    refine lv_if_eq (tgt := 36) hx hb dX1_unit_29 (by decide) (fun c22 => ?_) (fun c22 => ?_)
    · have hg := cIf_te c22 hg
      exact jX1_unit_36 S hr hlocks hin hK hA σ1 p1 p2 r2 H locs ls hg hI (lv_sub hl [1, 2, 3, 0] rfl)
    · have hg := cIf_fe c22 hg
      refine lv_iconst (v := 1) hx hb dX1_unit_32 (by decide) ?_
      refine lv_goto (tgt := 37) hx hb dX1_unit_33 (by decide) ?_
      exact jX1_unit_37 S hr hlocks hin hK hA σ1 p1 p2 r2 1 H locs ls hg hI (lv_sub hl [1, 2, 3, 0] rfl)
-- OwnMemoryModel.order
abbrev rX1_order : Room := { frames := 1, cells := 0, slots := 0, locals := 24 }
theorem nX1_order : yX1_order.cls = RX1 ∧ yX1_order.cls ≠ "java/lang/invoke/MethodHandle" ∧ yX1_order.cls ≠ "java/lang/invoke/VarHandle" ∧ (parseMethodDescriptor yX1_order.desc).map (fun d => d.parameters.length) = some 2 := by decide +kernel
noncomputable def LX1_order_34 (F : Nat) (K : Int32 → mS → Option (Int32 × mS)) (v1 : Int32) (v2 : Int32) (v3 : Int32) : Nat → Int32 → mS → Option (Int32 × mS)
  | 0, _, _ => none
  | n + 1, v4, σ => cIf (v3 ≤ v4) (K v4 σ) (bnd (fX1_unitOf F σ v1 v4) (fun r10 σ9 => bnd (fX1_unitOf F σ9 v2 v4) (fun r12 σ11 => cIf (r10 = r12) (nmd (v4 + 1) (fun x14 => LX1_order_34 F K v1 v2 v3 n x14 σ11)) (cIf (r12 ≤ r10) (some (1, σ11)) (some ((-1), σ11))))))
noncomputable def JX1_order_30 (F : Nat) (σ : mS) (v1 : Int32) (v2 : Int32) (t0 : Int32) : Option (Int32 × mS) := LX1_order_34 F (fun w16 σ17 => ck (vp_in v1 4096) (nmd (m_length σ17 v1.toNatClampNeg) (fun x19 => ck (vp_in v2 4096) (nmd (m_length σ17 v2.toNatClampNeg) (fun x21 => cIf (x19 = x21) (some (0, σ17)) (ck (vp_in v1 4096) (nmd (m_length σ17 v1.toNatClampNeg) (fun x24 => ck (vp_in v2 4096) (nmd (m_length σ17 v2.toNatClampNeg) (fun x26 => cIf (x26 ≤ x24) (some (1, σ17)) (some ((-1), σ17)))))))))))) v1 v2 t0 F 0 σ
noncomputable def fX1_order (F : Nat) (σ : mS) (p1 : Int32) (p2 : Int32) : Option (Int32 × mS) := ck (vp_in p1 4096) (nmd (m_length σ p1.toNatClampNeg) (fun x2 => ck (vp_in p2 4096) (nmd (m_length σ p2.toNatClampNeg) (fun x4 => cIf (x4 ≤ x2) (ck (vp_in p2 4096) (nmd (m_length σ p2.toNatClampNeg) (fun x7 => JX1_order_30 F σ p1 p2 x7))) (ck (vp_in p1 4096) (nmd (m_length σ p1.toNatClampNeg) (fun x29 => JX1_order_30 F σ p1 p2 x29)))))))
set_option maxHeartbeats 4000000 in
set_option maxRecDepth 100000 in
theorem lX1_order_34 {p : Program} {l : Launch} {e : Env} {s : State} {m : MethodId} {args : Array Value} {below : List Frame} {meth : Method} {c : Code} {A : Nat → Prop} {G : gT} {h0 : Nat} {h : (Nat → Nat)} {F : Nat} (S : CallFix p m c cX1_order 7 s args wsX1_order RX1) (hr : meth.sig.returnType = some .int) (hlocks : meth.locks = false) (hin : ∀ w ∈ wsX10, w ∈ wsX1_order) (hK : gK G s) (hA : ∀ q, s.heap.size ≤ q → A q) {K : Int32 → mS → Option (Int32 × mS)} {res : (Int32 × mS)} (v1 : Int32) (v2 : Int32) (v3 : Int32) (n : Nat) : ∀ (v4 : Int32) (σ : mS) (H : Heap) (locs : List Loc) (ls : Array Slot), LX1_order_34 F K v1 v2 v3 n v4 σ = some res → mI s A G h0 h σ H locs → lv_has ls 7 [(0, .ref h0), (1, .int v1), (2, .int v2), (3, .int v3), (4, .int v4)] → (∀ (v4 : Int32) (σ : mS) (H : Heap) (locs : List Loc) (ls : Array Slot), K v4 σ = some res → mI s A G h0 h σ H locs → lv_has ls 7 [(0, .ref h0), (1, .int v1), (2, .int v2), (3, .int v3), (4, .int v4)] → W p l e rX1_order s m args below meth c H locs 0 0 (MQ below (mQi G h0 h res.1 res.2 A) args s 0 0 A) (F0 m 84 ls [])) → W p l e rX1_order s m args below meth c H locs 0 0 (MQ below (mQi G h0 h res.1 res.2 A) args s 0 0 A) (F0 m 34 ls []) := by
  have hx := S.1
  have hb := S.2.1
  have hts := S.2.2.2.2
  have hown := S.2.2.2.1
  induction n with
  | zero => intro v4 σ H locs ls hg; rw [LX1_order_34] at hg; cases hg
  | succ n ih =>
    intro v4 σ H locs ls hg hI hl kk
    rw [LX1_order_34] at hg
    refine lv_iload hx hb dX1_order_34 (lv_at hl 4 rfl) ?_
    refine lv_iload_n hx hb dX1_order_36 rfl (lv_at hl 3 rfl) ?_
    refine lv_icmp_ge (tgt := 84) hx hb dX1_order_37 (by decide) (fun c8 => ?_) (fun c8 => ?_)
    · have hg := cIf_te c8 hg
      exact kk v4 σ H locs ls hg hI (lv_sub hl [0, 1, 2, 3, 4] rfl)
    · have hg := cIf_fe c8 hg
      refine lv_aload_n hx hb dX1_order_40 rfl (lv_at hl 0 rfl) ?_
      refine lv_iload_n hx hb dX1_order_41 rfl (lv_at hl 1 rfl) ?_
      refine lv_iload hx hb dX1_order_42 (lv_at hl 4 rfl) ?_
      obtain ⟨r10, σ9, er10, hg⟩ := bnd_e hg
      refine mc_i S hK hA hI (As := [.int v1, .int v4]) (rest := []) (kX1_unitOf l G h0 h H.size F σ v1 v4  r10 σ9 er10) (cwV 2 hts gX1_order_X1_unitOf rfl rfl rfl nX1_unitOf ⟨Nat.le_of_ble_eq_true rfl, Nat.le_of_ble_eq_true rfl⟩) rfl hl.1 rfl (Nat.le_of_ble_eq_true rfl) dX1_order_44 ⟨Nat.le_refl _, Nat.le_refl _⟩ (fun H locs hI => ?_)
      refine lv_istore (lv' := [(5, .int r10), (0, .ref h0), (1, .int v1), (2, .int v2), (3, .int v3), (4, .int v4)]) hx hb dX1_order_47 hl (by decide) rfl (fun ls hl => ?_)
      refine lv_aload_n hx hb dX1_order_49 rfl (lv_at hl 1 rfl) ?_
      refine lv_iload_n hx hb dX1_order_50 rfl (lv_at hl 3 rfl) ?_
      refine lv_iload hx hb dX1_order_51 (lv_at hl 5 rfl) ?_
      obtain ⟨r12, σ11, er12, hg⟩ := bnd_e hg
      refine mc_i S hK hA hI (As := [.int v2, .int v4]) (rest := []) (kX1_unitOf l G h0 h H.size F σ9 v2 v4  r12 σ11 er12) (cwV 2 hts gX1_order_X1_unitOf rfl rfl rfl nX1_unitOf ⟨Nat.le_of_ble_eq_true rfl, Nat.le_of_ble_eq_true rfl⟩) rfl hl.1 rfl (Nat.le_of_ble_eq_true rfl) dX1_order_53 ⟨Nat.le_refl _, Nat.le_refl _⟩ (fun H locs hI => ?_)
      refine lv_istore (lv' := [(6, .int r12), (5, .int r10), (0, .ref h0), (1, .int v1), (2, .int v2), (3, .int v3), (4, .int v4)]) hx hb dX1_order_56 hl (by decide) rfl (fun ls hl => ?_)
      refine lv_iload hx hb dX1_order_58 (lv_at hl 1 rfl) ?_
      refine lv_iload hx hb dX1_order_60 (lv_at hl 0 rfl) ?_
      refine lv_icmp_eq (tgt := 78) hx hb dX1_order_62 (by decide) (fun c13 => ?_) (fun c13 => ?_)
      · have hg := cIf_te c13 hg
        obtain ⟨x14, ex14, hg⟩ := nmd_e hg
        refine lv_iinc (v := x14) (lv' := [(4, .int x14), (6, .int r12), (5, .int r10), (0, .ref h0), (1, .int v1), (2, .int v2), (3, .int v3)]) hx hb dX1_order_78 hl (k := 6) rfl (by rw [ex14]; rfl) (by decide) rfl (fun ls hl => ?_)
        refine lv_goto (tgt := 34) hx hb dX1_order_81 (by decide) ?_
        exact ih x14 σ11 H locs ls hg hI (lv_sub hl [3, 4, 5, 6, 0] rfl) kk
      · have hg := cIf_fe c13 hg
        refine lv_iload hx hb dX1_order_65 (lv_at hl 1 rfl) ?_
        refine lv_iload hx hb dX1_order_67 (lv_at hl 0 rfl) ?_
        refine lv_icmp_ge (tgt := 76) hx hb dX1_order_69 (by decide) (fun c15 => ?_) (fun c15 => ?_)
        · have hg := cIf_te c15 hg
          refine lv_iconst (v := 1) hx hb dX1_order_76 (by decide) ?_
          exact me_i S hr hlocks hK hI hg dX1_order_77
        · have hg := cIf_fe c15 hg
          refine lv_iconst (v := (-1)) hx hb dX1_order_72 (by decide) ?_
          refine lv_goto (tgt := 77) hx hb dX1_order_73 (by decide) ?_
          exact me_i S hr hlocks hK hI hg dX1_order_77
set_option maxHeartbeats 4000000 in
set_option maxRecDepth 100000 in
theorem jX1_order_30 {p : Program} {l : Launch} {e : Env} {s : State} {m : MethodId} {args : Array Value} {below : List Frame} {meth : Method} {c : Code} {A : Nat → Prop} {G : gT} {h0 : Nat} {h : (Nat → Nat)} {F : Nat} (S : CallFix p m c cX1_order 7 s args wsX1_order RX1) (hr : meth.sig.returnType = some .int) (hlocks : meth.locks = false) (hin : ∀ w ∈ wsX10, w ∈ wsX1_order) (hK : gK G s) (hA : ∀ q, s.heap.size ≤ q → A q) {res : (Int32 × mS)} (σ : mS) (v1 : Int32) (v2 : Int32) (t0 : Int32) (H : Heap) (locs : List Loc) (ls : Array Slot) (hg : JX1_order_30 F σ v1 v2 t0 = some res) (hI : mI s A G h0 h σ H locs) (hl : lv_has ls 7 [(0, .ref h0), (1, .int v1), (2, .int v2)]) : W p l e rX1_order s m args below meth c H locs 0 0 (MQ below (mQi G h0 h res.1 res.2 A) args s 0 0 A) (F0 m 30 ls [.int t0]) := by
  have hx := S.1
  have hb := S.2.1
  have hts := S.2.2.2.2
  have hown := S.2.2.2.1
  unfold JX1_order_30 at hg
  refine lv_istore_n (lv' := [(3, .int t0), (0, .ref h0), (1, .int v1), (2, .int v2)]) hx hb dX1_order_30 rfl hl (by decide) rfl (fun ls hl => ?_)
  refine lv_iconst (v := 0) hx hb dX1_order_31 (by decide) ?_
  refine lv_istore (lv' := [(4, .int 0), (3, .int t0), (0, .ref h0), (1, .int v1), (2, .int v2)]) hx hb dX1_order_32 hl (by decide) rfl (fun ls hl => ?_)
  refine lX1_order_34 S hr hlocks hin hK hA v1 v2 t0 F 0 σ H locs ls hg hI (lv_sub hl [2, 3, 4, 1, 0] rfl) (fun w16 σ17 H locs ls hg hI hl => ?_)
  refine lv_aload_n hx hb dX1_order_84 rfl (lv_at hl 0 rfl) ?_
  refine mg_length S hin hK hI (ix := 44) (by decide +kernel) dX1_order_85 ?_
  refine lv_iload_n hx hb dX1_order_88 rfl (lv_at hl 1 rfl) ?_
  obtain ⟨c18, hg⟩ := ck_e hg
  obtain ⟨x19, ex19, hg⟩ := nmd_e hg
  refine mr_length S hK hI c18 ex19 dX1_order_89 ?_
  refine lv_aload_n hx hb dX1_order_90 rfl (lv_at hl 0 rfl) ?_
  refine mg_length S hin hK hI (ix := 44) (by decide +kernel) dX1_order_91 ?_
  refine lv_iload_n hx hb dX1_order_94 rfl (lv_at hl 2 rfl) ?_
  obtain ⟨c20, hg⟩ := ck_e hg
  obtain ⟨x21, ex21, hg⟩ := nmd_e hg
  refine mr_length S hK hI c20 ex21 dX1_order_95 ?_
  refine lv_icmp_ne (tgt := 103) hx hb dX1_order_96 (by decide) (fun c22 => ?_) (fun c22 => ?_)
  · have hg := cIf_fe c22 hg
    refine lv_aload_n hx hb dX1_order_103 rfl (lv_at hl 0 rfl) ?_
    refine mg_length S hin hK hI (ix := 44) (by decide +kernel) dX1_order_104 ?_
    refine lv_iload_n hx hb dX1_order_107 rfl (lv_at hl 1 rfl) ?_
    obtain ⟨c23, hg⟩ := ck_e hg
    obtain ⟨x24, ex24, hg⟩ := nmd_e hg
    refine mr_length S hK hI c23 ex24 dX1_order_108 ?_
    refine lv_aload_n hx hb dX1_order_109 rfl (lv_at hl 0 rfl) ?_
    refine mg_length S hin hK hI (ix := 44) (by decide +kernel) dX1_order_110 ?_
    refine lv_iload_n hx hb dX1_order_113 rfl (lv_at hl 2 rfl) ?_
    obtain ⟨c25, hg⟩ := ck_e hg
    obtain ⟨x26, ex26, hg⟩ := nmd_e hg
    refine mr_length S hK hI c25 ex26 dX1_order_114 ?_
    refine lv_icmp_ge (tgt := 122) hx hb dX1_order_115 (by decide) (fun c27 => ?_) (fun c27 => ?_)
    · have hg := cIf_te c27 hg
      refine lv_iconst (v := 1) hx hb dX1_order_122 (by decide) ?_
      exact me_i S hr hlocks hK hI hg dX1_order_123
    · have hg := cIf_fe c27 hg
      refine lv_iconst (v := (-1)) hx hb dX1_order_118 (by decide) ?_
      refine lv_goto (tgt := 123) hx hb dX1_order_119 (by decide) ?_
      exact me_i S hr hlocks hK hI hg dX1_order_123
  · have hg := cIf_te c22 hg
    refine lv_iconst (v := 0) hx hb dX1_order_99 (by decide) ?_
    refine lv_goto (tgt := 123) hx hb dX1_order_100 (by decide) ?_
    exact me_i S hr hlocks hK hI hg dX1_order_123
set_option maxHeartbeats 4000000 in
set_option maxRecDepth 100000 in
theorem kX1_order (l : Launch) (G : gT) (h0 : Nat) (h : (Nat → Nat)) (sz F : Nat) (σ : mS) (p1 : Int32) (p2 : Int32) (r : Int32) (σr : mS) (hg : fX1_order F σ p1 p2 = some (r, σr)) : Met l yX1_order wsX1_order rX1_order (mPre G h0 h σ sz [.int p1, .int p2]) (mQi G h0 h r σr (mA G h0 h σ sz)) 0 0 (mA G h0 h σ sz) := by
  refine mMet (Qc := mQi G h0 h r σr) (by decide +kernel) rfl rfl (Nat.le_of_ble_eq_true rfl) ?_
  intro p e s m args below meth c A S hr hlocks hK hA H locs hI ls hl
  have hl : lv_has ls 7 [(0, .ref h0), (1, .int p1), (2, .int p2)] := hl
  have hin : ∀ w ∈ wsX10, w ∈ wsX1_order := in_ws
  have hx := S.1
  have hb := S.2.1
  have hts := S.2.2.2.2
  have hown := S.2.2.2.1
  unfold fX1_order at hg
  refine lv_aload_n hx hb dX1_order_0 rfl (lv_at hl 0 rfl) ?_
  refine mg_length S hin hK hI (ix := 44) (by decide +kernel) dX1_order_1 ?_
  refine lv_iload_n hx hb dX1_order_4 rfl (lv_at hl 1 rfl) ?_
  obtain ⟨c1, hg⟩ := ck_e hg
  obtain ⟨x2, ex2, hg⟩ := nmd_e hg
  refine mr_length S hK hI c1 ex2 dX1_order_5 ?_
  refine lv_aload_n hx hb dX1_order_6 rfl (lv_at hl 0 rfl) ?_
  refine mg_length S hin hK hI (ix := 44) (by decide +kernel) dX1_order_7 ?_
  refine lv_iload_n hx hb dX1_order_10 rfl (lv_at hl 2 rfl) ?_
  obtain ⟨c3, hg⟩ := ck_e hg
  obtain ⟨x4, ex4, hg⟩ := nmd_e hg
  refine mr_length S hK hI c3 ex4 dX1_order_11 ?_
  refine lv_icmp_ge (tgt := 24) hx hb dX1_order_12 (by decide) (fun c5 => ?_) (fun c5 => ?_)
  · have hg := cIf_te c5 hg
    refine lv_aload_n hx hb dX1_order_24 rfl (lv_at hl 0 rfl) ?_
    refine mg_length S hin hK hI (ix := 44) (by decide +kernel) dX1_order_25 ?_
    refine lv_iload_n hx hb dX1_order_28 rfl (lv_at hl 2 rfl) ?_
    obtain ⟨c6, hg⟩ := ck_e hg
    obtain ⟨x7, ex7, hg⟩ := nmd_e hg
    refine mr_length S hK hI c6 ex7 dX1_order_29 ?_
    exact jX1_order_30 S hr hlocks hin hK hA σ p1 p2 x7 H locs ls hg hI (lv_sub hl [0, 1, 2] rfl)
  · have hg := cIf_fe c5 hg
    refine lv_aload_n hx hb dX1_order_15 rfl (lv_at hl 0 rfl) ?_
    refine mg_length S hin hK hI (ix := 44) (by decide +kernel) dX1_order_16 ?_
    refine lv_iload_n hx hb dX1_order_19 rfl (lv_at hl 1 rfl) ?_
    obtain ⟨c28, hg⟩ := ck_e hg
    obtain ⟨x29, ex29, hg⟩ := nmd_e hg
    refine mr_length S hK hI c28 ex29 dX1_order_20 ?_
    refine lv_goto (tgt := 30) hx hb dX1_order_21 (by decide) ?_
    exact jX1_order_30 S hr hlocks hin hK hA σ p1 p2 x29 H locs ls hg hI (lv_sub hl [0, 1, 2] rfl)
-- OwnMemoryModel.compare
abbrev rX1_compare : Room := { frames := 5, cells := 0, slots := 0, locals := 111 }
theorem nX1_compare : yX1_compare.cls = RX1 ∧ yX1_compare.cls ≠ "java/lang/invoke/MethodHandle" ∧ yX1_compare.cls ≠ "java/lang/invoke/VarHandle" ∧ (parseMethodDescriptor yX1_compare.desc).map (fun d => d.parameters.length) = some 2 := by decide +kernel
noncomputable def JX1_compare_22 (F : Nat) (σ : mS) (v1 : Int32) (v2 : Int32) (t1 : Int32) : Option (Int32 × mS) := bnd (fX1_says F σ t1) (fun r5 σ4 => cIf (r5 = 0) (some (0, σ4)) (ck (vp_in v1 24) (nmd (m_root σ4 v1.toNatClampNeg) (fun x8 => bnd (fX1_goOver F σ4 x8) (fun r10 σ9 => cIf (r10 = 0) (nmd (m_s_thrown σ9 2) (fun σ12 => some (0, σ12))) (ck (vp_in v2 24) (nmd (m_root σ9 v2.toNatClampNeg) (fun x14 => bnd (fX1_goOver F σ9 x14) (fun r16 σ15 => cIf (r16 = 0) (nmd (m_s_thrown σ15 2) (fun σ24 => some (0, σ24))) (ck (vp_in v1 24) (nmd (m_root σ15 v1.toNatClampNeg) (fun x19 => ck (vp_in v2 24) (nmd (m_root σ15 v2.toNatClampNeg) (fun x21 => bnd (fX1_order F σ15 x19 x21) (fun r23 σ22 => some (r23, σ22))))))))))))))))
noncomputable def JX1_compare_21 (F : Nat) (σ : mS) (v1 : Int32) (v2 : Int32) : Option (Int32 × mS) := JX1_compare_22 F σ v1 v2 0
noncomputable def fX1_compare (F : Nat) (σ : mS) (p1 : Int32) (p2 : Int32) : Option (Int32 × mS) := bnd (fX1_isText F σ p1) (fun r2 σ1 => cIf (r2 = 0) (JX1_compare_21 F σ1 p1 p2) (bnd (fX1_isText F σ1 p2) (fun r26 σ25 => cIf (r26 = 0) (JX1_compare_21 F σ25 p1 p2) (JX1_compare_22 F σ25 p1 p2 1))))
set_option maxHeartbeats 4000000 in
set_option maxRecDepth 100000 in
theorem jX1_compare_22 {p : Program} {l : Launch} {e : Env} {s : State} {m : MethodId} {args : Array Value} {below : List Frame} {meth : Method} {c : Code} {A : Nat → Prop} {G : gT} {h0 : Nat} {h : (Nat → Nat)} {F : Nat} (S : CallFix p m c cX1_compare 3 s args wsX1_compare RX1) (hr : meth.sig.returnType = some .int) (hlocks : meth.locks = false) (hin : ∀ w ∈ wsX10, w ∈ wsX1_compare) (hK : gK G s) (hA : ∀ q, s.heap.size ≤ q → A q) {res : (Int32 × mS)} (σ : mS) (v1 : Int32) (v2 : Int32) (t1 : Int32) (H : Heap) (locs : List Loc) (ls : Array Slot) (hg : JX1_compare_22 F σ v1 v2 t1 = some res) (hI : mI s A G h0 h σ H locs) (hl : lv_has ls 3 [(0, .ref h0), (1, .int v1), (2, .int v2)]) : W p l e rX1_compare s m args below meth c H locs 0 0 (MQ below (mQi G h0 h res.1 res.2 A) args s 0 0 A) (F0 m 22 ls [.int t1, .ref h0]) := by
  have hx := S.1
  have hb := S.2.1
  have hts := S.2.2.2.2
  have hown := S.2.2.2.1
  unfold JX1_compare_22 at hg
  obtain ⟨r5, σ4, er5, hg⟩ := bnd_e hg
  refine mc_i S hK hA hI (As := [.int t1]) (rest := []) (kX1_says l G h0 h H.size F σ t1  r5 σ4 er5) (cwV 1 hts gX1_compare_X1_says rfl rfl rfl nX1_says ⟨Nat.le_of_ble_eq_true rfl, Nat.le_of_ble_eq_true rfl⟩) rfl hl.1 rfl (Nat.le_of_ble_eq_true rfl) dX1_compare_22 ⟨Nat.le_refl _, Nat.le_refl _⟩ (fun H locs hI => ?_)
  refine lv_if_ne (tgt := 30) hx hb dX1_compare_25 (by decide) (fun c6 => ?_) (fun c6 => ?_)
  · have hg := cIf_fe c6 hg
    refine lv_aload_n hx hb dX1_compare_30 rfl (lv_at hl 0 rfl) ?_
    refine lv_aload_n hx hb dX1_compare_31 rfl (lv_at hl 0 rfl) ?_
    refine mg_root S hin hK hI (ix := 9) (by decide +kernel) dX1_compare_32 ?_
    refine lv_iload_n hx hb dX1_compare_35 rfl (lv_at hl 1 rfl) ?_
    obtain ⟨c7, hg⟩ := ck_e hg
    obtain ⟨x8, ex8, hg⟩ := nmd_e hg
    refine mr_root S hK hI c7 ex8 dX1_compare_36 ?_
    obtain ⟨r10, σ9, er10, hg⟩ := bnd_e hg
    refine mc_i S hK hA hI (As := [.int x8]) (rest := []) (kX1_goOver l G h0 h H.size F σ4 x8  r10 σ9 er10) (cwV 1 hts gX1_compare_X1_goOver rfl rfl rfl nX1_goOver ⟨Nat.le_of_ble_eq_true rfl, Nat.le_of_ble_eq_true rfl⟩) rfl hl.1 rfl (Nat.le_of_ble_eq_true rfl) dX1_compare_37 ⟨Nat.le_refl _, Nat.le_refl _⟩ (fun H locs hI => ?_)
    refine lv_if_eq (tgt := 56) hx hb dX1_compare_40 (by decide) (fun c11 => ?_) (fun c11 => ?_)
    · have hg := cIf_te c11 hg
      refine lv_aload_n hx hb dX1_compare_56 rfl (lv_at hl 0 rfl) ?_
      refine lv_iconst (v := 2) hx hb dX1_compare_57 (by decide) ?_
      obtain ⟨σ12, eσ12, hg⟩ := nmd_e hg
      refine mp_thrown S hin hK hI (ix := 73) (by decide +kernel) eσ12 dX1_compare_58 (fun H locs hI => ?_)
      refine lv_iconst (v := 0) hx hb dX1_compare_61 (by decide) ?_
      exact me_i S hr hlocks hK hI hg dX1_compare_62
    · have hg := cIf_fe c11 hg
      refine lv_aload_n hx hb dX1_compare_43 rfl (lv_at hl 0 rfl) ?_
      refine lv_aload_n hx hb dX1_compare_44 rfl (lv_at hl 0 rfl) ?_
      refine mg_root S hin hK hI (ix := 9) (by decide +kernel) dX1_compare_45 ?_
      refine lv_iload_n hx hb dX1_compare_48 rfl (lv_at hl 2 rfl) ?_
      obtain ⟨c13, hg⟩ := ck_e hg
      obtain ⟨x14, ex14, hg⟩ := nmd_e hg
      refine mr_root S hK hI c13 ex14 dX1_compare_49 ?_
      obtain ⟨r16, σ15, er16, hg⟩ := bnd_e hg
      refine mc_i S hK hA hI (As := [.int x14]) (rest := []) (kX1_goOver l G h0 h H.size F σ9 x14  r16 σ15 er16) (cwV 1 hts gX1_compare_X1_goOver rfl rfl rfl nX1_goOver ⟨Nat.le_of_ble_eq_true rfl, Nat.le_of_ble_eq_true rfl⟩) rfl hl.1 rfl (Nat.le_of_ble_eq_true rfl) dX1_compare_50 ⟨Nat.le_refl _, Nat.le_refl _⟩ (fun H locs hI => ?_)
      refine lv_if_ne (tgt := 63) hx hb dX1_compare_53 (by decide) (fun c17 => ?_) (fun c17 => ?_)
      · have hg := cIf_fe c17 hg
        refine lv_aload_n hx hb dX1_compare_63 rfl (lv_at hl 0 rfl) ?_
        refine lv_aload_n hx hb dX1_compare_64 rfl (lv_at hl 0 rfl) ?_
        refine mg_root S hin hK hI (ix := 9) (by decide +kernel) dX1_compare_65 ?_
        refine lv_iload_n hx hb dX1_compare_68 rfl (lv_at hl 1 rfl) ?_
        obtain ⟨c18, hg⟩ := ck_e hg
        obtain ⟨x19, ex19, hg⟩ := nmd_e hg
        refine mr_root S hK hI c18 ex19 dX1_compare_69 ?_
        refine lv_aload_n hx hb dX1_compare_70 rfl (lv_at hl 0 rfl) ?_
        refine mg_root S hin hK hI (ix := 9) (by decide +kernel) dX1_compare_71 ?_
        refine lv_iload_n hx hb dX1_compare_74 rfl (lv_at hl 2 rfl) ?_
        obtain ⟨c20, hg⟩ := ck_e hg
        obtain ⟨x21, ex21, hg⟩ := nmd_e hg
        refine mr_root S hK hI c20 ex21 dX1_compare_75 ?_
        obtain ⟨r23, σ22, er23, hg⟩ := bnd_e hg
        refine mc_i S hK hA hI (As := [.int x19, .int x21]) (rest := []) (kX1_order l G h0 h H.size F σ15 x19 x21  r23 σ22 er23) (cwV 2 hts gX1_compare_X1_order rfl rfl rfl nX1_order ⟨Nat.le_of_ble_eq_true rfl, Nat.le_of_ble_eq_true rfl⟩) rfl hl.1 rfl (Nat.le_of_ble_eq_true rfl) dX1_compare_76 ⟨Nat.le_refl _, Nat.le_refl _⟩ (fun H locs hI => ?_)
        exact me_i S hr hlocks hK hI hg dX1_compare_79
      · have hg := cIf_te c17 hg
        refine lv_aload_n hx hb dX1_compare_56 rfl (lv_at hl 0 rfl) ?_
        refine lv_iconst (v := 2) hx hb dX1_compare_57 (by decide) ?_
        obtain ⟨σ24, eσ24, hg⟩ := nmd_e hg
        refine mp_thrown S hin hK hI (ix := 73) (by decide +kernel) eσ24 dX1_compare_58 (fun H locs hI => ?_)
        refine lv_iconst (v := 0) hx hb dX1_compare_61 (by decide) ?_
        exact me_i S hr hlocks hK hI hg dX1_compare_62
  · have hg := cIf_te c6 hg
    refine lv_iconst (v := 0) hx hb dX1_compare_28 (by decide) ?_
    exact me_i S hr hlocks hK hI hg dX1_compare_29
set_option maxHeartbeats 4000000 in
set_option maxRecDepth 100000 in
theorem jX1_compare_21 {p : Program} {l : Launch} {e : Env} {s : State} {m : MethodId} {args : Array Value} {below : List Frame} {meth : Method} {c : Code} {A : Nat → Prop} {G : gT} {h0 : Nat} {h : (Nat → Nat)} {F : Nat} (S : CallFix p m c cX1_compare 3 s args wsX1_compare RX1) (hr : meth.sig.returnType = some .int) (hlocks : meth.locks = false) (hin : ∀ w ∈ wsX10, w ∈ wsX1_compare) (hK : gK G s) (hA : ∀ q, s.heap.size ≤ q → A q) {res : (Int32 × mS)} (σ : mS) (v1 : Int32) (v2 : Int32) (H : Heap) (locs : List Loc) (ls : Array Slot) (hg : JX1_compare_21 F σ v1 v2 = some res) (hI : mI s A G h0 h σ H locs) (hl : lv_has ls 3 [(0, .ref h0), (1, .int v1), (2, .int v2)]) : W p l e rX1_compare s m args below meth c H locs 0 0 (MQ below (mQi G h0 h res.1 res.2 A) args s 0 0 A) (F0 m 21 ls [.ref h0]) := by
  have hx := S.1
  have hb := S.2.1
  have hts := S.2.2.2.2
  have hown := S.2.2.2.1
  unfold JX1_compare_21 at hg
  refine lv_iconst (v := 0) hx hb dX1_compare_21 (by decide) ?_
  exact jX1_compare_22 S hr hlocks hin hK hA σ v1 v2 0 H locs ls hg hI (lv_sub hl [0, 1, 2] rfl)
set_option maxHeartbeats 4000000 in
set_option maxRecDepth 100000 in
theorem kX1_compare (l : Launch) (G : gT) (h0 : Nat) (h : (Nat → Nat)) (sz F : Nat) (σ : mS) (p1 : Int32) (p2 : Int32) (r : Int32) (σr : mS) (hg : fX1_compare F σ p1 p2 = some (r, σr)) : Met l yX1_compare wsX1_compare rX1_compare (mPre G h0 h σ sz [.int p1, .int p2]) (mQi G h0 h r σr (mA G h0 h σ sz)) 0 0 (mA G h0 h σ sz) := by
  refine mMet (Qc := mQi G h0 h r σr) (by decide +kernel) rfl rfl (Nat.le_of_ble_eq_true rfl) ?_
  intro p e s m args below meth c A S hr hlocks hK hA H locs hI ls hl
  have hl : lv_has ls 3 [(0, .ref h0), (1, .int p1), (2, .int p2)] := hl
  have hin : ∀ w ∈ wsX10, w ∈ wsX1_compare := by decide +kernel
  have hx := S.1
  have hb := S.2.1
  have hts := S.2.2.2.2
  have hown := S.2.2.2.1
  unfold fX1_compare at hg
  refine lv_aload_n hx hb dX1_compare_0 rfl (lv_at hl 0 rfl) ?_
  refine lv_aload_n hx hb dX1_compare_1 rfl (lv_at hl 0 rfl) ?_
  refine lv_iload_n hx hb dX1_compare_2 rfl (lv_at hl 1 rfl) ?_
  obtain ⟨r2, σ1, er2, hg⟩ := bnd_e hg
  refine mc_i S hK hA hI (As := [.int p1]) (rest := [.ref h0]) (kX1_isText l G h0 h H.size F σ p1  r2 σ1 er2) (cwV 1 hts gX1_compare_X1_isText rfl rfl rfl nX1_isText ⟨Nat.le_of_ble_eq_true rfl, Nat.le_of_ble_eq_true rfl⟩) rfl hl.1 rfl (Nat.le_of_ble_eq_true rfl) dX1_compare_3 ⟨Nat.le_refl _, Nat.le_refl _⟩ (fun H locs hI => ?_)
  refine lv_if_eq (tgt := 21) hx hb dX1_compare_6 (by decide) (fun c3 => ?_) (fun c3 => ?_)
  · have hg := cIf_te c3 hg
    exact jX1_compare_21 S hr hlocks hin hK hA σ1 p1 p2 H locs ls hg hI (lv_sub hl [0, 1, 2] rfl)
  · have hg := cIf_fe c3 hg
    refine lv_aload_n hx hb dX1_compare_9 rfl (lv_at hl 0 rfl) ?_
    refine lv_iload_n hx hb dX1_compare_10 rfl (lv_at hl 2 rfl) ?_
    obtain ⟨r26, σ25, er26, hg⟩ := bnd_e hg
    refine mc_i S hK hA hI (As := [.int p2]) (rest := [.ref h0]) (kX1_isText l G h0 h H.size F σ1 p2  r26 σ25 er26) (cwV 1 hts gX1_compare_X1_isText rfl rfl rfl nX1_isText ⟨Nat.le_of_ble_eq_true rfl, Nat.le_of_ble_eq_true rfl⟩) rfl hl.1 rfl (Nat.le_of_ble_eq_true rfl) dX1_compare_11 ⟨Nat.le_refl _, Nat.le_refl _⟩ (fun H locs hI => ?_)
    refine lv_if_eq (tgt := 21) hx hb dX1_compare_14 (by decide) (fun c27 => ?_) (fun c27 => ?_)
    · have hg := cIf_te c27 hg
      exact jX1_compare_21 S hr hlocks hin hK hA σ25 p1 p2 H locs ls hg hI (lv_sub hl [0, 1, 2] rfl)
    · have hg := cIf_fe c27 hg
      refine lv_iconst (v := 1) hx hb dX1_compare_17 (by decide) ?_
      refine lv_goto (tgt := 22) hx hb dX1_compare_18 (by decide) ?_
      exact jX1_compare_22 S hr hlocks hin hK hA σ25 p1 p2 1 H locs ls hg hI (lv_sub hl [0, 1, 2] rfl)
-- OwnMemoryModel.find
abbrev rX1_find : Room := { frames := 2, cells := 0, slots := 0, locals := 50 }
theorem nX1_find : yX1_find.cls = RX1 ∧ yX1_find.cls ≠ "java/lang/invoke/MethodHandle" ∧ yX1_find.cls ≠ "java/lang/invoke/VarHandle" ∧ (parseMethodDescriptor yX1_find.desc).map (fun d => d.parameters.length) = some 1 := by decide +kernel
noncomputable def LX1_find_6 (F : Nat) (K : Int32 → mS → Option (Int32 × mS)) (v1 : Int32) : Nat → Int32 → mS → Option (Int32 × mS)
  | 0, _, _ => none
  | n + 1, v2, σ => cIf ((m_objects σ) ≤ v2) (K v2 σ) (ck (vp_in v2 4096) (nmd (m_there σ v2.toNatClampNeg) (fun x4 => cIf (x4 = 0) (nmd (v2 + 1) (fun x6 => LX1_find_6 F K v1 n x6 σ)) (ck (vp_in v2 4096) (nmd (m_kind σ v2.toNatClampNeg) (fun x8 => cIf (x8 = 5) (ck (vp_in v2 4096) (nmd (m_length σ v2.toNatClampNeg) (fun x12 => ck (vp_in v1 4096) (nmd (m_length σ v1.toNatClampNeg) (fun x14 => cIf (x12 = x14) (bnd (fX1_order F σ v2 v1) (fun r18 σ17 => cIf (r18 = 0) (some (v2, σ17)) (nmd (v2 + 1) (fun x20 => LX1_find_6 F K v1 n x20 σ17)))) (nmd (v2 + 1) (fun x16 => LX1_find_6 F K v1 n x16 σ))))))) (nmd (v2 + 1) (fun x10 => LX1_find_6 F K v1 n x10 σ))))))))
noncomputable def fX1_find (F : Nat) (σ : mS) (p1 : Int32) : Option (Int32 × mS) := bnp (fX1_look F σ ) (fun σ1 => LX1_find_6 F (fun w21 σ22 => some (0, σ22)) p1 F 1 σ1)
set_option maxHeartbeats 4000000 in
set_option maxRecDepth 100000 in
theorem lX1_find_6 {p : Program} {l : Launch} {e : Env} {s : State} {m : MethodId} {args : Array Value} {below : List Frame} {meth : Method} {c : Code} {A : Nat → Prop} {G : gT} {h0 : Nat} {h : (Nat → Nat)} {F : Nat} (S : CallFix p m c cX1_find 3 s args wsX1_find RX1) (hr : meth.sig.returnType = some .int) (hlocks : meth.locks = false) (hin : ∀ w ∈ wsX10, w ∈ wsX1_find) (hK : gK G s) (hA : ∀ q, s.heap.size ≤ q → A q) {K : Int32 → mS → Option (Int32 × mS)} {res : (Int32 × mS)} (v1 : Int32) (n : Nat) : ∀ (v2 : Int32) (σ : mS) (H : Heap) (locs : List Loc) (ls : Array Slot), LX1_find_6 F K v1 n v2 σ = some res → mI s A G h0 h σ H locs → lv_has ls 3 [(0, .ref h0), (1, .int v1), (2, .int v2)] → (∀ (v2 : Int32) (σ : mS) (H : Heap) (locs : List Loc) (ls : Array Slot), K v2 σ = some res → mI s A G h0 h σ H locs → lv_has ls 3 [(0, .ref h0), (1, .int v1), (2, .int v2)] → W p l e rX1_find s m args below meth c H locs 0 0 (MQ below (mQi G h0 h res.1 res.2 A) args s 0 0 A) (F0 m 65 ls [])) → W p l e rX1_find s m args below meth c H locs 0 0 (MQ below (mQi G h0 h res.1 res.2 A) args s 0 0 A) (F0 m 6 ls []) := by
  have hx := S.1
  have hb := S.2.1
  have hts := S.2.2.2.2
  have hown := S.2.2.2.1
  induction n with
  | zero => intro v2 σ H locs ls hg; rw [LX1_find_6] at hg; cases hg
  | succ n ih =>
    intro v2 σ H locs ls hg hI hl kk
    rw [LX1_find_6] at hg
    refine lv_iload_n hx hb dX1_find_6 rfl (lv_at hl 2 rfl) ?_
    refine lv_aload_n hx hb dX1_find_7 rfl (lv_at hl 0 rfl) ?_
    refine mg_objects S hin hK hI (ix := 13) (by decide +kernel) dX1_find_8 ?_
    refine lv_icmp_ge (tgt := 65) hx hb dX1_find_11 (by decide) (fun c2 => ?_) (fun c2 => ?_)
    · have hg := cIf_te c2 hg
      exact kk v2 σ H locs ls hg hI (lv_sub hl [0, 1, 2] rfl)
    · have hg := cIf_fe c2 hg
      refine lv_aload_n hx hb dX1_find_14 rfl (lv_at hl 0 rfl) ?_
      refine mg_there S hin hK hI (ix := 62) (by decide +kernel) dX1_find_15 ?_
      refine lv_iload_n hx hb dX1_find_18 rfl (lv_at hl 2 rfl) ?_
      obtain ⟨c3, hg⟩ := ck_e hg
      obtain ⟨x4, ex4, hg⟩ := nmd_e hg
      refine mr_there S hK hI c3 ex4 dX1_find_19 ?_
      refine lv_if_eq (tgt := 59) hx hb dX1_find_20 (by decide) (fun c5 => ?_) (fun c5 => ?_)
      · have hg := cIf_te c5 hg
        obtain ⟨x6, ex6, hg⟩ := nmd_e hg
        refine lv_iinc (v := x6) (lv' := [(2, .int x6), (0, .ref h0), (1, .int v1)]) hx hb dX1_find_59 hl (k := 2) rfl (by rw [ex6]; rfl) (by decide) rfl (fun ls hl => ?_)
        refine lv_goto (tgt := 6) hx hb dX1_find_62 (by decide) ?_
        exact ih x6 σ H locs ls hg hI (lv_sub hl [1, 2, 0] rfl) kk
      · have hg := cIf_fe c5 hg
        refine lv_aload_n hx hb dX1_find_23 rfl (lv_at hl 0 rfl) ?_
        refine mg_kind S hin hK hI (ix := 17) (by decide +kernel) dX1_find_24 ?_
        refine lv_iload_n hx hb dX1_find_27 rfl (lv_at hl 2 rfl) ?_
        obtain ⟨c7, hg⟩ := ck_e hg
        obtain ⟨x8, ex8, hg⟩ := nmd_e hg
        refine mr_kind S hK hI c7 ex8 dX1_find_28 ?_
        refine lv_iconst (v := 5) hx hb dX1_find_29 (by decide) ?_
        refine lv_icmp_ne (tgt := 59) hx hb dX1_find_30 (by decide) (fun c9 => ?_) (fun c9 => ?_)
        · have hg := cIf_fe c9 hg
          obtain ⟨x10, ex10, hg⟩ := nmd_e hg
          refine lv_iinc (v := x10) (lv' := [(2, .int x10), (0, .ref h0), (1, .int v1)]) hx hb dX1_find_59 hl (k := 2) rfl (by rw [ex10]; rfl) (by decide) rfl (fun ls hl => ?_)
          refine lv_goto (tgt := 6) hx hb dX1_find_62 (by decide) ?_
          exact ih x10 σ H locs ls hg hI (lv_sub hl [1, 2, 0] rfl) kk
        · have hg := cIf_te c9 hg
          refine lv_aload_n hx hb dX1_find_33 rfl (lv_at hl 0 rfl) ?_
          refine mg_length S hin hK hI (ix := 44) (by decide +kernel) dX1_find_34 ?_
          refine lv_iload_n hx hb dX1_find_37 rfl (lv_at hl 2 rfl) ?_
          obtain ⟨c11, hg⟩ := ck_e hg
          obtain ⟨x12, ex12, hg⟩ := nmd_e hg
          refine mr_length S hK hI c11 ex12 dX1_find_38 ?_
          refine lv_aload_n hx hb dX1_find_39 rfl (lv_at hl 0 rfl) ?_
          refine mg_length S hin hK hI (ix := 44) (by decide +kernel) dX1_find_40 ?_
          refine lv_iload_n hx hb dX1_find_43 rfl (lv_at hl 1 rfl) ?_
          obtain ⟨c13, hg⟩ := ck_e hg
          obtain ⟨x14, ex14, hg⟩ := nmd_e hg
          refine mr_length S hK hI c13 ex14 dX1_find_44 ?_
          refine lv_icmp_ne (tgt := 59) hx hb dX1_find_45 (by decide) (fun c15 => ?_) (fun c15 => ?_)
          · have hg := cIf_fe c15 hg
            obtain ⟨x16, ex16, hg⟩ := nmd_e hg
            refine lv_iinc (v := x16) (lv' := [(2, .int x16), (0, .ref h0), (1, .int v1)]) hx hb dX1_find_59 hl (k := 2) rfl (by rw [ex16]; rfl) (by decide) rfl (fun ls hl => ?_)
            refine lv_goto (tgt := 6) hx hb dX1_find_62 (by decide) ?_
            exact ih x16 σ H locs ls hg hI (lv_sub hl [1, 2, 0] rfl) kk
          · have hg := cIf_te c15 hg
            refine lv_aload_n hx hb dX1_find_48 rfl (lv_at hl 0 rfl) ?_
            refine lv_iload_n hx hb dX1_find_49 rfl (lv_at hl 2 rfl) ?_
            refine lv_iload_n hx hb dX1_find_50 rfl (lv_at hl 1 rfl) ?_
            obtain ⟨r18, σ17, er18, hg⟩ := bnd_e hg
            refine mc_i S hK hA hI (As := [.int v2, .int v1]) (rest := []) (kX1_order l G h0 h H.size F σ v2 v1  r18 σ17 er18) (cwV 2 hts gX1_find_X1_order rfl rfl rfl nX1_order ⟨Nat.le_of_ble_eq_true rfl, Nat.le_of_ble_eq_true rfl⟩) rfl hl.1 rfl (Nat.le_of_ble_eq_true rfl) dX1_find_51 ⟨Nat.le_refl _, Nat.le_refl _⟩ (fun H locs hI => ?_)
            refine lv_if_ne (tgt := 59) hx hb dX1_find_54 (by decide) (fun c19 => ?_) (fun c19 => ?_)
            · have hg := cIf_fe c19 hg
              obtain ⟨x20, ex20, hg⟩ := nmd_e hg
              refine lv_iinc (v := x20) (lv' := [(2, .int x20), (0, .ref h0), (1, .int v1)]) hx hb dX1_find_59 hl (k := 2) rfl (by rw [ex20]; rfl) (by decide) rfl (fun ls hl => ?_)
              refine lv_goto (tgt := 6) hx hb dX1_find_62 (by decide) ?_
              exact ih x20 σ17 H locs ls hg hI (lv_sub hl [1, 2, 0] rfl) kk
            · have hg := cIf_te c19 hg
              refine lv_iload_n hx hb dX1_find_57 rfl (lv_at hl 2 rfl) ?_
              exact me_i S hr hlocks hK hI hg dX1_find_58
set_option maxHeartbeats 4000000 in
set_option maxRecDepth 100000 in
theorem kX1_find (l : Launch) (G : gT) (h0 : Nat) (h : (Nat → Nat)) (sz F : Nat) (σ : mS) (p1 : Int32) (r : Int32) (σr : mS) (hg : fX1_find F σ p1 = some (r, σr)) : Met l yX1_find wsX1_find rX1_find (mPre G h0 h σ sz [.int p1]) (mQi G h0 h r σr (mA G h0 h σ sz)) 0 0 (mA G h0 h σ sz) := by
  refine mMet (Qc := mQi G h0 h r σr) (by decide +kernel) rfl rfl (Nat.le_of_ble_eq_true rfl) ?_
  intro p e s m args below meth c A S hr hlocks hK hA H locs hI ls hl
  have hl : lv_has ls 3 [(0, .ref h0), (1, .int p1)] := hl
  have hin : ∀ w ∈ wsX10, w ∈ wsX1_find := by decide +kernel
  have hx := S.1
  have hb := S.2.1
  have hts := S.2.2.2.2
  have hown := S.2.2.2.1
  unfold fX1_find at hg
  refine lv_aload_n hx hb dX1_find_0 rfl (lv_at hl 0 rfl) ?_
  obtain ⟨σ1, eσ1, hg⟩ := bnp_e hg
  refine mc_v S hK hA hI (As := []) (rest := []) (kX1_look l G h0 h H.size F σ  σ1 eσ1) (cwV 0 hts gX1_find_X1_look rfl rfl rfl nX1_look ⟨Nat.le_of_ble_eq_true rfl, Nat.le_of_ble_eq_true rfl⟩) rfl hl.1 rfl (Nat.le_of_ble_eq_true rfl) dX1_find_1 ⟨Nat.le_refl _, Nat.le_refl _⟩ (fun H locs hI => ?_)
  refine lv_iconst (v := 1) hx hb dX1_find_4 (by decide) ?_
  refine lv_istore_n (lv' := [(2, .int 1), (0, .ref h0), (1, .int p1)]) hx hb dX1_find_5 rfl hl (by decide) rfl (fun ls hl => ?_)
  refine lX1_find_6 S hr hlocks hin hK hA p1 F 1 σ1 H locs ls hg hI (lv_sub hl [1, 2, 0] rfl) (fun w21 σ22 H locs ls hg hI hl => ?_)
  refine lv_iconst (v := 0) hx hb dX1_find_65 (by decide) ?_
  exact me_i S hr hlocks hK hI hg dX1_find_66
-- OwnMemoryModel.name
abbrev rX1_name : Room := { frames := 6, cells := 0, slots := 0, locals := 136 }
theorem nX1_name : yX1_name.cls = RX1 ∧ yX1_name.cls ≠ "java/lang/invoke/MethodHandle" ∧ yX1_name.cls ≠ "java/lang/invoke/VarHandle" ∧ (parseMethodDescriptor yX1_name.desc).map (fun d => d.parameters.length) = some 2 := by decide +kernel
noncomputable def JX1_name_96 (F : Nat) (σ : mS) (v1 : Int32) (v2 : Int32) (v3 : Int32) (v4 : Int32) : Option mS := cIf (v4 ≤ 0) (some σ) (ck (vp_in v1 24) (nmd (m_s_root σ (upd (m_root σ) v1.toNatClampNeg v4)) (fun σ17 => some σ17)))
noncomputable def JX1_name_70 (F : Nat) (σ : mS) (v1 : Int32) (v2 : Int32) (v3 : Int32) (t0 : Int32) : Option mS := cIf (t0 = 0) (ck (vp_in v3 4096) (nmd (m_length σ v3.toNatClampNeg) (fun x19 => bnd (fX1_partOf F σ 5 v3 0 x19) (fun r21 σ20 => bnd (fX1_full F σ20 r21) (fun r23 σ22 => JX1_name_96 F σ22 v1 v2 v3 r23))))) (JX1_name_96 F σ v1 v2 v3 t0)
noncomputable def JX1_name_21 (F : Nat) (σ : mS) (v1 : Int32) (v2 : Int32) (t1 : Int32) : Option mS := bnd (fX1_says F σ t1) (fun r4 σ3 => cIf (r4 = 0) (some σ3) (ck (vp_in v2 24) (nmd (m_root σ3 v2.toNatClampNeg) (fun x7 => ck (vp_in x7 4096) (nmd (m_kind σ3 x7.toNatClampNeg) (fun x9 => cIf (x9 = 5) (ck (vp_in v1 24) (nmd (m_s_root σ3 (upd (m_root σ3) v1.toNatClampNeg x7)) (fun σ27 => some σ27))) (bnd (fX1_goOver F σ3 x7) (fun r12 σ11 => cIf (r12 = 0) (JX1_name_70 F σ11 v1 v2 x7 0) (bnd (fX1_find F σ11 x7) (fun r25 σ24 => JX1_name_70 F σ24 v1 v2 x7 r25))))))))))
noncomputable def JX1_name_20 (F : Nat) (σ : mS) (v1 : Int32) (v2 : Int32) : Option mS := JX1_name_21 F σ v1 v2 0
noncomputable def fX1_name (F : Nat) (σ : mS) (p1 : Int32) (p2 : Int32) : Option mS := bnp (fX1_isRoot F p1) (fun r1 => cIf (r1 = 0) (JX1_name_20 F σ p1 p2) (bnd (fX1_isText F σ p2) (fun r29 σ28 => cIf (r29 = 0) (JX1_name_20 F σ28 p1 p2) (JX1_name_21 F σ28 p1 p2 1))))
set_option maxHeartbeats 4000000 in
set_option maxRecDepth 100000 in
theorem jX1_name_96 {p : Program} {l : Launch} {e : Env} {s : State} {m : MethodId} {args : Array Value} {below : List Frame} {meth : Method} {c : Code} {A : Nat → Prop} {G : gT} {h0 : Nat} {h : (Nat → Nat)} {F : Nat} (S : CallFix p m c cX1_name 5 s args wsX1_name RX1) (hr : meth.sig.returnType = none) (hlocks : meth.locks = false) (hin : ∀ w ∈ wsX10, w ∈ wsX1_name) (hK : gK G s) (hA : ∀ q, s.heap.size ≤ q → A q) {res : mS} (σ : mS) (v1 : Int32) (v2 : Int32) (v3 : Int32) (v4 : Int32) (H : Heap) (locs : List Loc) (ls : Array Slot) (hg : JX1_name_96 F σ v1 v2 v3 v4 = some res) (hI : mI s A G h0 h σ H locs) (hl : lv_has ls 5 [(0, .ref h0), (1, .int v1), (2, .int v2), (3, .int v3), (4, .int v4)]) : W p l e rX1_name s m args below meth c H locs 0 0 (MQ below (mQv G h0 h res A) args s 0 0 A) (F0 m 96 ls []) := by
  have hx := S.1
  have hb := S.2.1
  have hts := S.2.2.2.2
  have hown := S.2.2.2.1
  unfold JX1_name_96 at hg
  refine lv_iload hx hb dX1_name_96 (lv_at hl 4 rfl) ?_
  refine lv_if_le (tgt := 109) hx hb dX1_name_98 (by decide) (fun c15 => ?_) (fun c15 => ?_)
  · have hg := cIf_te c15 hg
    exact me_v S hr hlocks hK hI hg dX1_name_109
  · have hg := cIf_fe c15 hg
    refine lv_aload_n hx hb dX1_name_101 rfl (lv_at hl 0 rfl) ?_
    refine mg_root S hin hK hI (ix := 9) (by decide +kernel) dX1_name_102 ?_
    refine lv_iload_n hx hb dX1_name_105 rfl (lv_at hl 1 rfl) ?_
    refine lv_iload hx hb dX1_name_106 (lv_at hl 4 rfl) ?_
    obtain ⟨c16, hg⟩ := ck_e hg
    obtain ⟨σ17, eσ17, hg⟩ := nmd_e hg
    refine mu_root S hK hI c16 eσ17 dX1_name_108 (fun H locs hI => ?_)
    exact me_v S hr hlocks hK hI hg dX1_name_109
set_option maxHeartbeats 4000000 in
set_option maxRecDepth 100000 in
theorem jX1_name_70 {p : Program} {l : Launch} {e : Env} {s : State} {m : MethodId} {args : Array Value} {below : List Frame} {meth : Method} {c : Code} {A : Nat → Prop} {G : gT} {h0 : Nat} {h : (Nat → Nat)} {F : Nat} (S : CallFix p m c cX1_name 5 s args wsX1_name RX1) (hr : meth.sig.returnType = none) (hlocks : meth.locks = false) (hin : ∀ w ∈ wsX10, w ∈ wsX1_name) (hK : gK G s) (hA : ∀ q, s.heap.size ≤ q → A q) {res : mS} (σ : mS) (v1 : Int32) (v2 : Int32) (v3 : Int32) (t0 : Int32) (H : Heap) (locs : List Loc) (ls : Array Slot) (hg : JX1_name_70 F σ v1 v2 v3 t0 = some res) (hI : mI s A G h0 h σ H locs) (hl : lv_has ls 5 [(0, .ref h0), (1, .int v1), (2, .int v2), (3, .int v3)]) : W p l e rX1_name s m args below meth c H locs 0 0 (MQ below (mQv G h0 h res A) args s 0 0 A) (F0 m 70 ls [.int t0]) := by
  have hx := S.1
  have hb := S.2.1
  have hts := S.2.2.2.2
  have hown := S.2.2.2.1
  unfold JX1_name_70 at hg
  refine lv_istore (lv' := [(4, .int t0), (0, .ref h0), (1, .int v1), (2, .int v2), (3, .int v3)]) hx hb dX1_name_70 hl (by decide) rfl (fun ls hl => ?_)
  refine lv_iload hx hb dX1_name_72 (lv_at hl 0 rfl) ?_
  refine lv_if_ne (tgt := 96) hx hb dX1_name_74 (by decide) (fun c14 => ?_) (fun c14 => ?_)
  · have hg := cIf_fe c14 hg
    exact jX1_name_96 S hr hlocks hin hK hA σ v1 v2 v3 t0 H locs ls hg hI (lv_sub hl [1, 2, 3, 4, 0] rfl)
  · have hg := cIf_te c14 hg
    refine lv_aload_n hx hb dX1_name_77 rfl (lv_at hl 1 rfl) ?_
    refine lv_aload_n hx hb dX1_name_78 rfl (lv_at hl 1 rfl) ?_
    refine lv_iconst (v := 5) hx hb dX1_name_79 (by decide) ?_
    refine lv_iload_n hx hb dX1_name_80 rfl (lv_at hl 4 rfl) ?_
    refine lv_iconst (v := 0) hx hb dX1_name_81 (by decide) ?_
    refine lv_aload_n hx hb dX1_name_82 rfl (lv_at hl 1 rfl) ?_
    refine mg_length S hin hK hI (ix := 44) (by decide +kernel) dX1_name_83 ?_
    refine lv_iload_n hx hb dX1_name_86 rfl (lv_at hl 4 rfl) ?_
    obtain ⟨c18, hg⟩ := ck_e hg
    obtain ⟨x19, ex19, hg⟩ := nmd_e hg
    refine mr_length S hK hI c18 ex19 dX1_name_87 ?_
    obtain ⟨r21, σ20, er21, hg⟩ := bnd_e hg
    refine mc_i S hK hA hI (As := [.int 5, .int v3, .int 0, .int x19]) (rest := [.ref h0]) (kX1_partOf l G h0 h H.size F σ 5 v3 0 x19  r21 σ20 er21) (cwV 4 hts gX1_name_X1_partOf rfl rfl rfl nX1_partOf ⟨Nat.le_of_ble_eq_true rfl, Nat.le_of_ble_eq_true rfl⟩) rfl hl.1 rfl (Nat.le_of_ble_eq_true rfl) dX1_name_88 ⟨Nat.le_refl _, Nat.le_refl _⟩ (fun H locs hI => ?_)
    obtain ⟨r23, σ22, er23, hg⟩ := bnd_e hg
    refine mc_i S hK hA hI (As := [.int r21]) (rest := []) (kX1_full l G h0 h H.size F σ20 r21  r23 σ22 er23) (cwV 1 hts gX1_name_X1_full rfl rfl rfl nX1_full ⟨Nat.le_of_ble_eq_true rfl, Nat.le_of_ble_eq_true rfl⟩) rfl hl.1 rfl (Nat.le_of_ble_eq_true rfl) dX1_name_91 ⟨Nat.le_refl _, Nat.le_refl _⟩ (fun H locs hI => ?_)
    refine lv_istore (lv' := [(4, .int r23), (0, .ref h0), (1, .int v1), (2, .int v2), (3, .int v3)]) hx hb dX1_name_94 hl (by decide) rfl (fun ls hl => ?_)
    exact jX1_name_96 S hr hlocks hin hK hA σ22 v1 v2 v3 r23 H locs ls hg hI (lv_sub hl [1, 2, 3, 4, 0] rfl)
set_option maxHeartbeats 4000000 in
set_option maxRecDepth 100000 in
theorem jX1_name_21 {p : Program} {l : Launch} {e : Env} {s : State} {m : MethodId} {args : Array Value} {below : List Frame} {meth : Method} {c : Code} {A : Nat → Prop} {G : gT} {h0 : Nat} {h : (Nat → Nat)} {F : Nat} (S : CallFix p m c cX1_name 5 s args wsX1_name RX1) (hr : meth.sig.returnType = none) (hlocks : meth.locks = false) (hin : ∀ w ∈ wsX10, w ∈ wsX1_name) (hK : gK G s) (hA : ∀ q, s.heap.size ≤ q → A q) {res : mS} (σ : mS) (v1 : Int32) (v2 : Int32) (t1 : Int32) (H : Heap) (locs : List Loc) (ls : Array Slot) (hg : JX1_name_21 F σ v1 v2 t1 = some res) (hI : mI s A G h0 h σ H locs) (hl : lv_has ls 5 [(0, .ref h0), (1, .int v1), (2, .int v2)]) : W p l e rX1_name s m args below meth c H locs 0 0 (MQ below (mQv G h0 h res A) args s 0 0 A) (F0 m 21 ls [.int t1, .ref h0]) := by
  have hx := S.1
  have hb := S.2.1
  have hts := S.2.2.2.2
  have hown := S.2.2.2.1
  unfold JX1_name_21 at hg
  obtain ⟨r4, σ3, er4, hg⟩ := bnd_e hg
  refine mc_i S hK hA hI (As := [.int t1]) (rest := []) (kX1_says l G h0 h H.size F σ t1  r4 σ3 er4) (cwV 1 hts gX1_name_X1_says rfl rfl rfl nX1_says ⟨Nat.le_of_ble_eq_true rfl, Nat.le_of_ble_eq_true rfl⟩) rfl hl.1 rfl (Nat.le_of_ble_eq_true rfl) dX1_name_21 ⟨Nat.le_refl _, Nat.le_refl _⟩ (fun H locs hI => ?_)
  refine lv_if_ne (tgt := 28) hx hb dX1_name_24 (by decide) (fun c5 => ?_) (fun c5 => ?_)
  · have hg := cIf_fe c5 hg
    refine lv_aload_n hx hb dX1_name_28 rfl (lv_at hl 0 rfl) ?_
    refine mg_root S hin hK hI (ix := 9) (by decide +kernel) dX1_name_29 ?_
    refine lv_iload_n hx hb dX1_name_32 rfl (lv_at hl 2 rfl) ?_
    obtain ⟨c6, hg⟩ := ck_e hg
    obtain ⟨x7, ex7, hg⟩ := nmd_e hg
    refine mr_root S hK hI c6 ex7 dX1_name_33 ?_
    refine lv_istore_n (lv' := [(3, .int x7), (0, .ref h0), (1, .int v1), (2, .int v2)]) hx hb dX1_name_34 rfl hl (by decide) rfl (fun ls hl => ?_)
    refine lv_aload_n hx hb dX1_name_35 rfl (lv_at hl 1 rfl) ?_
    refine mg_kind S hin hK hI (ix := 17) (by decide +kernel) dX1_name_36 ?_
    refine lv_iload_n hx hb dX1_name_39 rfl (lv_at hl 0 rfl) ?_
    obtain ⟨c8, hg⟩ := ck_e hg
    obtain ⟨x9, ex9, hg⟩ := nmd_e hg
    refine mr_kind S hK hI c8 ex9 dX1_name_40 ?_
    refine lv_iconst (v := 5) hx hb dX1_name_41 (by decide) ?_
    refine lv_icmp_ne (tgt := 53) hx hb dX1_name_42 (by decide) (fun c10 => ?_) (fun c10 => ?_)
    · have hg := cIf_fe c10 hg
      refine lv_aload_n hx hb dX1_name_53 rfl (lv_at hl 1 rfl) ?_
      refine lv_iload_n hx hb dX1_name_54 rfl (lv_at hl 0 rfl) ?_
      obtain ⟨r12, σ11, er12, hg⟩ := bnd_e hg
      refine mc_i S hK hA hI (As := [.int x7]) (rest := []) (kX1_goOver l G h0 h H.size F σ3 x7  r12 σ11 er12) (cwV 1 hts gX1_name_X1_goOver rfl rfl rfl nX1_goOver ⟨Nat.le_of_ble_eq_true rfl, Nat.le_of_ble_eq_true rfl⟩) rfl hl.1 rfl (Nat.le_of_ble_eq_true rfl) dX1_name_55 ⟨Nat.le_refl _, Nat.le_refl _⟩ (fun H locs hI => ?_)
      refine lv_if_eq (tgt := 69) hx hb dX1_name_58 (by decide) (fun c13 => ?_) (fun c13 => ?_)
      · have hg := cIf_te c13 hg
        refine lv_iconst (v := 0) hx hb dX1_name_69 (by decide) ?_
        exact jX1_name_70 S hr hlocks hin hK hA σ11 v1 v2 x7 0 H locs ls hg hI (lv_sub hl [1, 2, 3, 0] rfl)
      · have hg := cIf_fe c13 hg
        refine lv_aload_n hx hb dX1_name_61 rfl (lv_at hl 1 rfl) ?_
        refine lv_iload_n hx hb dX1_name_62 rfl (lv_at hl 0 rfl) ?_
        obtain ⟨r25, σ24, er25, hg⟩ := bnd_e hg
        refine mc_i S hK hA hI (As := [.int x7]) (rest := []) (kX1_find l G h0 h H.size F σ11 x7  r25 σ24 er25) (cwV 1 hts gX1_name_X1_find rfl rfl rfl nX1_find ⟨Nat.le_of_ble_eq_true rfl, Nat.le_of_ble_eq_true rfl⟩) rfl hl.1 rfl (Nat.le_of_ble_eq_true rfl) dX1_name_63 ⟨Nat.le_refl _, Nat.le_refl _⟩ (fun H locs hI => ?_)
        refine lv_goto (tgt := 70) hx hb dX1_name_66 (by decide) ?_
        exact jX1_name_70 S hr hlocks hin hK hA σ24 v1 v2 x7 r25 H locs ls hg hI (lv_sub hl [1, 2, 3, 0] rfl)
    · have hg := cIf_te c10 hg
      refine lv_aload_n hx hb dX1_name_45 rfl (lv_at hl 1 rfl) ?_
      refine mg_root S hin hK hI (ix := 9) (by decide +kernel) dX1_name_46 ?_
      refine lv_iload_n hx hb dX1_name_49 rfl (lv_at hl 2 rfl) ?_
      refine lv_iload_n hx hb dX1_name_50 rfl (lv_at hl 0 rfl) ?_
      obtain ⟨c26, hg⟩ := ck_e hg
      obtain ⟨σ27, eσ27, hg⟩ := nmd_e hg
      refine mu_root S hK hI c26 eσ27 dX1_name_51 (fun H locs hI => ?_)
      exact me_v S hr hlocks hK hI hg dX1_name_52
  · have hg := cIf_te c5 hg
    exact me_v S hr hlocks hK hI hg dX1_name_27
set_option maxHeartbeats 4000000 in
set_option maxRecDepth 100000 in
theorem jX1_name_20 {p : Program} {l : Launch} {e : Env} {s : State} {m : MethodId} {args : Array Value} {below : List Frame} {meth : Method} {c : Code} {A : Nat → Prop} {G : gT} {h0 : Nat} {h : (Nat → Nat)} {F : Nat} (S : CallFix p m c cX1_name 5 s args wsX1_name RX1) (hr : meth.sig.returnType = none) (hlocks : meth.locks = false) (hin : ∀ w ∈ wsX10, w ∈ wsX1_name) (hK : gK G s) (hA : ∀ q, s.heap.size ≤ q → A q) {res : mS} (σ : mS) (v1 : Int32) (v2 : Int32) (H : Heap) (locs : List Loc) (ls : Array Slot) (hg : JX1_name_20 F σ v1 v2 = some res) (hI : mI s A G h0 h σ H locs) (hl : lv_has ls 5 [(0, .ref h0), (1, .int v1), (2, .int v2)]) : W p l e rX1_name s m args below meth c H locs 0 0 (MQ below (mQv G h0 h res A) args s 0 0 A) (F0 m 20 ls [.ref h0]) := by
  have hx := S.1
  have hb := S.2.1
  have hts := S.2.2.2.2
  have hown := S.2.2.2.1
  unfold JX1_name_20 at hg
  refine lv_iconst (v := 0) hx hb dX1_name_20 (by decide) ?_
  exact jX1_name_21 S hr hlocks hin hK hA σ v1 v2 0 H locs ls hg hI (lv_sub hl [0, 1, 2] rfl)
set_option maxHeartbeats 4000000 in
set_option maxRecDepth 100000 in
theorem kX1_name (l : Launch) (G : gT) (h0 : Nat) (h : (Nat → Nat)) (sz F : Nat) (σ : mS) (p1 : Int32) (p2 : Int32) (σr : mS) (hg : fX1_name F σ p1 p2 = some σr) : Met l yX1_name wsX1_name rX1_name (mPre G h0 h σ sz [.int p1, .int p2]) (mQv G h0 h σr (mA G h0 h σ sz)) 0 0 (mA G h0 h σ sz) := by
  refine mMet (Qc := mQv G h0 h σr) (by decide +kernel) rfl rfl (Nat.le_of_ble_eq_true rfl) ?_
  intro p e s m args below meth c A S hr hlocks hK hA H locs hI ls hl
  have hl : lv_has ls 5 [(0, .ref h0), (1, .int p1), (2, .int p2)] := hl
  have hin : ∀ w ∈ wsX10, w ∈ wsX1_name := by decide +kernel
  have hx := S.1
  have hb := S.2.1
  have hts := S.2.2.2.2
  have hown := S.2.2.2.1
  unfold fX1_name at hg
  refine lv_aload_n hx hb dX1_name_0 rfl (lv_at hl 0 rfl) ?_
  refine lv_iload_n hx hb dX1_name_1 rfl (lv_at hl 1 rfl) ?_
  obtain ⟨r1, er1, hg⟩ := bnp_e hg
  refine ms_i S hA hI (As := [.int p1]) (rest := [.ref h0]) (kX1_isRoot l H.size F p1 r1 er1) (va_cwS 1 hts gX1_name_X1_isRoot rfl rfl rfl nX1_isRoot ⟨Nat.le_of_ble_eq_true rfl, Nat.le_of_ble_eq_true rfl⟩) rfl hl.1 rfl (Nat.le_of_ble_eq_true rfl) dX1_name_2 ⟨Nat.le_refl _, Nat.le_refl _⟩ (fun H locs hI => ?_)
  refine lv_if_eq (tgt := 20) hx hb dX1_name_5 (by decide) (fun c2 => ?_) (fun c2 => ?_)
  · have hg := cIf_te c2 hg
    exact jX1_name_20 S hr hlocks hin hK hA σ p1 p2 H locs ls hg hI (lv_sub hl [0, 1, 2] rfl)
  · have hg := cIf_fe c2 hg
    refine lv_aload_n hx hb dX1_name_8 rfl (lv_at hl 0 rfl) ?_
    refine lv_iload_n hx hb dX1_name_9 rfl (lv_at hl 2 rfl) ?_
    obtain ⟨r29, σ28, er29, hg⟩ := bnd_e hg
    refine mc_i S hK hA hI (As := [.int p2]) (rest := [.ref h0]) (kX1_isText l G h0 h H.size F σ p2  r29 σ28 er29) (cwV 1 hts gX1_name_X1_isText rfl rfl rfl nX1_isText ⟨Nat.le_of_ble_eq_true rfl, Nat.le_of_ble_eq_true rfl⟩) rfl hl.1 rfl (Nat.le_of_ble_eq_true rfl) dX1_name_10 ⟨Nat.le_refl _, Nat.le_refl _⟩ (fun H locs hI => ?_)
    refine lv_if_eq (tgt := 20) hx hb dX1_name_13 (by decide) (fun c30 => ?_) (fun c30 => ?_)
    · have hg := cIf_te c30 hg
      exact jX1_name_20 S hr hlocks hin hK hA σ28 p1 p2 H locs ls hg hI (lv_sub hl [0, 1, 2] rfl)
    · have hg := cIf_fe c30 hg
      refine lv_iconst (v := 1) hx hb dX1_name_16 (by decide) ?_
      refine lv_goto (tgt := 21) hx hb dX1_name_17 (by decide) ?_
      exact jX1_name_21 S hr hlocks hin hK hA σ28 p1 p2 1 H locs ls hg hI (lv_sub hl [0, 1, 2] rfl)
end
section
theorem zz_last : True := trivial
end
