section
-- ===== PART A: goes FIRST, ahead of the names: the tables' words, and 'selects' of the private methods out of them =====
/-- a private method of a class that the tables say can be made, by its rows of tables_1 -/
def lw_okq (q : MethodName × Nat) : Prop := (q.1.cls ≠ "java/lang/invoke/MethodHandle" ∧ q.1.cls ≠ "java/lang/invoke/VarHandle") ∧ Cond.instantiable q.1.cls q.2 ∈ tables_1 ∧ Cond.privateMethod q.1 ∈ tables_1 ∧ Cond.instanceMethod q.1 ∈ tables_1
theorem lw_p0 : lw_okq (⟨"OwnMemory", "slideTogether", "()V"⟩, 10) := ⟨⟨by decide +kernel, by decide +kernel⟩, List.mem_of_getElem? (i := 20) (by decide +kernel), List.mem_of_getElem? (i := 74) (by decide +kernel), List.mem_of_getElem? (i := 75) (by decide +kernel)⟩
theorem lw_p1 : lw_okq (⟨"OwnMemory", "touchRoots", "(Z)V"⟩, 10) := ⟨⟨by decide +kernel, by decide +kernel⟩, List.mem_of_getElem? (i := 20) (by decide +kernel), List.mem_of_getElem? (i := 78) (by decide +kernel), List.mem_of_getElem? (i := 79) (by decide +kernel)⟩
theorem lw_p2 : lw_okq (⟨"OwnMemory", "touch", "(IZ)I"⟩, 10) := ⟨⟨by decide +kernel, by decide +kernel⟩, List.mem_of_getElem? (i := 20) (by decide +kernel), List.mem_of_getElem? (i := 82) (by decide +kernel), List.mem_of_getElem? (i := 83) (by decide +kernel)⟩
theorem lw_p3 : lw_okq (⟨"OwnMemory", "touchLeads", "(IZ)V"⟩, 10) := ⟨⟨by decide +kernel, by decide +kernel⟩, List.mem_of_getElem? (i := 20) (by decide +kernel), List.mem_of_getElem? (i := 86) (by decide +kernel), List.mem_of_getElem? (i := 87) (by decide +kernel)⟩
theorem lw_p4 : lw_okq (⟨"OwnMemory", "linksAt", "(I)I"⟩, 10) := ⟨⟨by decide +kernel, by decide +kernel⟩, List.mem_of_getElem? (i := 20) (by decide +kernel), List.mem_of_getElem? (i := 90) (by decide +kernel), List.mem_of_getElem? (i := 91) (by decide +kernel)⟩
theorem lw_p5 : lw_okq (⟨"OwnMemory", "valuesAt", "(I)I"⟩, 10) := ⟨⟨by decide +kernel, by decide +kernel⟩, List.mem_of_getElem? (i := 20) (by decide +kernel), List.mem_of_getElem? (i := 94) (by decide +kernel), List.mem_of_getElem? (i := 95) (by decide +kernel)⟩
theorem lw_p6 : lw_okq (⟨"OwnMemory", "planMoves", "()I"⟩, 10) := ⟨⟨by decide +kernel, by decide +kernel⟩, List.mem_of_getElem? (i := 20) (by decide +kernel), List.mem_of_getElem? (i := 102) (by decide +kernel), List.mem_of_getElem? (i := 103) (by decide +kernel)⟩
theorem lw_p7 : lw_okq (⟨"OwnMemory", "sizeAt", "(I)I"⟩, 10) := ⟨⟨by decide +kernel, by decide +kernel⟩, List.mem_of_getElem? (i := 20) (by decide +kernel), List.mem_of_getElem? (i := 106) (by decide +kernel), List.mem_of_getElem? (i := 107) (by decide +kernel)⟩
theorem lw_p8 : lw_okq (⟨"OwnMemory", "keepNames", "()V"⟩, 10) := ⟨⟨by decide +kernel, by decide +kernel⟩, List.mem_of_getElem? (i := 20) (by decide +kernel), List.mem_of_getElem? (i := 110) (by decide +kernel), List.mem_of_getElem? (i := 111) (by decide +kernel)⟩
theorem lw_p9 : lw_okq (⟨"OwnMemory", "moveAll", "()V"⟩, 10) := ⟨⟨by decide +kernel, by decide +kernel⟩, List.mem_of_getElem? (i := 20) (by decide +kernel), List.mem_of_getElem? (i := 114) (by decide +kernel), List.mem_of_getElem? (i := 115) (by decide +kernel)⟩
theorem lw_p10 : lw_okq (⟨"java/lang/Throwable", "fillInStackTrace", "(I)Ljava/lang/Throwable;"⟩, 6) := ⟨⟨by decide +kernel, by decide +kernel⟩, List.mem_of_getElem? (i := 173) (by decide +kernel), List.mem_of_getElem? (i := 171) (by decide +kernel), List.mem_of_getElem? (i := 172) (by decide +kernel)⟩
theorem lw_p11 : lw_okq (⟨"OwnMemory", "make", "(IIII)I"⟩, 10) := ⟨⟨by decide +kernel, by decide +kernel⟩, List.mem_of_getElem? (i := 20) (by decide +kernel), List.mem_of_getElem? (i := 207) (by decide +kernel), List.mem_of_getElem? (i := 208) (by decide +kernel)⟩
theorem lw_p12 : lw_okq (⟨"OwnMemory", "isStressed", "()Z"⟩, 10) := ⟨⟨by decide +kernel, by decide +kernel⟩, List.mem_of_getElem? (i := 20) (by decide +kernel), List.mem_of_getElem? (i := 211) (by decide +kernel), List.mem_of_getElem? (i := 212) (by decide +kernel)⟩
theorem lw_p13 : lw_okq (⟨"OwnMemory", "widen", "(I)V"⟩, 10) := ⟨⟨by decide +kernel, by decide +kernel⟩, List.mem_of_getElem? (i := 20) (by decide +kernel), List.mem_of_getElem? (i := 231) (by decide +kernel), List.mem_of_getElem? (i := 232) (by decide +kernel)⟩
theorem lw_p14 : lw_okq (⟨"OwnMemory", "kindAt", "(I)I"⟩, 10) := ⟨⟨by decide +kernel, by decide +kernel⟩, List.mem_of_getElem? (i := 20) (by decide +kernel), List.mem_of_getElem? (i := 509) (by decide +kernel), List.mem_of_getElem? (i := 510) (by decide +kernel)⟩
theorem lw_p15 : lw_okq (⟨"OwnMemory", "linkSlot", "(II)I"⟩, 10) := ⟨⟨by decide +kernel, by decide +kernel⟩, List.mem_of_getElem? (i := 20) (by decide +kernel), List.mem_of_getElem? (i := 527) (by decide +kernel), List.mem_of_getElem? (i := 528) (by decide +kernel)⟩
def lw_privs_1 : List (MethodName × Nat) := [(⟨"OwnMemory", "slideTogether", "()V"⟩, 10), (⟨"OwnMemory", "touchRoots", "(Z)V"⟩, 10), (⟨"OwnMemory", "touch", "(IZ)I"⟩, 10), (⟨"OwnMemory", "touchLeads", "(IZ)V"⟩, 10), (⟨"OwnMemory", "linksAt", "(I)I"⟩, 10), (⟨"OwnMemory", "valuesAt", "(I)I"⟩, 10), (⟨"OwnMemory", "planMoves", "()I"⟩, 10), (⟨"OwnMemory", "sizeAt", "(I)I"⟩, 10), (⟨"OwnMemory", "keepNames", "()V"⟩, 10), (⟨"OwnMemory", "moveAll", "()V"⟩, 10), (⟨"java/lang/Throwable", "fillInStackTrace", "(I)Ljava/lang/Throwable;"⟩, 6), (⟨"OwnMemory", "make", "(IIII)I"⟩, 10), (⟨"OwnMemory", "isStressed", "()Z"⟩, 10), (⟨"OwnMemory", "widen", "(I)V"⟩, 10), (⟨"OwnMemory", "kindAt", "(I)I"⟩, 10), (⟨"OwnMemory", "linkSlot", "(II)I"⟩, 10)]
theorem lw_r1 : ∀ q ∈ lw_privs_1, lw_okq q := List.forall_mem_cons.mpr ⟨lw_p0, List.forall_mem_cons.mpr ⟨lw_p1, List.forall_mem_cons.mpr ⟨lw_p2, List.forall_mem_cons.mpr ⟨lw_p3, List.forall_mem_cons.mpr ⟨lw_p4, List.forall_mem_cons.mpr ⟨lw_p5, List.forall_mem_cons.mpr ⟨lw_p6, List.forall_mem_cons.mpr ⟨lw_p7, List.forall_mem_cons.mpr ⟨lw_p8, List.forall_mem_cons.mpr ⟨lw_p9, List.forall_mem_cons.mpr ⟨lw_p10, List.forall_mem_cons.mpr ⟨lw_p11, List.forall_mem_cons.mpr ⟨lw_p12, List.forall_mem_cons.mpr ⟨lw_p13, List.forall_mem_cons.mpr ⟨lw_p14, List.forall_mem_cons.mpr ⟨lw_p15, fun _ h => absurd h List.not_mem_nil⟩⟩⟩⟩⟩⟩⟩⟩⟩⟩⟩⟩⟩⟩⟩⟩
theorem lw_p16 : lw_okq (⟨"OwnMemory", "needBlock", "(I)I"⟩, 10) := ⟨⟨by decide +kernel, by decide +kernel⟩, List.mem_of_getElem? (i := 20) (by decide +kernel), List.mem_of_getElem? (i := 531) (by decide +kernel), List.mem_of_getElem? (i := 532) (by decide +kernel)⟩
theorem lw_p17 : lw_okq (⟨"OwnMemory", "valueSlot", "(II)I"⟩, 10) := ⟨⟨by decide +kernel, by decide +kernel⟩, List.mem_of_getElem? (i := 20) (by decide +kernel), List.mem_of_getElem? (i := 551) (by decide +kernel), List.mem_of_getElem? (i := 552) (by decide +kernel)⟩
theorem lw_p18 : lw_okq (⟨"OwnMemory", "plainSlot", "(II)I"⟩, 10) := ⟨⟨by decide +kernel, by decide +kernel⟩, List.mem_of_getElem? (i := 20) (by decide +kernel), List.mem_of_getElem? (i := 589) (by decide +kernel), List.mem_of_getElem? (i := 590) (by decide +kernel)⟩
theorem lw_p19 : lw_okq (⟨"OwnMemory", "makeFlat", "(II)I"⟩, 10) := ⟨⟨by decide +kernel, by decide +kernel⟩, List.mem_of_getElem? (i := 20) (by decide +kernel), List.mem_of_getElem? (i := 609) (by decide +kernel), List.mem_of_getElem? (i := 610) (by decide +kernel)⟩
theorem lw_p20 : lw_okq (⟨"OwnMemory", "putLength", "(II)V"⟩, 10) := ⟨⟨by decide +kernel, by decide +kernel⟩, List.mem_of_getElem? (i := 20) (by decide +kernel), List.mem_of_getElem? (i := 613) (by decide +kernel), List.mem_of_getElem? (i := 614) (by decide +kernel)⟩
theorem lw_p21 : lw_okq (⟨"OwnMemory", "putUnit", "(III)V"⟩, 10) := ⟨⟨by decide +kernel, by decide +kernel⟩, List.mem_of_getElem? (i := 20) (by decide +kernel), List.mem_of_getElem? (i := 618) (by decide +kernel), List.mem_of_getElem? (i := 619) (by decide +kernel)⟩
theorem lw_p22 : lw_okq (⟨"OwnMemory", "needText", "(I)V"⟩, 10) := ⟨⟨by decide +kernel, by decide +kernel⟩, List.mem_of_getElem? (i := 20) (by decide +kernel), List.mem_of_getElem? (i := 629) (by decide +kernel), List.mem_of_getElem? (i := 630) (by decide +kernel)⟩
theorem lw_p23 : lw_okq (⟨"OwnMemory", "lengthIn", "(I)I"⟩, 10) := ⟨⟨by decide +kernel, by decide +kernel⟩, List.mem_of_getElem? (i := 20) (by decide +kernel), List.mem_of_getElem? (i := 634) (by decide +kernel), List.mem_of_getElem? (i := 635) (by decide +kernel)⟩
theorem lw_p24 : lw_okq (⟨"OwnMemory", "lengthAt", "(I)I"⟩, 10) := ⟨⟨by decide +kernel, by decide +kernel⟩, List.mem_of_getElem? (i := 20) (by decide +kernel), List.mem_of_getElem? (i := 638) (by decide +kernel), List.mem_of_getElem? (i := 639) (by decide +kernel)⟩
theorem lw_p25 : lw_okq (⟨"OwnMemory", "makeFlatOfTwo", "(II)I"⟩, 10) := ⟨⟨by decide +kernel, by decide +kernel⟩, List.mem_of_getElem? (i := 20) (by decide +kernel), List.mem_of_getElem? (i := 643) (by decide +kernel), List.mem_of_getElem? (i := 644) (by decide +kernel)⟩
theorem lw_p26 : lw_okq (⟨"OwnMemory", "copyUnits", "(IIIII)V"⟩, 10) := ⟨⟨by decide +kernel, by decide +kernel⟩, List.mem_of_getElem? (i := 20) (by decide +kernel), List.mem_of_getElem? (i := 647) (by decide +kernel), List.mem_of_getElem? (i := 648) (by decide +kernel)⟩
theorem lw_p27 : lw_okq (⟨"OwnMemory", "unitAt", "(II)I"⟩, 10) := ⟨⟨by decide +kernel, by decide +kernel⟩, List.mem_of_getElem? (i := 20) (by decide +kernel), List.mem_of_getElem? (i := 651) (by decide +kernel), List.mem_of_getElem? (i := 652) (by decide +kernel)⟩
theorem lw_p28 : lw_okq (⟨"OwnMemory", "makeJoined", "(II)I"⟩, 10) := ⟨⟨by decide +kernel, by decide +kernel⟩, List.mem_of_getElem? (i := 20) (by decide +kernel), List.mem_of_getElem? (i := 655) (by decide +kernel), List.mem_of_getElem? (i := 656) (by decide +kernel)⟩
theorem lw_p29 : lw_okq (⟨"OwnMemory", "goOver", "(I)V"⟩, 10) := ⟨⟨by decide +kernel, by decide +kernel⟩, List.mem_of_getElem? (i := 20) (by decide +kernel), List.mem_of_getElem? (i := 667) (by decide +kernel), List.mem_of_getElem? (i := 668) (by decide +kernel)⟩
theorem lw_p30 : lw_okq (⟨"OwnMemory", "copyAllUnits", "(II)V"⟩, 10) := ⟨⟨by decide +kernel, by decide +kernel⟩, List.mem_of_getElem? (i := 20) (by decide +kernel), List.mem_of_getElem? (i := 671) (by decide +kernel), List.mem_of_getElem? (i := 672) (by decide +kernel)⟩
theorem lw_p31 : lw_okq (⟨"OwnMemory", "flatOf", "(I)I"⟩, 10) := ⟨⟨by decide +kernel, by decide +kernel⟩, List.mem_of_getElem? (i := 20) (by decide +kernel), List.mem_of_getElem? (i := 675) (by decide +kernel), List.mem_of_getElem? (i := 676) (by decide +kernel)⟩
def lw_privs_2 : List (MethodName × Nat) := [(⟨"OwnMemory", "needBlock", "(I)I"⟩, 10), (⟨"OwnMemory", "valueSlot", "(II)I"⟩, 10), (⟨"OwnMemory", "plainSlot", "(II)I"⟩, 10), (⟨"OwnMemory", "makeFlat", "(II)I"⟩, 10), (⟨"OwnMemory", "putLength", "(II)V"⟩, 10), (⟨"OwnMemory", "putUnit", "(III)V"⟩, 10), (⟨"OwnMemory", "needText", "(I)V"⟩, 10), (⟨"OwnMemory", "lengthIn", "(I)I"⟩, 10), (⟨"OwnMemory", "lengthAt", "(I)I"⟩, 10), (⟨"OwnMemory", "makeFlatOfTwo", "(II)I"⟩, 10), (⟨"OwnMemory", "copyUnits", "(IIIII)V"⟩, 10), (⟨"OwnMemory", "unitAt", "(II)I"⟩, 10), (⟨"OwnMemory", "makeJoined", "(II)I"⟩, 10), (⟨"OwnMemory", "goOver", "(I)V"⟩, 10), (⟨"OwnMemory", "copyAllUnits", "(II)V"⟩, 10), (⟨"OwnMemory", "flatOf", "(I)I"⟩, 10)]
theorem lw_r2 : ∀ q ∈ lw_privs_2, lw_okq q := List.forall_mem_cons.mpr ⟨lw_p16, List.forall_mem_cons.mpr ⟨lw_p17, List.forall_mem_cons.mpr ⟨lw_p18, List.forall_mem_cons.mpr ⟨lw_p19, List.forall_mem_cons.mpr ⟨lw_p20, List.forall_mem_cons.mpr ⟨lw_p21, List.forall_mem_cons.mpr ⟨lw_p22, List.forall_mem_cons.mpr ⟨lw_p23, List.forall_mem_cons.mpr ⟨lw_p24, List.forall_mem_cons.mpr ⟨lw_p25, List.forall_mem_cons.mpr ⟨lw_p26, List.forall_mem_cons.mpr ⟨lw_p27, List.forall_mem_cons.mpr ⟨lw_p28, List.forall_mem_cons.mpr ⟨lw_p29, List.forall_mem_cons.mpr ⟨lw_p30, List.forall_mem_cons.mpr ⟨lw_p31, fun _ h => absurd h List.not_mem_nil⟩⟩⟩⟩⟩⟩⟩⟩⟩⟩⟩⟩⟩⟩⟩⟩
theorem lw_p32 : lw_okq (⟨"OwnMemory", "findName", "(I)I"⟩, 10) := ⟨⟨by decide +kernel, by decide +kernel⟩, List.mem_of_getElem? (i := 20) (by decide +kernel), List.mem_of_getElem? (i := 711) (by decide +kernel), List.mem_of_getElem? (i := 712) (by decide +kernel)⟩
theorem lw_p33 : lw_okq (⟨"OwnMemory", "hasSameUnits", "(II)Z"⟩, 10) := ⟨⟨by decide +kernel, by decide +kernel⟩, List.mem_of_getElem? (i := 20) (by decide +kernel), List.mem_of_getElem? (i := 715) (by decide +kernel), List.mem_of_getElem? (i := 716) (by decide +kernel)⟩
theorem lw_p34 : lw_okq (⟨"OwnMemory", "makeName", "(I)I"⟩, 10) := ⟨⟨by decide +kernel, by decide +kernel⟩, List.mem_of_getElem? (i := 20) (by decide +kernel), List.mem_of_getElem? (i := 719) (by decide +kernel), List.mem_of_getElem? (i := 720) (by decide +kernel)⟩
theorem lw_p35 : lw_okq (⟨"OwnMemoryModel", "taken", "()I"⟩, 21) := ⟨⟨by decide +kernel, by decide +kernel⟩, List.mem_of_getElem? (i := 731) (by decide +kernel), List.mem_of_getElem? (i := 814) (by decide +kernel), List.mem_of_getElem? (i := 815) (by decide +kernel)⟩
theorem lw_p36 : lw_okq (⟨"OwnMemoryModel", "look", "()V"⟩, 21) := ⟨⟨by decide +kernel, by decide +kernel⟩, List.mem_of_getElem? (i := 731) (by decide +kernel), List.mem_of_getElem? (i := 818) (by decide +kernel), List.mem_of_getElem? (i := 819) (by decide +kernel)⟩
theorem lw_p37 : lw_okq (⟨"OwnMemoryModel", "come", "(I)V"⟩, 21) := ⟨⟨by decide +kernel, by decide +kernel⟩, List.mem_of_getElem? (i := 731) (by decide +kernel), List.mem_of_getElem? (i := 822) (by decide +kernel), List.mem_of_getElem? (i := 823) (by decide +kernel)⟩
theorem lw_p38 : lw_okq (⟨"OwnMemoryModel", "words", "(I)I"⟩, 21) := ⟨⟨by decide +kernel, by decide +kernel⟩, List.mem_of_getElem? (i := 731) (by decide +kernel), List.mem_of_getElem? (i := 826) (by decide +kernel), List.mem_of_getElem? (i := 827) (by decide +kernel)⟩
theorem lw_p39 : lw_okq (⟨"OwnMemoryModel", "says", "(Z)Z"⟩, 21) := ⟨⟨by decide +kernel, by decide +kernel⟩, List.mem_of_getElem? (i := 731) (by decide +kernel), List.mem_of_getElem? (i := 844) (by decide +kernel), List.mem_of_getElem? (i := 845) (by decide +kernel)⟩
theorem lw_p40 : lw_okq (⟨"OwnMemoryModel", "make", "(III)I"⟩, 21) := ⟨⟨by decide +kernel, by decide +kernel⟩, List.mem_of_getElem? (i := 731) (by decide +kernel), List.mem_of_getElem? (i := 848) (by decide +kernel), List.mem_of_getElem? (i := 849) (by decide +kernel)⟩
theorem lw_p41 : lw_okq (⟨"OwnMemoryModel", "hasLink", "(II)Z"⟩, 21) := ⟨⟨by decide +kernel, by decide +kernel⟩, List.mem_of_getElem? (i := 731) (by decide +kernel), List.mem_of_getElem? (i := 872) (by decide +kernel), List.mem_of_getElem? (i := 873) (by decide +kernel)⟩
theorem lw_p42 : lw_okq (⟨"OwnMemoryModel", "isBlock", "(I)Z"⟩, 21) := ⟨⟨by decide +kernel, by decide +kernel⟩, List.mem_of_getElem? (i := 731) (by decide +kernel), List.mem_of_getElem? (i := 876) (by decide +kernel), List.mem_of_getElem? (i := 877) (by decide +kernel)⟩
theorem lw_p43 : lw_okq (⟨"OwnMemoryModel", "hasValue", "(II)Z"⟩, 21) := ⟨⟨by decide +kernel, by decide +kernel⟩, List.mem_of_getElem? (i := 731) (by decide +kernel), List.mem_of_getElem? (i := 888) (by decide +kernel), List.mem_of_getElem? (i := 889) (by decide +kernel)⟩
theorem lw_p44 : lw_okq (⟨"OwnMemoryModel", "hasWord", "(II)Z"⟩, 21) := ⟨⟨by decide +kernel, by decide +kernel⟩, List.mem_of_getElem? (i := 731) (by decide +kernel), List.mem_of_getElem? (i := 909) (by decide +kernel), List.mem_of_getElem? (i := 910) (by decide +kernel)⟩
theorem lw_p45 : lw_okq (⟨"OwnMemoryModel", "full", "(I)I"⟩, 21) := ⟨⟨by decide +kernel, by decide +kernel⟩, List.mem_of_getElem? (i := 731) (by decide +kernel), List.mem_of_getElem? (i := 921) (by decide +kernel), List.mem_of_getElem? (i := 922) (by decide +kernel)⟩
theorem lw_p46 : lw_okq (⟨"OwnMemoryModel", "isText", "(I)Z"⟩, 21) := ⟨⟨by decide +kernel, by decide +kernel⟩, List.mem_of_getElem? (i := 731) (by decide +kernel), List.mem_of_getElem? (i := 929) (by decide +kernel), List.mem_of_getElem? (i := 930) (by decide +kernel)⟩
theorem lw_p47 : lw_okq (⟨"OwnMemoryModel", "partOf", "(IIII)I"⟩, 21) := ⟨⟨by decide +kernel, by decide +kernel⟩, List.mem_of_getElem? (i := 731) (by decide +kernel), List.mem_of_getElem? (i := 937) (by decide +kernel), List.mem_of_getElem? (i := 938) (by decide +kernel)⟩
def lw_privs_3 : List (MethodName × Nat) := [(⟨"OwnMemory", "findName", "(I)I"⟩, 10), (⟨"OwnMemory", "hasSameUnits", "(II)Z"⟩, 10), (⟨"OwnMemory", "makeName", "(I)I"⟩, 10), (⟨"OwnMemoryModel", "taken", "()I"⟩, 21), (⟨"OwnMemoryModel", "look", "()V"⟩, 21), (⟨"OwnMemoryModel", "come", "(I)V"⟩, 21), (⟨"OwnMemoryModel", "words", "(I)I"⟩, 21), (⟨"OwnMemoryModel", "says", "(Z)Z"⟩, 21), (⟨"OwnMemoryModel", "make", "(III)I"⟩, 21), (⟨"OwnMemoryModel", "hasLink", "(II)Z"⟩, 21), (⟨"OwnMemoryModel", "isBlock", "(I)Z"⟩, 21), (⟨"OwnMemoryModel", "hasValue", "(II)Z"⟩, 21), (⟨"OwnMemoryModel", "hasWord", "(II)Z"⟩, 21), (⟨"OwnMemoryModel", "full", "(I)I"⟩, 21), (⟨"OwnMemoryModel", "isText", "(I)Z"⟩, 21), (⟨"OwnMemoryModel", "partOf", "(IIII)I"⟩, 21)]
theorem lw_r3 : ∀ q ∈ lw_privs_3, lw_okq q := List.forall_mem_cons.mpr ⟨lw_p32, List.forall_mem_cons.mpr ⟨lw_p33, List.forall_mem_cons.mpr ⟨lw_p34, List.forall_mem_cons.mpr ⟨lw_p35, List.forall_mem_cons.mpr ⟨lw_p36, List.forall_mem_cons.mpr ⟨lw_p37, List.forall_mem_cons.mpr ⟨lw_p38, List.forall_mem_cons.mpr ⟨lw_p39, List.forall_mem_cons.mpr ⟨lw_p40, List.forall_mem_cons.mpr ⟨lw_p41, List.forall_mem_cons.mpr ⟨lw_p42, List.forall_mem_cons.mpr ⟨lw_p43, List.forall_mem_cons.mpr ⟨lw_p44, List.forall_mem_cons.mpr ⟨lw_p45, List.forall_mem_cons.mpr ⟨lw_p46, List.forall_mem_cons.mpr ⟨lw_p47, fun _ h => absurd h List.not_mem_nil⟩⟩⟩⟩⟩⟩⟩⟩⟩⟩⟩⟩⟩⟩⟩⟩
theorem lw_p48 : lw_okq (⟨"OwnMemoryModel", "goOver", "(I)Z"⟩, 21) := ⟨⟨by decide +kernel, by decide +kernel⟩, List.mem_of_getElem? (i := 731) (by decide +kernel), List.mem_of_getElem? (i := 941) (by decide +kernel), List.mem_of_getElem? (i := 942) (by decide +kernel)⟩
theorem lw_p49 : lw_okq (⟨"OwnMemoryModel", "unitOf", "(II)I"⟩, 21) := ⟨⟨by decide +kernel, by decide +kernel⟩, List.mem_of_getElem? (i := 731) (by decide +kernel), List.mem_of_getElem? (i := 953) (by decide +kernel), List.mem_of_getElem? (i := 954) (by decide +kernel)⟩
theorem lw_p50 : lw_okq (⟨"OwnMemoryModel", "order", "(II)I"⟩, 21) := ⟨⟨by decide +kernel, by decide +kernel⟩, List.mem_of_getElem? (i := 731) (by decide +kernel), List.mem_of_getElem? (i := 962) (by decide +kernel), List.mem_of_getElem? (i := 963) (by decide +kernel)⟩
theorem lw_p51 : lw_okq (⟨"OwnMemoryModel", "find", "(I)I"⟩, 21) := ⟨⟨by decide +kernel, by decide +kernel⟩, List.mem_of_getElem? (i := 731) (by decide +kernel), List.mem_of_getElem? (i := 970) (by decide +kernel), List.mem_of_getElem? (i := 971) (by decide +kernel)⟩
def lw_privs_4 : List (MethodName × Nat) := [(⟨"OwnMemoryModel", "goOver", "(I)Z"⟩, 21), (⟨"OwnMemoryModel", "unitOf", "(II)I"⟩, 21), (⟨"OwnMemoryModel", "order", "(II)I"⟩, 21), (⟨"OwnMemoryModel", "find", "(I)I"⟩, 21)]
theorem lw_r4 : ∀ q ∈ lw_privs_4, lw_okq q := List.forall_mem_cons.mpr ⟨lw_p48, List.forall_mem_cons.mpr ⟨lw_p49, List.forall_mem_cons.mpr ⟨lw_p50, List.forall_mem_cons.mpr ⟨lw_p51, fun _ h => absurd h List.not_mem_nil⟩⟩⟩⟩
def lw_privs : List (MethodName × Nat) := lw_privs_1 ++ (lw_privs_2 ++ (lw_privs_3 ++ (lw_privs_4)))
def lw_tbl : List Cond := k2_sels lw_privs ++ tables_1
theorem lw_privs_ok : ∀ q ∈ lw_privs, lw_okq q := by
  show ∀ q ∈ lw_privs_1 ++ (lw_privs_2 ++ (lw_privs_3 ++ (lw_privs_4))), lw_okq q
  exact List.forall_mem_append.mpr ⟨lw_r1, List.forall_mem_append.mpr ⟨lw_r2, List.forall_mem_append.mpr ⟨lw_r3, lw_r4⟩⟩⟩
end
section
/-! ===== BEGIN words of one list among another's, by their places ===== -/
theorem goodIn_r {big : List Cond} (ws : List Cond) (ps : List Nat) (hp : ws = ps.filterMap (fun i => big[i]?)) (h : ws.all goodWord = true) : GoodIn big ws := by
  intro w hw
  have h1 := List.all_eq_true.mp h w hw
  rw [hp] at hw
  obtain ⟨i, -, hi⟩ := List.mem_filterMap.mp hw
  have hm : w ∈ big := by first | exact List.mem_of_getElem? hi | exact List.getElem?_mem hi
  exact ⟨hm, good_of_word h1⟩
theorem goodIn_app {big a b : List Cond} (ha : GoodIn big a) (hb : GoodIn big b) : GoodIn big (a ++ b) := fun w h => (List.mem_append.mp h).elim (ha w) (hb w)
theorem goodIn_ca {big a b : List Cond} {c : Cond} (ha : GoodIn big (c :: a)) (hb : GoodIn big b) : GoodIn big (c :: (a ++ b)) := fun w h => (List.mem_cons.mp h).elim (fun e => ha w (List.mem_cons.mpr (Or.inl e))) (fun h => (List.mem_append.mp h).elim (fun h => ha w (List.mem_cons.mpr (Or.inr h))) (hb w))
theorem goodIn_sub {big ws : List Cond} (hm : ∀ w ∈ ws, w ∈ big) (h : ws.all goodWord = true) : GoodIn big ws := fun w hw => ⟨hm w hw, good_of_word (List.all_eq_true.mp h w hw)⟩
/-! ===== END ===== -/
end
section
/-! ===== BEGIN printed: names, fields, word lists, decode rows ===== -/
def RX0 : String := "OwnMemory"
def TX0 : u_T := fun k => match k with
  | 0 => ("OwnMemory", "limit", "I", true)
  | 1 => ("OwnMemory", "words", "[I", false)
  | 2 => ("OwnMemory", "used", "I", false)
  | 3 => ("OwnMemory", "roots", "[I", true)
  | 4 => ("OwnMemory", "names", "[I", false)
  | 5 => ("OwnMemory", "nameCount", "I", false)
  | 6 => ("OwnMemory", "pending", "[I", true)
  | 7 => ("OwnMemory", "waiting", "I", false)
  | 8 => ("OwnMemory", "stressEvery", "I", false)
  | _ => ("OwnMemory", "made", "I", false)
def tyX0 : Nat → FieldType := fun k => match k with
  | 0 => .int
  | 1 => .array .int
  | 2 => .int
  | 3 => .array .int
  | 4 => .array .int
  | 5 => .int
  | 6 => .array .int
  | 7 => .int
  | 8 => .int
  | _ => .int
abbrev wsX00 : List Cond := u_ws RX0 TX0 10
theorem nmX0 : ∀ a, a < 10 → ∀ b, b < 10 → a ≠ b → (TX0 a).2.1 ≠ (TX0 b).2.1 := by decide +kernel
theorem tyX0_ok : ∀ k, k < 10 → parseFieldDescriptor (TX0 k).2.2.1 = some (tyX0 k) := by decide +kernel
abbrev cX0_init : ByteArray := prog_1_method_1_code
def yX0_init : MethodName := ⟨RX0, "<init>", "(I)V"⟩
abbrev cX0_take : ByteArray := prog_1_method_2_code
def yX0_take : MethodName := ⟨RX0, "take", "(IIII)V"⟩
abbrev cX0_copy : ByteArray := prog_1_method_3_code
def yX0_copy : MethodName := ⟨RX0, "copy", "(II)V"⟩
abbrev cX0_drop : ByteArray := prog_1_method_4_code
def yX0_drop : MethodName := ⟨RX0, "drop", "(I)V"⟩
abbrev cX0_kind : ByteArray := prog_1_method_5_code
def yX0_kind : MethodName := ⟨RX0, "kind", "(I)I"⟩
abbrev cX0_same : ByteArray := prog_1_method_6_code
def yX0_same : MethodName := ⟨RX0, "same", "(II)Z"⟩
abbrev cX0_tie : ByteArray := prog_1_method_7_code
def yX0_tie : MethodName := ⟨RX0, "tie", "(III)V"⟩
abbrev cX0_lead : ByteArray := prog_1_method_8_code
def yX0_lead : MethodName := ⟨RX0, "lead", "(III)V"⟩
abbrev cX0_number : ByteArray := prog_1_method_9_code
def yX0_number : MethodName := ⟨RX0, "number", "(IIJ)V"⟩
abbrev cX0_refer : ByteArray := prog_1_method_10_code
def yX0_refer : MethodName := ⟨RX0, "refer", "(III)V"⟩
abbrev cX0_bits : ByteArray := prog_1_method_11_code
def yX0_bits : MethodName := ⟨RX0, "bits", "(II)J"⟩
abbrev cX0_follow : ByteArray := prog_1_method_12_code
def yX0_follow : MethodName := ⟨RX0, "follow", "(III)Z"⟩
abbrev cX0_set : ByteArray := prog_1_method_13_code
def yX0_set : MethodName := ⟨RX0, "set", "(III)V"⟩
abbrev cX0_get : ByteArray := prog_1_method_14_code
def yX0_get : MethodName := ⟨RX0, "get", "(II)I"⟩
abbrev cX0_text : ByteArray := prog_1_method_15_code
def yX0_text : MethodName := ⟨RX0, "text", "(IJI)V"⟩
abbrev cX0_join : ByteArray := prog_1_method_16_code
def yX0_join : MethodName := ⟨RX0, "join", "(III)V"⟩
abbrev cX0_part : ByteArray := prog_1_method_17_code
def yX0_part : MethodName := ⟨RX0, "part", "(IIII)V"⟩
abbrev cX0_length : ByteArray := prog_1_method_18_code
def yX0_length : MethodName := ⟨RX0, "length", "(I)I"⟩
abbrev cX0_unit : ByteArray := prog_1_method_19_code
def yX0_unit : MethodName := ⟨RX0, "unit", "(II)I"⟩
abbrev cX0_compare : ByteArray := prog_1_method_20_code
def yX0_compare : MethodName := ⟨RX0, "compare", "(II)I"⟩
abbrev cX0_name : ByteArray := prog_1_method_21_code
def yX0_name : MethodName := ⟨RX0, "name", "(II)V"⟩
abbrev cX0_collect : ByteArray := prog_1_method_22_code
def yX0_collect : MethodName := ⟨RX0, "collect", "()I"⟩
abbrev cX0_stress : ByteArray := prog_1_method_23_code
def yX0_stress : MethodName := ⟨RX0, "stress", "(I)V"⟩
abbrev cX0_isUpTo : ByteArray := prog_1_method_24_code
def yX0_isUpTo : MethodName := ⟨RX0, "isUpTo", "(II)Z"⟩
abbrev cX0_needRoot : ByteArray := prog_1_method_25_code
def yX0_needRoot : MethodName := ⟨RX0, "needRoot", "(I)V"⟩
abbrev cX0_needText : ByteArray := prog_1_method_26_code
def yX0_needText : MethodName := ⟨RX0, "needText", "(I)V"⟩
abbrev cX0_needBlock : ByteArray := prog_1_method_27_code
def yX0_needBlock : MethodName := ⟨RX0, "needBlock", "(I)I"⟩
abbrev cX0_linkSlot : ByteArray := prog_1_method_28_code
def yX0_linkSlot : MethodName := ⟨RX0, "linkSlot", "(II)I"⟩
abbrev cX0_valueSlot : ByteArray := prog_1_method_29_code
def yX0_valueSlot : MethodName := ⟨RX0, "valueSlot", "(II)I"⟩
abbrev cX0_plainSlot : ByteArray := prog_1_method_30_code
def yX0_plainSlot : MethodName := ⟨RX0, "plainSlot", "(II)I"⟩
abbrev cX0_shapeOf : ByteArray := prog_1_method_31_code
def yX0_shapeOf : MethodName := ⟨RX0, "shapeOf", "(IIII)I"⟩
abbrev cX0_kindAt : ByteArray := prog_1_method_32_code
def yX0_kindAt : MethodName := ⟨RX0, "kindAt", "(I)I"⟩
abbrev cX0_linksAt : ByteArray := prog_1_method_33_code
def yX0_linksAt : MethodName := ⟨RX0, "linksAt", "(I)I"⟩
abbrev cX0_valuesAt : ByteArray := prog_1_method_34_code
def yX0_valuesAt : MethodName := ⟨RX0, "valuesAt", "(I)I"⟩
abbrev cX0_sizeAt : ByteArray := prog_1_method_35_code
def yX0_sizeAt : MethodName := ⟨RX0, "sizeAt", "(I)I"⟩
abbrev cX0_isReference : ByteArray := prog_1_method_36_code
def yX0_isReference : MethodName := ⟨RX0, "isReference", "(I)Z"⟩
abbrev cX0_lengthAt : ByteArray := prog_1_method_37_code
def yX0_lengthAt : MethodName := ⟨RX0, "lengthAt", "(I)I"⟩
abbrev cX0_putLength : ByteArray := prog_1_method_38_code
def yX0_putLength : MethodName := ⟨RX0, "putLength", "(II)V"⟩
abbrev cX0_lengthIn : ByteArray := prog_1_method_39_code
def yX0_lengthIn : MethodName := ⟨RX0, "lengthIn", "(I)I"⟩
abbrev cX0_flatOf : ByteArray := prog_1_method_40_code
def yX0_flatOf : MethodName := ⟨RX0, "flatOf", "(I)I"⟩
abbrev cX0_unitAt : ByteArray := prog_1_method_41_code
def yX0_unitAt : MethodName := ⟨RX0, "unitAt", "(II)I"⟩
abbrev cX0_putUnit : ByteArray := prog_1_method_42_code
def yX0_putUnit : MethodName := ⟨RX0, "putUnit", "(III)V"⟩
abbrev cX0_copyUnits : ByteArray := prog_1_method_43_code
def yX0_copyUnits : MethodName := ⟨RX0, "copyUnits", "(IIIII)V"⟩
abbrev cX0_makeFlat : ByteArray := prog_1_method_44_code
def yX0_makeFlat : MethodName := ⟨RX0, "makeFlat", "(II)I"⟩
abbrev cX0_makeFlatOfTwo : ByteArray := prog_1_method_45_code
def yX0_makeFlatOfTwo : MethodName := ⟨RX0, "makeFlatOfTwo", "(II)I"⟩
abbrev cX0_makeJoined : ByteArray := prog_1_method_46_code
def yX0_makeJoined : MethodName := ⟨RX0, "makeJoined", "(II)I"⟩
abbrev cX0_goOver : ByteArray := prog_1_method_47_code
def yX0_goOver : MethodName := ⟨RX0, "goOver", "(I)V"⟩
abbrev cX0_copyAllUnits : ByteArray := prog_1_method_48_code
def yX0_copyAllUnits : MethodName := ⟨RX0, "copyAllUnits", "(II)V"⟩
abbrev cX0_findName : ByteArray := prog_1_method_49_code
def yX0_findName : MethodName := ⟨RX0, "findName", "(I)I"⟩
abbrev cX0_hasSameUnits : ByteArray := prog_1_method_50_code
def yX0_hasSameUnits : MethodName := ⟨RX0, "hasSameUnits", "(II)Z"⟩
abbrev cX0_makeName : ByteArray := prog_1_method_51_code
def yX0_makeName : MethodName := ⟨RX0, "makeName", "(I)I"⟩
abbrev cX0_isStressed : ByteArray := prog_1_method_52_code
def yX0_isStressed : MethodName := ⟨RX0, "isStressed", "()Z"⟩
abbrev cX0_make : ByteArray := prog_1_method_53_code
def yX0_make : MethodName := ⟨RX0, "make", "(IIII)I"⟩
abbrev cX0_widen : ByteArray := prog_1_method_54_code
def yX0_widen : MethodName := ⟨RX0, "widen", "(I)V"⟩
abbrev cX0_slideTogether : ByteArray := prog_1_method_55_code
def yX0_slideTogether : MethodName := ⟨RX0, "slideTogether", "()V"⟩
abbrev cX0_touchRoots : ByteArray := prog_1_method_56_code
def yX0_touchRoots : MethodName := ⟨RX0, "touchRoots", "(Z)V"⟩
abbrev cX0_touchLeads : ByteArray := prog_1_method_57_code
def yX0_touchLeads : MethodName := ⟨RX0, "touchLeads", "(IZ)V"⟩
abbrev cX0_touch : ByteArray := prog_1_method_58_code
def yX0_touch : MethodName := ⟨RX0, "touch", "(IZ)I"⟩
abbrev cX0_planMoves : ByteArray := prog_1_method_59_code
def yX0_planMoves : MethodName := ⟨RX0, "planMoves", "()I"⟩
abbrev cX0_keepNames : ByteArray := prog_1_method_60_code
def yX0_keepNames : MethodName := ⟨RX0, "keepNames", "()V"⟩
abbrev cX0_moveAll : ByteArray := prog_1_method_61_code
def yX0_moveAll : MethodName := ⟨RX0, "moveAll", "()V"⟩
def RX1 : String := "OwnMemoryModel"
def TX1 : u_T := fun k => match k with
  | 0 => ("OwnMemoryModel", "thrown", "I", false)
  | 1 => ("OwnMemoryModel", "limit", "I", true)
  | 2 => ("OwnMemoryModel", "root", "[I", true)
  | 3 => ("OwnMemoryModel", "objects", "I", false)
  | 4 => ("OwnMemoryModel", "kind", "[I", true)
  | 5 => ("OwnMemoryModel", "links", "[I", true)
  | 6 => ("OwnMemoryModel", "values", "[I", true)
  | 7 => ("OwnMemoryModel", "plain", "[I", true)
  | 8 => ("OwnMemoryModel", "link", "[I", true)
  | 9 => ("OwnMemoryModel", "number", "[J", true)
  | 10 => ("OwnMemoryModel", "refers", "[I", true)
  | 11 => ("OwnMemoryModel", "word", "[I", true)
  | 12 => ("OwnMemoryModel", "length", "[I", true)
  | 13 => ("OwnMemoryModel", "madeOf", "[I", true)
  | 14 => ("OwnMemoryModel", "a", "[I", true)
  | 15 => ("OwnMemoryModel", "b", "[I", true)
  | 16 => ("OwnMemoryModel", "units", "[J", true)
  | 17 => ("OwnMemoryModel", "spread", "[I", true)
  | 18 => ("OwnMemoryModel", "there", "[Z", true)
  | 19 => ("OwnMemoryModel", "waiting", "[I", true)
  | _ => ("OwnMemoryModel", "wait", "I", false)
def tyX1 : Nat → FieldType := fun k => match k with
  | 0 => .int
  | 1 => .int
  | 2 => .array .int
  | 3 => .int
  | 4 => .array .int
  | 5 => .array .int
  | 6 => .array .int
  | 7 => .array .int
  | 8 => .array .int
  | 9 => .array .long
  | 10 => .array .int
  | 11 => .array .int
  | 12 => .array .int
  | 13 => .array .int
  | 14 => .array .int
  | 15 => .array .int
  | 16 => .array .long
  | 17 => .array .int
  | 18 => .array .boolean
  | 19 => .array .int
  | _ => .int
abbrev wsX10 : List Cond := u_ws RX1 TX1 21
theorem nmX1 : ∀ a, a < 21 → ∀ b, b < 21 → a ≠ b → (TX1 a).2.1 ≠ (TX1 b).2.1 := by decide +kernel
theorem tyX1_ok : ∀ k, k < 21 → parseFieldDescriptor (TX1 k).2.2.1 = some (tyX1 k) := by decide +kernel
abbrev cX1_init : ByteArray := prog_3_method_1_code
def yX1_init : MethodName := ⟨RX1, "<init>", "(I)V"⟩
abbrev cX1_thrown : ByteArray := prog_3_method_2_code
def yX1_thrown : MethodName := ⟨RX1, "thrown", "()I"⟩
abbrev cX1_in : ByteArray := prog_3_method_3_code
def yX1_in : MethodName := ⟨RX1, "in", "(III)Z"⟩
abbrev cX1_isRoot : ByteArray := prog_3_method_4_code
def yX1_isRoot : MethodName := ⟨RX1, "isRoot", "(I)Z"⟩
abbrev cX1_says : ByteArray := prog_3_method_5_code
def yX1_says : MethodName := ⟨RX1, "says", "(Z)Z"⟩
abbrev cX1_words : ByteArray := prog_3_method_6_code
def yX1_words : MethodName := ⟨RX1, "words", "(I)I"⟩
abbrev cX1_come : ByteArray := prog_3_method_7_code
def yX1_come : MethodName := ⟨RX1, "come", "(I)V"⟩
abbrev cX1_look : ByteArray := prog_3_method_8_code
def yX1_look : MethodName := ⟨RX1, "look", "()V"⟩
abbrev cX1_taken : ByteArray := prog_3_method_9_code
def yX1_taken : MethodName := ⟨RX1, "taken", "()I"⟩
abbrev cX1_make : ByteArray := prog_3_method_10_code
def yX1_make : MethodName := ⟨RX1, "make", "(III)I"⟩
abbrev cX1_collect : ByteArray := prog_3_method_11_code
def yX1_collect : MethodName := ⟨RX1, "collect", "()I"⟩
abbrev cX1_stress : ByteArray := prog_3_method_12_code
def yX1_stress : MethodName := ⟨RX1, "stress", "(I)V"⟩
abbrev cX1_take : ByteArray := prog_3_method_13_code
def yX1_take : MethodName := ⟨RX1, "take", "(IIII)V"⟩
abbrev cX1_copy : ByteArray := prog_3_method_14_code
def yX1_copy : MethodName := ⟨RX1, "copy", "(II)V"⟩
abbrev cX1_drop : ByteArray := prog_3_method_15_code
def yX1_drop : MethodName := ⟨RX1, "drop", "(I)V"⟩
abbrev cX1_kind : ByteArray := prog_3_method_16_code
def yX1_kind : MethodName := ⟨RX1, "kind", "(I)I"⟩
abbrev cX1_same : ByteArray := prog_3_method_17_code
def yX1_same : MethodName := ⟨RX1, "same", "(II)Z"⟩
abbrev cX1_isBlock : ByteArray := prog_3_method_18_code
def yX1_isBlock : MethodName := ⟨RX1, "isBlock", "(I)Z"⟩
abbrev cX1_hasLink : ByteArray := prog_3_method_19_code
def yX1_hasLink : MethodName := ⟨RX1, "hasLink", "(II)Z"⟩
abbrev cX1_hasValue : ByteArray := prog_3_method_20_code
def yX1_hasValue : MethodName := ⟨RX1, "hasValue", "(II)Z"⟩
abbrev cX1_hasWord : ByteArray := prog_3_method_21_code
def yX1_hasWord : MethodName := ⟨RX1, "hasWord", "(II)Z"⟩
abbrev cX1_tie : ByteArray := prog_3_method_22_code
def yX1_tie : MethodName := ⟨RX1, "tie", "(III)V"⟩
abbrev cX1_lead : ByteArray := prog_3_method_23_code
def yX1_lead : MethodName := ⟨RX1, "lead", "(III)V"⟩
abbrev cX1_number : ByteArray := prog_3_method_24_code
def yX1_number : MethodName := ⟨RX1, "number", "(IIJ)V"⟩
abbrev cX1_refer : ByteArray := prog_3_method_25_code
def yX1_refer : MethodName := ⟨RX1, "refer", "(III)V"⟩
abbrev cX1_bits : ByteArray := prog_3_method_26_code
def yX1_bits : MethodName := ⟨RX1, "bits", "(II)J"⟩
abbrev cX1_follow : ByteArray := prog_3_method_27_code
def yX1_follow : MethodName := ⟨RX1, "follow", "(III)Z"⟩
abbrev cX1_set : ByteArray := prog_3_method_28_code
def yX1_set : MethodName := ⟨RX1, "set", "(III)V"⟩
abbrev cX1_get : ByteArray := prog_3_method_29_code
def yX1_get : MethodName := ⟨RX1, "get", "(II)I"⟩
abbrev cX1_isText : ByteArray := prog_3_method_30_code
def yX1_isText : MethodName := ⟨RX1, "isText", "(I)Z"⟩
abbrev cX1_unitOf : ByteArray := prog_3_method_31_code
def yX1_unitOf : MethodName := ⟨RX1, "unitOf", "(II)I"⟩
abbrev cX1_goOver : ByteArray := prog_3_method_32_code
def yX1_goOver : MethodName := ⟨RX1, "goOver", "(I)Z"⟩
abbrev cX1_full : ByteArray := prog_3_method_33_code
def yX1_full : MethodName := ⟨RX1, "full", "(I)I"⟩
abbrev cX1_text : ByteArray := prog_3_method_34_code
def yX1_text : MethodName := ⟨RX1, "text", "(IJI)V"⟩
abbrev cX1_join : ByteArray := prog_3_method_35_code
def yX1_join : MethodName := ⟨RX1, "join", "(III)V"⟩
abbrev cX1_partOf : ByteArray := prog_3_method_36_code
def yX1_partOf : MethodName := ⟨RX1, "partOf", "(IIII)I"⟩
abbrev cX1_part : ByteArray := prog_3_method_37_code
def yX1_part : MethodName := ⟨RX1, "part", "(IIII)V"⟩
abbrev cX1_length : ByteArray := prog_3_method_38_code
def yX1_length : MethodName := ⟨RX1, "length", "(I)I"⟩
abbrev cX1_unit : ByteArray := prog_3_method_39_code
def yX1_unit : MethodName := ⟨RX1, "unit", "(II)I"⟩
abbrev cX1_order : ByteArray := prog_3_method_40_code
def yX1_order : MethodName := ⟨RX1, "order", "(II)I"⟩
abbrev cX1_compare : ByteArray := prog_3_method_41_code
def yX1_compare : MethodName := ⟨RX1, "compare", "(II)I"⟩
abbrev cX1_find : ByteArray := prog_3_method_42_code
def yX1_find : MethodName := ⟨RX1, "find", "(I)I"⟩
abbrev cX1_name : ByteArray := prog_3_method_43_code
def yX1_name : MethodName := ⟨RX1, "name", "(II)V"⟩
def RJ5 : String := "java/lang/AbstractStringBuilder"
def TJ5 : u_T := fun k => match k with
  | _ => ("", "", "", false)
def tyJ5 : Nat → FieldType := fun k => match k with
  | _ => .int
abbrev wsJ50 : List Cond := u_ws RJ5 TJ5 0
theorem nmJ5 : ∀ a, a < 0 → ∀ b, b < 0 → a ≠ b → (TJ5 a).2.1 ≠ (TJ5 b).2.1 := by decide +kernel
theorem tyJ5_ok : ∀ k, k < 0 → parseFieldDescriptor (TJ5 k).2.2.1 = some (tyJ5 k) := by decide +kernel
abbrev cJ5_init_d00df : ByteArray := prog_4_method_2_code
def yJ5_init_d00df : MethodName := ⟨RJ5, "<init>", "(I)V"⟩
abbrev cJ5_length_8abf5 : ByteArray := prog_4_method_6_code
def yJ5_length_8abf5 : MethodName := ⟨RJ5, "length", "()I"⟩
abbrev cJ5_ensureCapacityInternal_d00df : ByteArray := prog_4_method_9_code
def yJ5_ensureCapacityInternal_d00df : MethodName := ⟨RJ5, "ensureCapacityInternal", "(I)V"⟩
abbrev cJ5_newCapacity_0f7a4 : ByteArray := prog_4_method_10_code
def yJ5_newCapacity_0f7a4 : MethodName := ⟨RJ5, "newCapacity", "(I)I"⟩
abbrev cJ5_inflate_da8c8 : ByteArray := prog_4_method_11_code
def yJ5_inflate_da8c8 : MethodName := ⟨RJ5, "inflate", "()V"⟩
abbrev cJ5_append_cf1ce : ByteArray := prog_4_method_22_code
def yJ5_append_cf1ce : MethodName := ⟨RJ5, "append", "(Ljava/lang/String;)Ljava/lang/AbstractStringBuilder;"⟩
abbrev cJ5_appendNull_278bc : ByteArray := prog_4_method_26_code
def yJ5_appendNull_278bc : MethodName := ⟨RJ5, "appendNull", "()Ljava/lang/AbstractStringBuilder;"⟩
abbrev cJ5_append_c97b9 : ByteArray := prog_4_method_32_code
def yJ5_append_c97b9 : MethodName := ⟨RJ5, "append", "(I)Ljava/lang/AbstractStringBuilder;"⟩
abbrev cJ5_getValue_6d5f1 : ByteArray := prog_4_method_64_code
def yJ5_getValue_6d5f1 : MethodName := ⟨RJ5, "getValue", "()[B"⟩
abbrev cJ5_isLatin1_aae02 : ByteArray := prog_4_method_68_code
def yJ5_isLatin1_aae02 : MethodName := ⟨RJ5, "isLatin1", "()Z"⟩
abbrev cJ5_inflateIfNeededFor_a7421 : ByteArray := prog_4_method_71_code
def yJ5_inflateIfNeededFor_a7421 : MethodName := ⟨RJ5, "inflateIfNeededFor", "(Ljava/lang/String;)V"⟩
abbrev cJ5_putStringAt_47b60 : ByteArray := prog_4_method_73_code
def yJ5_putStringAt_47b60 : MethodName := ⟨RJ5, "putStringAt", "(ILjava/lang/String;)V"⟩
def RJx8e188 : String := "java/lang/Cloneable"
def TJx8e188 : u_T := fun k => match k with
  | _ => ("", "", "", false)
def tyJx8e188 : Nat → FieldType := fun k => match k with
  | _ => .int
abbrev wsJx8e1880 : List Cond := u_ws RJx8e188 TJx8e188 0
theorem nmJx8e188 : ∀ a, a < 0 → ∀ b, b < 0 → a ≠ b → (TJx8e188 a).2.1 ≠ (TJx8e188 b).2.1 := by decide +kernel
theorem tyJx8e188_ok : ∀ k, k < 0 → parseFieldDescriptor (TJx8e188 k).2.2.1 = some (tyJx8e188 k) := by decide +kernel
def RJ6 : String := "java/lang/Integer"
def TJ6 : u_T := fun k => match k with
  | _ => ("", "", "", false)
def tyJ6 : Nat → FieldType := fun k => match k with
  | _ => .int
abbrev wsJ60 : List Cond := u_ws RJ6 TJ6 0
theorem nmJ6 : ∀ a, a < 0 → ∀ b, b < 0 → a ≠ b → (TJ6 a).2.1 ≠ (TJ6 b).2.1 := by decide +kernel
theorem tyJ6_ok : ∀ k, k < 0 → parseFieldDescriptor (TJ6 k).2.2.1 = some (tyJ6 k) := by decide +kernel
abbrev cJ6_getChars_ba4f3 : ByteArray := prog_9_method_12_code
def yJ6_getChars_ba4f3 : MethodName := ⟨RJ6, "getChars", "(II[B)I"⟩
abbrev cJ6_stringSize_0f7a4 : ByteArray := prog_9_method_13_code
def yJ6_stringSize_0f7a4 : MethodName := ⟨RJ6, "stringSize", "(I)I"⟩
abbrev cJ6_signum_0f7a4 : ByteArray := prog_9_method_56_code
def yJ6_signum_0f7a4 : MethodName := ⟨RJ6, "signum", "(I)I"⟩
def RJ9 : String := "java/lang/Math"
def TJ9 : u_T := fun k => match k with
  | _ => ("", "", "", false)
def tyJ9 : Nat → FieldType := fun k => match k with
  | _ => .int
abbrev wsJ90 : List Cond := u_ws RJ9 TJ9 0
theorem nmJ9 : ∀ a, a < 0 → ∀ b, b < 0 → a ≠ b → (TJ9 a).2.1 ≠ (TJ9 b).2.1 := by decide +kernel
theorem tyJ9_ok : ∀ k, k < 0 → parseFieldDescriptor (TJ9 k).2.2.1 = some (tyJ9 k) := by decide +kernel
abbrev cJ9_max_7cf53 : ByteArray := prog_10_method_65_code
def yJ9_max_7cf53 : MethodName := ⟨RJ9, "max", "(II)I"⟩
abbrev cJ9_min_7cf53 : ByteArray := prog_10_method_69_code
def yJ9_min_7cf53 : MethodName := ⟨RJ9, "min", "(II)I"⟩
def RJ0 : String := "java/lang/String"
def TJ0 : u_T := fun k => match k with
  | 0 => ("java/lang/String", "value", "[B", true)
  | 1 => ("java/lang/String", "coder", "B", true)
  | 2 => ("java/lang/String", "hash", "I", false)
  | _ => ("java/lang/String", "hashIsZero", "Z", false)
def tyJ0 : Nat → FieldType := fun k => match k with
  | 0 => .array .byte
  | 1 => .byte
  | 2 => .int
  | _ => .boolean
abbrev wsJ00 : List Cond := u_ws RJ0 TJ0 4
theorem nmJ0 : ∀ a, a < 4 → ∀ b, b < 4 → a ≠ b → (TJ0 a).2.1 ≠ (TJ0 b).2.1 := by decide +kernel
theorem tyJ0_ok : ∀ k, k < 4 → parseFieldDescriptor (TJ0 k).2.2.1 = some (tyJ0 k) := by decide +kernel
abbrev cJ0_init_81219 : ByteArray := prog_12_method_53_code
def yJ0_init_81219 : MethodName := ⟨RJ0, "<init>", "(Ljava/lang/StringBuilder;)V"⟩
abbrev cJ0_length_8abf5 : ByteArray := prog_12_method_54_code
def yJ0_length_8abf5 : MethodName := ⟨RJ0, "length", "()I"⟩
abbrev cJ0_getBytes_840e7 : ByteArray := prog_12_method_147_code
def yJ0_getBytes_840e7 : MethodName := ⟨RJ0, "getBytes", "([BIB)V"⟩
abbrev cJ0_init_db425 : ByteArray := prog_12_method_150_code
def yJ0_init_db425 : MethodName := ⟨RJ0, "<init>", "(Ljava/lang/AbstractStringBuilder;Ljava/lang/Void;)V"⟩
abbrev cJ0_coder_7d493 : ByteArray := prog_12_method_152_code
def yJ0_coder_7d493 : MethodName := ⟨RJ0, "coder", "()B"⟩
abbrev cJ0_checkBoundsOffCount_cabcc : ByteArray := prog_12_method_157_code
def yJ0_checkBoundsOffCount_cabcc : MethodName := ⟨RJ0, "checkBoundsOffCount", "(III)I"⟩
abbrev cJ0_checkBoundsBeginEnd_23922 : ByteArray := prog_12_method_158_code
def yJ0_checkBoundsBeginEnd_23922 : MethodName := ⟨RJ0, "checkBoundsBeginEnd", "(III)V"⟩
def RJ4 : String := "java/lang/StringBuilder"
def TJ4 : u_T := fun k => match k with
  | 0 => ("java/lang/AbstractStringBuilder", "value", "[B", false)
  | 1 => ("java/lang/AbstractStringBuilder", "coder", "B", false)
  | 2 => ("java/lang/AbstractStringBuilder", "maybeLatin1", "Z", false)
  | _ => ("java/lang/AbstractStringBuilder", "count", "I", false)
def tyJ4 : Nat → FieldType := fun k => match k with
  | 0 => .array .byte
  | 1 => .byte
  | 2 => .boolean
  | _ => .int
abbrev wsJ40 : List Cond := u_ws RJ4 TJ4 4
theorem nmJ4 : ∀ a, a < 4 → ∀ b, b < 4 → a ≠ b → (TJ4 a).2.1 ≠ (TJ4 b).2.1 := by decide +kernel
theorem tyJ4_ok : ∀ k, k < 4 → parseFieldDescriptor (TJ4 k).2.2.1 = some (tyJ4 k) := by decide +kernel
abbrev cJ4_init_da8c8 : ByteArray := prog_13_method_1_code
def yJ4_init_da8c8 : MethodName := ⟨RJ4, "<init>", "()V"⟩
abbrev cJ4_append_15ec4 : ByteArray := prog_13_method_7_code
def yJ4_append_15ec4 : MethodName := ⟨RJ4, "append", "(Ljava/lang/String;)Ljava/lang/StringBuilder;"⟩
abbrev cJ4_append_bf812 : ByteArray := prog_13_method_15_code
def yJ4_append_bf812 : MethodName := ⟨RJ4, "append", "(I)Ljava/lang/StringBuilder;"⟩
abbrev cJ4_toString_0e30d : ByteArray := prog_13_method_42_code
def yJ4_toString_0e30d : MethodName := ⟨RJ4, "toString", "()Ljava/lang/String;"⟩
abbrev cJ4_length_8abf5 : ByteArray := prog_13_method_93_code
def yJ4_length_8abf5 : MethodName := ⟨RJ4, "length", "()I"⟩
def RJ1 : String := "java/lang/StringLatin1"
def TJ1 : u_T := fun k => match k with
  | _ => ("", "", "", false)
def tyJ1 : Nat → FieldType := fun k => match k with
  | _ => .int
abbrev wsJ10 : List Cond := u_ws RJ1 TJ1 0
theorem nmJ1 : ∀ a, a < 0 → ∀ b, b < 0 → a ≠ b → (TJ1 a).2.1 ≠ (TJ1 b).2.1 := by decide +kernel
theorem tyJ1_ok : ∀ k, k < 0 → parseFieldDescriptor (TJ1 k).2.2.1 = some (tyJ1 k) := by decide +kernel
abbrev cJ1_inflate_0e8fd : ByteArray := prog_14_method_50_code
def yJ1_inflate_0e8fd : MethodName := ⟨RJ1, "inflate", "([BI[BII)V"⟩
def RJ2 : String := "java/lang/StringUTF16"
def TJ2 : u_T := fun k => match k with
  | _ => ("", "", "", false)
def tyJ2 : Nat → FieldType := fun k => match k with
  | _ => .int
abbrev wsJ20 : List Cond := u_ws RJ2 TJ2 0
theorem nmJ2 : ∀ a, a < 0 → ∀ b, b < 0 → a ≠ b → (TJ2 a).2.1 ≠ (TJ2 b).2.1 := by decide +kernel
theorem tyJ2_ok : ∀ k, k < 0 → parseFieldDescriptor (TJ2 k).2.2.1 = some (tyJ2 k) := by decide +kernel
abbrev cJ2_newBytesFor_77867 : ByteArray := prog_15_method_2_code
def yJ2_newBytesFor_77867 : MethodName := ⟨RJ2, "newBytesFor", "(I)[B"⟩
abbrev cJ2_newBytesLength_0f7a4 : ByteArray := prog_15_method_3_code
def yJ2_newBytesLength_0f7a4 : MethodName := ⟨RJ2, "newBytesLength", "(I)I"⟩
abbrev cJ2_putChar_b72d1 : ByteArray := prog_15_method_4_code
def yJ2_putChar_b72d1 : MethodName := ⟨RJ2, "putChar", "([BII)V"⟩
abbrev cJ2_getChar_3b067 : ByteArray := prog_15_method_5_code
def yJ2_getChar_3b067 : MethodName := ⟨RJ2, "getChar", "([BI)C"⟩
abbrev cJ2_length_9d52b : ByteArray := prog_15_method_6_code
def yJ2_length_9d52b : MethodName := ⟨RJ2, "length", "([B)I"⟩
abbrev cJ2_coderFromArrayLen_85cad : ByteArray := prog_15_method_15_code
def yJ2_coderFromArrayLen_85cad : MethodName := ⟨RJ2, "coderFromArrayLen", "([BI)B"⟩
abbrev cJ2_compress_39247 : ByteArray := prog_15_method_17_code
def yJ2_compress_39247 : MethodName := ⟨RJ2, "compress", "([BII)[B"⟩
abbrev cJ2_compress_5af95 : ByteArray := prog_15_method_22_code
def yJ2_compress_5af95 : MethodName := ⟨RJ2, "compress", "([BI[BII)I"⟩
abbrev cJ2_getChars_46870 : ByteArray := prog_15_method_77_code
def yJ2_getChars_46870 : MethodName := ⟨RJ2, "getChars", "(III[B)I"⟩
abbrev cJ2_putCharsAt_cd4e5 : ByteArray := prog_15_method_81_code
def yJ2_putCharsAt_cd4e5 : MethodName := ⟨RJ2, "putCharsAt", "([BICCCC)I"⟩
abbrev cJ2_inflate_0e8fd : ByteArray := prog_15_method_86_code
def yJ2_inflate_0e8fd : MethodName := ⟨RJ2, "inflate", "([BI[BII)V"⟩
abbrev cJ2_getChars_ba4f3 : ByteArray := prog_15_method_89_code
def yJ2_getChars_ba4f3 : MethodName := ⟨RJ2, "getChars", "(II[B)I"⟩
abbrev cJ2_checkBoundsBeginEnd_d044e : ByteArray := prog_15_method_93_code
def yJ2_checkBoundsBeginEnd_d044e : MethodName := ⟨RJ2, "checkBoundsBeginEnd", "(II[B)V"⟩
abbrev cJ2_checkBoundsOffCount_d044e : ByteArray := prog_15_method_94_code
def yJ2_checkBoundsOffCount_d044e : MethodName := ⟨RJ2, "checkBoundsOffCount", "(II[B)V"⟩
def RJ10 : String := "java/lang/System"
def TJ10 : u_T := fun k => match k with
  | _ => ("", "", "", false)
def tyJ10 : Nat → FieldType := fun k => match k with
  | _ => .int
abbrev wsJ100 : List Cond := u_ws RJ10 TJ10 0
theorem nmJ10 : ∀ a, a < 0 → ∀ b, b < 0 → a ≠ b → (TJ10 a).2.1 ≠ (TJ10 b).2.1 := by decide +kernel
theorem tyJ10_ok : ∀ k, k < 0 → parseFieldDescriptor (TJ10 k).2.2.1 = some (tyJ10 k) := by decide +kernel
def RJ7 : String := "java/util/Arrays"
def TJ7 : u_T := fun k => match k with
  | _ => ("", "", "", false)
def tyJ7 : Nat → FieldType := fun k => match k with
  | _ => .int
abbrev wsJ70 : List Cond := u_ws RJ7 TJ7 0
theorem nmJ7 : ∀ a, a < 0 → ∀ b, b < 0 → a ≠ b → (TJ7 a).2.1 ≠ (TJ7 b).2.1 := by decide +kernel
theorem tyJ7_ok : ∀ k, k < 0 → parseFieldDescriptor (TJ7 k).2.2.1 = some (tyJ7 k) := by decide +kernel
abbrev cJ7_rangeCheck_23922 : ByteArray := prog_18_method_30_code
def yJ7_rangeCheck_23922 : MethodName := ⟨RJ7, "rangeCheck", "(III)V"⟩
abbrev cJ7_fill_53178 : ByteArray := prog_18_method_103_code
def yJ7_fill_53178 : MethodName := ⟨RJ7, "fill", "([II)V"⟩
abbrev cJ7_fill_fda19 : ByteArray := prog_18_method_104_code
def yJ7_fill_fda19 : MethodName := ⟨RJ7, "fill", "([IIII)V"⟩
abbrev cJ7_copyOf_9075b : ByteArray := prog_18_method_121_code
def yJ7_copyOf_9075b : MethodName := ⟨RJ7, "copyOf", "([BI)[B"⟩
abbrev cJ7_copyOf_59c91 : ByteArray := prog_18_method_123_code
def yJ7_copyOf_59c91 : MethodName := ⟨RJ7, "copyOf", "([II)[I"⟩
abbrev cJ7_checkLength_df160 : ByteArray := prog_18_method_131_code
def yJ7_checkLength_df160 : MethodName := ⟨RJ7, "checkLength", "(II)V"⟩
abbrev cJ7_copyOfRange_39247 : ByteArray := prog_18_method_132_code
def yJ7_copyOfRange_39247 : MethodName := ⟨RJ7, "copyOfRange", "([BII)[B"⟩
abbrev cJ7_copyOfRangeByte_39247 : ByteArray := prog_18_method_133_code
def yJ7_copyOfRangeByte_39247 : MethodName := ⟨RJ7, "copyOfRangeByte", "([BII)[B"⟩
def RJ8 : String := "jdk/internal/util/ArraysSupport"
def TJ8 : u_T := fun k => match k with
  | _ => ("", "", "", false)
def tyJ8 : Nat → FieldType := fun k => match k with
  | _ => .int
abbrev wsJ80 : List Cond := u_ws RJ8 TJ8 0
theorem nmJ8 : ∀ a, a < 0 → ∀ b, b < 0 → a ≠ b → (TJ8 a).2.1 ≠ (TJ8 b).2.1 := by decide +kernel
theorem tyJ8_ok : ∀ k, k < 0 → parseFieldDescriptor (TJ8 k).2.2.1 = some (tyJ8 k) := by decide +kernel
abbrev cJ8_newLength_cabcc : ByteArray := prog_19_method_27_code
def yJ8_newLength_cabcc : MethodName := ⟨RJ8, "newLength", "(III)I"⟩
abbrev cJ8_hugeLength_7cf53 : ByteArray := prog_19_method_28_code
def yJ8_hugeLength_7cf53 : MethodName := ⟨RJ8, "hugeLength", "(II)I"⟩
def RJ3 : String := "jdk/internal/util/Preconditions"
def TJ3 : u_T := fun k => match k with
  | _ => ("", "", "", false)
def tyJ3 : Nat → FieldType := fun k => match k with
  | _ => .int
abbrev wsJ30 : List Cond := u_ws RJ3 TJ3 0
theorem nmJ3 : ∀ a, a < 0 → ∀ b, b < 0 → a ≠ b → (TJ3 a).2.1 ≠ (TJ3 b).2.1 := by decide +kernel
theorem tyJ3_ok : ∀ k, k < 0 → parseFieldDescriptor (TJ3 k).2.2.1 = some (tyJ3 k) := by decide +kernel
abbrev cJ3_checkFromToIndex_8c36e : ByteArray := prog_20_method_12_code
def yJ3_checkFromToIndex_8c36e : MethodName := ⟨RJ3, "checkFromToIndex", "(IIILjava/util/function/BiFunction;)I"⟩
abbrev cJ3_checkFromIndexSize_8c36e : ByteArray := prog_20_method_13_code
def yJ3_checkFromIndexSize_8c36e : MethodName := ⟨RJ3, "checkFromIndexSize", "(IIILjava/util/function/BiFunction;)I"⟩
def RL : String := "OwnMemoryLaw"
abbrev cL_cell : ByteArray := method_2_code
def yL_cell : MethodName := ⟨RL, "cell", "([II)I"⟩
abbrev cL_take : ByteArray := method_3_code
def yL_take : MethodName := ⟨RL, "take", "(LOwnMemory;IIII)I"⟩
abbrev cL_copy : ByteArray := method_4_code
def yL_copy : MethodName := ⟨RL, "copy", "(LOwnMemory;II)I"⟩
abbrev cL_drop : ByteArray := method_5_code
def yL_drop : MethodName := ⟨RL, "drop", "(LOwnMemory;I)I"⟩
abbrev cL_kind : ByteArray := method_6_code
def yL_kind : MethodName := ⟨RL, "kind", "(LOwnMemory;I[J)I"⟩
abbrev cL_same : ByteArray := method_7_code
def yL_same : MethodName := ⟨RL, "same", "(LOwnMemory;II[J)I"⟩
abbrev cL_tie : ByteArray := method_8_code
def yL_tie : MethodName := ⟨RL, "tie", "(LOwnMemory;III)I"⟩
abbrev cL_lead : ByteArray := method_9_code
def yL_lead : MethodName := ⟨RL, "lead", "(LOwnMemory;III)I"⟩
abbrev cL_number : ByteArray := method_10_code
def yL_number : MethodName := ⟨RL, "number", "(LOwnMemory;IIJ)I"⟩
abbrev cL_refer : ByteArray := method_11_code
def yL_refer : MethodName := ⟨RL, "refer", "(LOwnMemory;III)I"⟩
abbrev cL_bits : ByteArray := method_12_code
def yL_bits : MethodName := ⟨RL, "bits", "(LOwnMemory;II[J)I"⟩
abbrev cL_follow : ByteArray := method_13_code
def yL_follow : MethodName := ⟨RL, "follow", "(LOwnMemory;III[J)I"⟩
abbrev cL_set : ByteArray := method_14_code
def yL_set : MethodName := ⟨RL, "set", "(LOwnMemory;III)I"⟩
abbrev cL_get : ByteArray := method_15_code
def yL_get : MethodName := ⟨RL, "get", "(LOwnMemory;II[J)I"⟩
abbrev cL_text : ByteArray := method_16_code
def yL_text : MethodName := ⟨RL, "text", "(LOwnMemory;IJI)I"⟩
abbrev cL_join : ByteArray := method_17_code
def yL_join : MethodName := ⟨RL, "join", "(LOwnMemory;III)I"⟩
abbrev cL_part : ByteArray := method_18_code
def yL_part : MethodName := ⟨RL, "part", "(LOwnMemory;IIII)I"⟩
abbrev cL_length : ByteArray := method_19_code
def yL_length : MethodName := ⟨RL, "length", "(LOwnMemory;I[J)I"⟩
abbrev cL_unit : ByteArray := method_20_code
def yL_unit : MethodName := ⟨RL, "unit", "(LOwnMemory;II[J)I"⟩
abbrev cL_compare : ByteArray := method_21_code
def yL_compare : MethodName := ⟨RL, "compare", "(LOwnMemory;II[J)I"⟩
abbrev cL_name : ByteArray := method_22_code
def yL_name : MethodName := ⟨RL, "name", "(LOwnMemory;II)I"⟩
abbrev cL_stress : ByteArray := method_23_code
def yL_stress : MethodName := ⟨RL, "stress", "(LOwnMemory;I)I"⟩
abbrev cL_law : ByteArray := code
def yL_law : MethodName := ⟨RL, "law", "([I)Z"⟩
abbrev vwCl : List vw_C := [(RJ0, TJ0, 4), (RJ4, TJ4, 4), (RX0, TX0, 10), (RX1, TX1, 21)]
end
section
/-! combinators of the pure pictures: a choice, a check, a name, a call -/
noncomputable def cIf {α : Type} (c : Prop) (a b : α) : α := @ite α c (Classical.propDecidable c) a b
theorem cIf_t {α : Type} {c : Prop} {a b : α} (h : c) : cIf c a b = a := by unfold cIf; exact if_pos h
theorem cIf_f {α : Type} {c : Prop} {a b : α} (h : ¬ c) : cIf c a b = b := by unfold cIf; exact if_neg h
theorem cIf_te {α : Type} {c : Prop} {a b r : α} (h : c) (hg : cIf c a b = r) : a = r := (cIf_t h).symm.trans hg
theorem cIf_fe {α : Type} {c : Prop} {a b r : α} (h : ¬ c) (hg : cIf c a b = r) : b = r := (cIf_f h).symm.trans hg
noncomputable def ck {β : Type} (c : Prop) (k : Option β) : Option β := cIf c k none
theorem ck_t {β : Type} {c : Prop} {k : Option β} (h : c) : ck c k = k := cIf_t h
theorem ck_e {β : Type} {c : Prop} {k : Option β} {r : β} (hg : ck c k = some r) : c ∧ k = some r := by
  unfold ck at hg
  by_cases h : c
  · exact ⟨h, cIf_te h hg⟩
  · rw [cIf_f h] at hg; cases hg
def nmd {α β : Type} (a : α) (k : α → β) : β := k a
theorem nmd_e {α β : Type} {a : α} {k : α → β} {r : β} (hg : nmd a k = r) : ∃ x, x = a ∧ k x = r := ⟨a, rfl, hg⟩
/-- a call with an answer and a state -/
def bnd {α σ β : Type} (x : Option (α × σ)) (k : α → σ → Option β) : Option β := match x with
  | none => none
  | some (a, t) => k a t
theorem bnd_e {α σ β : Type} {x : Option (α × σ)} {k : α → σ → Option β} {r : β} (hg : bnd x k = some r) : ∃ a t, x = some (a, t) ∧ k a t = some r := by
  cases x with
  | none => cases hg
  | some q => exact ⟨q.1, q.2, rfl, hg⟩
/-- a call with an answer alone -/
def bnp {α β : Type} (x : Option α) (k : α → Option β) : Option β := match x with
  | none => none
  | some a => k a
theorem bnp_e {α β : Type} {x : Option α} {k : α → Option β} {r : β} (hg : bnp x k = some r) : ∃ a, x = some a ∧ k a = some r := by
  cases x with
  | none => cases hg
  | some q => exact ⟨q, rfl, hg⟩
theorem sm_e {α : Type} {a b : α} (h : some a = some b) : a = b := Option.some.inj h
theorem pr_e {α β : Type} {a c : α} {b d : β} (h : some (a, b) = some (c, d)) : a = c ∧ b = d := ⟨congrArg Prod.fst (Option.some.inj h), congrArg Prod.snd (Option.some.inj h)⟩
/-- the tables of the worlds: classes, and the array classes of ints, longs, booleans -/
abbrev gT : Type := va_G × ClassId × ClassId × ClassId
def gK (G : gT) (U : State) : Prop := va_K G.1 vwCl [(G.2.1, .int), (G.2.2.1, .long), (G.2.2.2, .boolean)] U
theorem gK.moved {G : gT} {u U : State} (hvm : u.vm.Alike U.vm) (h : gK G u) : gK G U := va_K.moved hvm h
theorem in_ws {a : Cond} {l ws : List Cond} : ∀ w ∈ ws, w ∈ a :: (l ++ ws) := fun _ h => List.mem_cons_of_mem _ (List.mem_append_right _ h)
end
section
/-! the world of OwnMemory: its fields, the rows of words, roots, names, pending -/
abbrev oS : Type := Int32 × Nat × (Nat → Int32) × Int32 × (Nat → Int32) × Nat × (Nat → Int32) × Int32 × (Nat → Int32) × Int32 × Int32 × Int32
def o_lim (σ : oS) : Int32 := σ.1
def o_lw (σ : oS) : Nat := σ.2.1
def o_fw (σ : oS) : Nat → Int32 := σ.2.2.1
def o_us (σ : oS) : Int32 := σ.2.2.2.1
def o_fr (σ : oS) : Nat → Int32 := σ.2.2.2.2.1
def o_ln (σ : oS) : Nat := σ.2.2.2.2.2.1
def o_fn (σ : oS) : Nat → Int32 := σ.2.2.2.2.2.2.1
def o_nc (σ : oS) : Int32 := σ.2.2.2.2.2.2.2.1
def o_fp (σ : oS) : Nat → Int32 := σ.2.2.2.2.2.2.2.2.1
def o_wt (σ : oS) : Int32 := σ.2.2.2.2.2.2.2.2.2.1
def o_st (σ : oS) : Int32 := σ.2.2.2.2.2.2.2.2.2.2.1
def o_md (σ : oS) : Int32 := σ.2.2.2.2.2.2.2.2.2.2.2
def o_s_lim (σ : oS) (x : Int32) : oS := (x, σ.2.1, σ.2.2.1, σ.2.2.2.1, σ.2.2.2.2.1, σ.2.2.2.2.2.1, σ.2.2.2.2.2.2.1, σ.2.2.2.2.2.2.2.1, σ.2.2.2.2.2.2.2.2.1, σ.2.2.2.2.2.2.2.2.2.1, σ.2.2.2.2.2.2.2.2.2.2.1, σ.2.2.2.2.2.2.2.2.2.2.2)
def o_s_lw (σ : oS) (x : Nat) : oS := (σ.1, x, σ.2.2.1, σ.2.2.2.1, σ.2.2.2.2.1, σ.2.2.2.2.2.1, σ.2.2.2.2.2.2.1, σ.2.2.2.2.2.2.2.1, σ.2.2.2.2.2.2.2.2.1, σ.2.2.2.2.2.2.2.2.2.1, σ.2.2.2.2.2.2.2.2.2.2.1, σ.2.2.2.2.2.2.2.2.2.2.2)
def o_s_fw (σ : oS) (x : Nat → Int32) : oS := (σ.1, σ.2.1, x, σ.2.2.2.1, σ.2.2.2.2.1, σ.2.2.2.2.2.1, σ.2.2.2.2.2.2.1, σ.2.2.2.2.2.2.2.1, σ.2.2.2.2.2.2.2.2.1, σ.2.2.2.2.2.2.2.2.2.1, σ.2.2.2.2.2.2.2.2.2.2.1, σ.2.2.2.2.2.2.2.2.2.2.2)
def o_s_us (σ : oS) (x : Int32) : oS := (σ.1, σ.2.1, σ.2.2.1, x, σ.2.2.2.2.1, σ.2.2.2.2.2.1, σ.2.2.2.2.2.2.1, σ.2.2.2.2.2.2.2.1, σ.2.2.2.2.2.2.2.2.1, σ.2.2.2.2.2.2.2.2.2.1, σ.2.2.2.2.2.2.2.2.2.2.1, σ.2.2.2.2.2.2.2.2.2.2.2)
def o_s_fr (σ : oS) (x : Nat → Int32) : oS := (σ.1, σ.2.1, σ.2.2.1, σ.2.2.2.1, x, σ.2.2.2.2.2.1, σ.2.2.2.2.2.2.1, σ.2.2.2.2.2.2.2.1, σ.2.2.2.2.2.2.2.2.1, σ.2.2.2.2.2.2.2.2.2.1, σ.2.2.2.2.2.2.2.2.2.2.1, σ.2.2.2.2.2.2.2.2.2.2.2)
def o_s_ln (σ : oS) (x : Nat) : oS := (σ.1, σ.2.1, σ.2.2.1, σ.2.2.2.1, σ.2.2.2.2.1, x, σ.2.2.2.2.2.2.1, σ.2.2.2.2.2.2.2.1, σ.2.2.2.2.2.2.2.2.1, σ.2.2.2.2.2.2.2.2.2.1, σ.2.2.2.2.2.2.2.2.2.2.1, σ.2.2.2.2.2.2.2.2.2.2.2)
def o_s_fn (σ : oS) (x : Nat → Int32) : oS := (σ.1, σ.2.1, σ.2.2.1, σ.2.2.2.1, σ.2.2.2.2.1, σ.2.2.2.2.2.1, x, σ.2.2.2.2.2.2.2.1, σ.2.2.2.2.2.2.2.2.1, σ.2.2.2.2.2.2.2.2.2.1, σ.2.2.2.2.2.2.2.2.2.2.1, σ.2.2.2.2.2.2.2.2.2.2.2)
def o_s_nc (σ : oS) (x : Int32) : oS := (σ.1, σ.2.1, σ.2.2.1, σ.2.2.2.1, σ.2.2.2.2.1, σ.2.2.2.2.2.1, σ.2.2.2.2.2.2.1, x, σ.2.2.2.2.2.2.2.2.1, σ.2.2.2.2.2.2.2.2.2.1, σ.2.2.2.2.2.2.2.2.2.2.1, σ.2.2.2.2.2.2.2.2.2.2.2)
def o_s_fp (σ : oS) (x : Nat → Int32) : oS := (σ.1, σ.2.1, σ.2.2.1, σ.2.2.2.1, σ.2.2.2.2.1, σ.2.2.2.2.2.1, σ.2.2.2.2.2.2.1, σ.2.2.2.2.2.2.2.1, x, σ.2.2.2.2.2.2.2.2.2.1, σ.2.2.2.2.2.2.2.2.2.2.1, σ.2.2.2.2.2.2.2.2.2.2.2)
def o_s_wt (σ : oS) (x : Int32) : oS := (σ.1, σ.2.1, σ.2.2.1, σ.2.2.2.1, σ.2.2.2.2.1, σ.2.2.2.2.2.1, σ.2.2.2.2.2.2.1, σ.2.2.2.2.2.2.2.1, σ.2.2.2.2.2.2.2.2.1, x, σ.2.2.2.2.2.2.2.2.2.2.1, σ.2.2.2.2.2.2.2.2.2.2.2)
def o_s_st (σ : oS) (x : Int32) : oS := (σ.1, σ.2.1, σ.2.2.1, σ.2.2.2.1, σ.2.2.2.2.1, σ.2.2.2.2.2.1, σ.2.2.2.2.2.2.1, σ.2.2.2.2.2.2.2.1, σ.2.2.2.2.2.2.2.2.1, σ.2.2.2.2.2.2.2.2.2.1, x, σ.2.2.2.2.2.2.2.2.2.2.2)
def o_s_md (σ : oS) (x : Int32) : oS := (σ.1, σ.2.1, σ.2.2.1, σ.2.2.2.1, σ.2.2.2.2.1, σ.2.2.2.2.2.1, σ.2.2.2.2.2.2.1, σ.2.2.2.2.2.2.2.1, σ.2.2.2.2.2.2.2.2.1, σ.2.2.2.2.2.2.2.2.2.1, σ.2.2.2.2.2.2.2.2.2.2.1, x)
theorem o_gs_lim_lim (σ : oS) (x : Int32) : o_lim (o_s_lim σ x) = x := rfl
theorem o_gs_lw_lim (σ : oS) (x : Int32) : o_lw (o_s_lim σ x) = o_lw σ := rfl
theorem o_gs_fw_lim (σ : oS) (x : Int32) : o_fw (o_s_lim σ x) = o_fw σ := rfl
theorem o_gs_us_lim (σ : oS) (x : Int32) : o_us (o_s_lim σ x) = o_us σ := rfl
theorem o_gs_fr_lim (σ : oS) (x : Int32) : o_fr (o_s_lim σ x) = o_fr σ := rfl
theorem o_gs_ln_lim (σ : oS) (x : Int32) : o_ln (o_s_lim σ x) = o_ln σ := rfl
theorem o_gs_fn_lim (σ : oS) (x : Int32) : o_fn (o_s_lim σ x) = o_fn σ := rfl
theorem o_gs_nc_lim (σ : oS) (x : Int32) : o_nc (o_s_lim σ x) = o_nc σ := rfl
theorem o_gs_fp_lim (σ : oS) (x : Int32) : o_fp (o_s_lim σ x) = o_fp σ := rfl
theorem o_gs_wt_lim (σ : oS) (x : Int32) : o_wt (o_s_lim σ x) = o_wt σ := rfl
theorem o_gs_st_lim (σ : oS) (x : Int32) : o_st (o_s_lim σ x) = o_st σ := rfl
theorem o_gs_md_lim (σ : oS) (x : Int32) : o_md (o_s_lim σ x) = o_md σ := rfl
theorem o_gs_lim_lw (σ : oS) (x : Nat) : o_lim (o_s_lw σ x) = o_lim σ := rfl
theorem o_gs_lw_lw (σ : oS) (x : Nat) : o_lw (o_s_lw σ x) = x := rfl
theorem o_gs_fw_lw (σ : oS) (x : Nat) : o_fw (o_s_lw σ x) = o_fw σ := rfl
theorem o_gs_us_lw (σ : oS) (x : Nat) : o_us (o_s_lw σ x) = o_us σ := rfl
theorem o_gs_fr_lw (σ : oS) (x : Nat) : o_fr (o_s_lw σ x) = o_fr σ := rfl
theorem o_gs_ln_lw (σ : oS) (x : Nat) : o_ln (o_s_lw σ x) = o_ln σ := rfl
theorem o_gs_fn_lw (σ : oS) (x : Nat) : o_fn (o_s_lw σ x) = o_fn σ := rfl
theorem o_gs_nc_lw (σ : oS) (x : Nat) : o_nc (o_s_lw σ x) = o_nc σ := rfl
theorem o_gs_fp_lw (σ : oS) (x : Nat) : o_fp (o_s_lw σ x) = o_fp σ := rfl
theorem o_gs_wt_lw (σ : oS) (x : Nat) : o_wt (o_s_lw σ x) = o_wt σ := rfl
theorem o_gs_st_lw (σ : oS) (x : Nat) : o_st (o_s_lw σ x) = o_st σ := rfl
theorem o_gs_md_lw (σ : oS) (x : Nat) : o_md (o_s_lw σ x) = o_md σ := rfl
theorem o_gs_lim_fw (σ : oS) (x : Nat → Int32) : o_lim (o_s_fw σ x) = o_lim σ := rfl
theorem o_gs_lw_fw (σ : oS) (x : Nat → Int32) : o_lw (o_s_fw σ x) = o_lw σ := rfl
theorem o_gs_fw_fw (σ : oS) (x : Nat → Int32) : o_fw (o_s_fw σ x) = x := rfl
theorem o_gs_us_fw (σ : oS) (x : Nat → Int32) : o_us (o_s_fw σ x) = o_us σ := rfl
theorem o_gs_fr_fw (σ : oS) (x : Nat → Int32) : o_fr (o_s_fw σ x) = o_fr σ := rfl
theorem o_gs_ln_fw (σ : oS) (x : Nat → Int32) : o_ln (o_s_fw σ x) = o_ln σ := rfl
theorem o_gs_fn_fw (σ : oS) (x : Nat → Int32) : o_fn (o_s_fw σ x) = o_fn σ := rfl
theorem o_gs_nc_fw (σ : oS) (x : Nat → Int32) : o_nc (o_s_fw σ x) = o_nc σ := rfl
theorem o_gs_fp_fw (σ : oS) (x : Nat → Int32) : o_fp (o_s_fw σ x) = o_fp σ := rfl
theorem o_gs_wt_fw (σ : oS) (x : Nat → Int32) : o_wt (o_s_fw σ x) = o_wt σ := rfl
theorem o_gs_st_fw (σ : oS) (x : Nat → Int32) : o_st (o_s_fw σ x) = o_st σ := rfl
theorem o_gs_md_fw (σ : oS) (x : Nat → Int32) : o_md (o_s_fw σ x) = o_md σ := rfl
theorem o_gs_lim_us (σ : oS) (x : Int32) : o_lim (o_s_us σ x) = o_lim σ := rfl
theorem o_gs_lw_us (σ : oS) (x : Int32) : o_lw (o_s_us σ x) = o_lw σ := rfl
theorem o_gs_fw_us (σ : oS) (x : Int32) : o_fw (o_s_us σ x) = o_fw σ := rfl
theorem o_gs_us_us (σ : oS) (x : Int32) : o_us (o_s_us σ x) = x := rfl
theorem o_gs_fr_us (σ : oS) (x : Int32) : o_fr (o_s_us σ x) = o_fr σ := rfl
theorem o_gs_ln_us (σ : oS) (x : Int32) : o_ln (o_s_us σ x) = o_ln σ := rfl
theorem o_gs_fn_us (σ : oS) (x : Int32) : o_fn (o_s_us σ x) = o_fn σ := rfl
theorem o_gs_nc_us (σ : oS) (x : Int32) : o_nc (o_s_us σ x) = o_nc σ := rfl
theorem o_gs_fp_us (σ : oS) (x : Int32) : o_fp (o_s_us σ x) = o_fp σ := rfl
theorem o_gs_wt_us (σ : oS) (x : Int32) : o_wt (o_s_us σ x) = o_wt σ := rfl
theorem o_gs_st_us (σ : oS) (x : Int32) : o_st (o_s_us σ x) = o_st σ := rfl
theorem o_gs_md_us (σ : oS) (x : Int32) : o_md (o_s_us σ x) = o_md σ := rfl
theorem o_gs_lim_fr (σ : oS) (x : Nat → Int32) : o_lim (o_s_fr σ x) = o_lim σ := rfl
theorem o_gs_lw_fr (σ : oS) (x : Nat → Int32) : o_lw (o_s_fr σ x) = o_lw σ := rfl
theorem o_gs_fw_fr (σ : oS) (x : Nat → Int32) : o_fw (o_s_fr σ x) = o_fw σ := rfl
theorem o_gs_us_fr (σ : oS) (x : Nat → Int32) : o_us (o_s_fr σ x) = o_us σ := rfl
theorem o_gs_fr_fr (σ : oS) (x : Nat → Int32) : o_fr (o_s_fr σ x) = x := rfl
theorem o_gs_ln_fr (σ : oS) (x : Nat → Int32) : o_ln (o_s_fr σ x) = o_ln σ := rfl
theorem o_gs_fn_fr (σ : oS) (x : Nat → Int32) : o_fn (o_s_fr σ x) = o_fn σ := rfl
theorem o_gs_nc_fr (σ : oS) (x : Nat → Int32) : o_nc (o_s_fr σ x) = o_nc σ := rfl
theorem o_gs_fp_fr (σ : oS) (x : Nat → Int32) : o_fp (o_s_fr σ x) = o_fp σ := rfl
theorem o_gs_wt_fr (σ : oS) (x : Nat → Int32) : o_wt (o_s_fr σ x) = o_wt σ := rfl
theorem o_gs_st_fr (σ : oS) (x : Nat → Int32) : o_st (o_s_fr σ x) = o_st σ := rfl
theorem o_gs_md_fr (σ : oS) (x : Nat → Int32) : o_md (o_s_fr σ x) = o_md σ := rfl
theorem o_gs_lim_ln (σ : oS) (x : Nat) : o_lim (o_s_ln σ x) = o_lim σ := rfl
theorem o_gs_lw_ln (σ : oS) (x : Nat) : o_lw (o_s_ln σ x) = o_lw σ := rfl
theorem o_gs_fw_ln (σ : oS) (x : Nat) : o_fw (o_s_ln σ x) = o_fw σ := rfl
theorem o_gs_us_ln (σ : oS) (x : Nat) : o_us (o_s_ln σ x) = o_us σ := rfl
theorem o_gs_fr_ln (σ : oS) (x : Nat) : o_fr (o_s_ln σ x) = o_fr σ := rfl
theorem o_gs_ln_ln (σ : oS) (x : Nat) : o_ln (o_s_ln σ x) = x := rfl
theorem o_gs_fn_ln (σ : oS) (x : Nat) : o_fn (o_s_ln σ x) = o_fn σ := rfl
theorem o_gs_nc_ln (σ : oS) (x : Nat) : o_nc (o_s_ln σ x) = o_nc σ := rfl
theorem o_gs_fp_ln (σ : oS) (x : Nat) : o_fp (o_s_ln σ x) = o_fp σ := rfl
theorem o_gs_wt_ln (σ : oS) (x : Nat) : o_wt (o_s_ln σ x) = o_wt σ := rfl
theorem o_gs_st_ln (σ : oS) (x : Nat) : o_st (o_s_ln σ x) = o_st σ := rfl
theorem o_gs_md_ln (σ : oS) (x : Nat) : o_md (o_s_ln σ x) = o_md σ := rfl
theorem o_gs_lim_fn (σ : oS) (x : Nat → Int32) : o_lim (o_s_fn σ x) = o_lim σ := rfl
theorem o_gs_lw_fn (σ : oS) (x : Nat → Int32) : o_lw (o_s_fn σ x) = o_lw σ := rfl
theorem o_gs_fw_fn (σ : oS) (x : Nat → Int32) : o_fw (o_s_fn σ x) = o_fw σ := rfl
theorem o_gs_us_fn (σ : oS) (x : Nat → Int32) : o_us (o_s_fn σ x) = o_us σ := rfl
theorem o_gs_fr_fn (σ : oS) (x : Nat → Int32) : o_fr (o_s_fn σ x) = o_fr σ := rfl
theorem o_gs_ln_fn (σ : oS) (x : Nat → Int32) : o_ln (o_s_fn σ x) = o_ln σ := rfl
theorem o_gs_fn_fn (σ : oS) (x : Nat → Int32) : o_fn (o_s_fn σ x) = x := rfl
theorem o_gs_nc_fn (σ : oS) (x : Nat → Int32) : o_nc (o_s_fn σ x) = o_nc σ := rfl
theorem o_gs_fp_fn (σ : oS) (x : Nat → Int32) : o_fp (o_s_fn σ x) = o_fp σ := rfl
theorem o_gs_wt_fn (σ : oS) (x : Nat → Int32) : o_wt (o_s_fn σ x) = o_wt σ := rfl
theorem o_gs_st_fn (σ : oS) (x : Nat → Int32) : o_st (o_s_fn σ x) = o_st σ := rfl
theorem o_gs_md_fn (σ : oS) (x : Nat → Int32) : o_md (o_s_fn σ x) = o_md σ := rfl
theorem o_gs_lim_nc (σ : oS) (x : Int32) : o_lim (o_s_nc σ x) = o_lim σ := rfl
theorem o_gs_lw_nc (σ : oS) (x : Int32) : o_lw (o_s_nc σ x) = o_lw σ := rfl
theorem o_gs_fw_nc (σ : oS) (x : Int32) : o_fw (o_s_nc σ x) = o_fw σ := rfl
theorem o_gs_us_nc (σ : oS) (x : Int32) : o_us (o_s_nc σ x) = o_us σ := rfl
theorem o_gs_fr_nc (σ : oS) (x : Int32) : o_fr (o_s_nc σ x) = o_fr σ := rfl
theorem o_gs_ln_nc (σ : oS) (x : Int32) : o_ln (o_s_nc σ x) = o_ln σ := rfl
theorem o_gs_fn_nc (σ : oS) (x : Int32) : o_fn (o_s_nc σ x) = o_fn σ := rfl
theorem o_gs_nc_nc (σ : oS) (x : Int32) : o_nc (o_s_nc σ x) = x := rfl
theorem o_gs_fp_nc (σ : oS) (x : Int32) : o_fp (o_s_nc σ x) = o_fp σ := rfl
theorem o_gs_wt_nc (σ : oS) (x : Int32) : o_wt (o_s_nc σ x) = o_wt σ := rfl
theorem o_gs_st_nc (σ : oS) (x : Int32) : o_st (o_s_nc σ x) = o_st σ := rfl
theorem o_gs_md_nc (σ : oS) (x : Int32) : o_md (o_s_nc σ x) = o_md σ := rfl
theorem o_gs_lim_fp (σ : oS) (x : Nat → Int32) : o_lim (o_s_fp σ x) = o_lim σ := rfl
theorem o_gs_lw_fp (σ : oS) (x : Nat → Int32) : o_lw (o_s_fp σ x) = o_lw σ := rfl
theorem o_gs_fw_fp (σ : oS) (x : Nat → Int32) : o_fw (o_s_fp σ x) = o_fw σ := rfl
theorem o_gs_us_fp (σ : oS) (x : Nat → Int32) : o_us (o_s_fp σ x) = o_us σ := rfl
theorem o_gs_fr_fp (σ : oS) (x : Nat → Int32) : o_fr (o_s_fp σ x) = o_fr σ := rfl
theorem o_gs_ln_fp (σ : oS) (x : Nat → Int32) : o_ln (o_s_fp σ x) = o_ln σ := rfl
theorem o_gs_fn_fp (σ : oS) (x : Nat → Int32) : o_fn (o_s_fp σ x) = o_fn σ := rfl
theorem o_gs_nc_fp (σ : oS) (x : Nat → Int32) : o_nc (o_s_fp σ x) = o_nc σ := rfl
theorem o_gs_fp_fp (σ : oS) (x : Nat → Int32) : o_fp (o_s_fp σ x) = x := rfl
theorem o_gs_wt_fp (σ : oS) (x : Nat → Int32) : o_wt (o_s_fp σ x) = o_wt σ := rfl
theorem o_gs_st_fp (σ : oS) (x : Nat → Int32) : o_st (o_s_fp σ x) = o_st σ := rfl
theorem o_gs_md_fp (σ : oS) (x : Nat → Int32) : o_md (o_s_fp σ x) = o_md σ := rfl
theorem o_gs_lim_wt (σ : oS) (x : Int32) : o_lim (o_s_wt σ x) = o_lim σ := rfl
theorem o_gs_lw_wt (σ : oS) (x : Int32) : o_lw (o_s_wt σ x) = o_lw σ := rfl
theorem o_gs_fw_wt (σ : oS) (x : Int32) : o_fw (o_s_wt σ x) = o_fw σ := rfl
theorem o_gs_us_wt (σ : oS) (x : Int32) : o_us (o_s_wt σ x) = o_us σ := rfl
theorem o_gs_fr_wt (σ : oS) (x : Int32) : o_fr (o_s_wt σ x) = o_fr σ := rfl
theorem o_gs_ln_wt (σ : oS) (x : Int32) : o_ln (o_s_wt σ x) = o_ln σ := rfl
theorem o_gs_fn_wt (σ : oS) (x : Int32) : o_fn (o_s_wt σ x) = o_fn σ := rfl
theorem o_gs_nc_wt (σ : oS) (x : Int32) : o_nc (o_s_wt σ x) = o_nc σ := rfl
theorem o_gs_fp_wt (σ : oS) (x : Int32) : o_fp (o_s_wt σ x) = o_fp σ := rfl
theorem o_gs_wt_wt (σ : oS) (x : Int32) : o_wt (o_s_wt σ x) = x := rfl
theorem o_gs_st_wt (σ : oS) (x : Int32) : o_st (o_s_wt σ x) = o_st σ := rfl
theorem o_gs_md_wt (σ : oS) (x : Int32) : o_md (o_s_wt σ x) = o_md σ := rfl
theorem o_gs_lim_st (σ : oS) (x : Int32) : o_lim (o_s_st σ x) = o_lim σ := rfl
theorem o_gs_lw_st (σ : oS) (x : Int32) : o_lw (o_s_st σ x) = o_lw σ := rfl
theorem o_gs_fw_st (σ : oS) (x : Int32) : o_fw (o_s_st σ x) = o_fw σ := rfl
theorem o_gs_us_st (σ : oS) (x : Int32) : o_us (o_s_st σ x) = o_us σ := rfl
theorem o_gs_fr_st (σ : oS) (x : Int32) : o_fr (o_s_st σ x) = o_fr σ := rfl
theorem o_gs_ln_st (σ : oS) (x : Int32) : o_ln (o_s_st σ x) = o_ln σ := rfl
theorem o_gs_fn_st (σ : oS) (x : Int32) : o_fn (o_s_st σ x) = o_fn σ := rfl
theorem o_gs_nc_st (σ : oS) (x : Int32) : o_nc (o_s_st σ x) = o_nc σ := rfl
theorem o_gs_fp_st (σ : oS) (x : Int32) : o_fp (o_s_st σ x) = o_fp σ := rfl
theorem o_gs_wt_st (σ : oS) (x : Int32) : o_wt (o_s_st σ x) = o_wt σ := rfl
theorem o_gs_st_st (σ : oS) (x : Int32) : o_st (o_s_st σ x) = x := rfl
theorem o_gs_md_st (σ : oS) (x : Int32) : o_md (o_s_st σ x) = o_md σ := rfl
theorem o_gs_lim_md (σ : oS) (x : Int32) : o_lim (o_s_md σ x) = o_lim σ := rfl
theorem o_gs_lw_md (σ : oS) (x : Int32) : o_lw (o_s_md σ x) = o_lw σ := rfl
theorem o_gs_fw_md (σ : oS) (x : Int32) : o_fw (o_s_md σ x) = o_fw σ := rfl
theorem o_gs_us_md (σ : oS) (x : Int32) : o_us (o_s_md σ x) = o_us σ := rfl
theorem o_gs_fr_md (σ : oS) (x : Int32) : o_fr (o_s_md σ x) = o_fr σ := rfl
theorem o_gs_ln_md (σ : oS) (x : Int32) : o_ln (o_s_md σ x) = o_ln σ := rfl
theorem o_gs_fn_md (σ : oS) (x : Int32) : o_fn (o_s_md σ x) = o_fn σ := rfl
theorem o_gs_nc_md (σ : oS) (x : Int32) : o_nc (o_s_md σ x) = o_nc σ := rfl
theorem o_gs_fp_md (σ : oS) (x : Int32) : o_fp (o_s_md σ x) = o_fp σ := rfl
theorem o_gs_wt_md (σ : oS) (x : Int32) : o_wt (o_s_md σ x) = o_wt σ := rfl
theorem o_gs_st_md (σ : oS) (x : Int32) : o_st (o_s_md σ x) = o_st σ := rfl
theorem o_gs_md_md (σ : oS) (x : Int32) : o_md (o_s_md σ x) = x := rfl
abbrev oH : Type := Nat × Nat × Nat × Nat
def ow (G : gT) (h0 : Nat) (h : oH) (σ : oS) : va_W := [(h0, .inr (2, [.int (o_lim σ), .ref h.1, .int (o_us σ), .ref h.2.1, .ref h.2.2.1, .int (o_nc σ), .ref h.2.2.2, .int (o_wt σ), .int (o_st σ), .int (o_md σ)])), (h.1, .inl (G.2.1, o_lw σ, .inl (o_fw σ))), (h.2.1, .inl (G.2.1, 24, .inl (o_fr σ))), (h.2.2.1, .inl (G.2.1, o_ln σ, .inl (o_fn σ))), (h.2.2.2, .inl (G.2.1, 4000, .inl (o_fp σ)))]
/-- the world at a heap, where it lies, what was changed since the method began -/
def oI (s : State) (A : Nat → Prop) (G : gT) (h0 : Nat) (h : oH) (σ : oS) (H : Heap) (locs : List Loc) : Prop := va_P G.1 vwCl (ow G h0 h σ) H ∧ va_D A (ow G h0 h σ) ∧ va_S A s.heap H locs
def oAt (G : gT) (A : Nat → Prop) (h0 : Nat) (h : oH) (σ : oS) (t : State) : Prop := va_P G.1 vwCl (ow G h0 h σ) t.heap ∧ gK G t ∧ va_D A (ow G h0 h σ)
def oPre (G : gT) (h0 : Nat) (h : oH) (σ : oS) (sz : Nat) (av : List Value) : Array Value → State → Prop := va_Pc (.ref h0 :: av) (fun U => U.heap.size = sz ∧ va_P G.1 vwCl (ow G h0 h σ) U.heap ∧ gK G U ∧ va_D (fun _ => True) (ow G h0 h σ))
def oA (G : gT) (h0 : Nat) (h : oH) (σ : oS) (sz : Nat) : Nat → Prop := va_A (ow G h0 h σ) sz
section OW
variable {p : Program} {l : Launch} {e : Env} {R : Room} {s : State} {m : MethodId} {args : Array Value} {below : List Frame} {meth : Method} {c : Code} {H : Heap} {locs : List Loc} {cells slots : Nat} {Q : State → Prop}
variable {cc : ByteArray} {pc : Nat} {ls : Array Slot} {rest : List Value} {A : Nat → Prop} {G : gT} {h0 : Nat} {nL : Nat} {Ts : List Cond}
variable {h : oH} {σ : oS}
theorem og_limit (S : CallFix p m c cc nL s args Ts RX0) (hin : ∀ w ∈ wsX00, w ∈ Ts) (hK : gK G s) (hI : oI s A G h0 h σ H locs) {ix : Nat} (hm : Cond.fieldLink RX0 ix "OwnMemory" "limit" "I" ∈ Ts) (hdg : decode cc pc = .ok (.getfield ix, 3)) (kk : W p l e R s m args below meth c H locs cells slots Q (F0 m (pc + 3) ls (.int (o_lim σ) :: rest))) : W p l e R s m args below meth c H locs cells slots Q (F0 m pc ls (.ref h0 :: rest)) :=
  va_get (D := G.1) (ci := 2) (v := .int (o_lim σ)) (C := RX0) (T := TX0) (N := 10) S.1 S.2.1 S.2.2.2.2 hin S.2.2.2.1 hK hI.1 0 rfl rfl 0 (by decide) (S.2.2.2.2 _ hm) (fun _ h9 => h9) rfl hdg kk
theorem og_words (S : CallFix p m c cc nL s args Ts RX0) (hin : ∀ w ∈ wsX00, w ∈ Ts) (hK : gK G s) (hI : oI s A G h0 h σ H locs) {ix : Nat} (hm : Cond.fieldLink RX0 ix "OwnMemory" "words" "[I" ∈ Ts) (hdg : decode cc pc = .ok (.getfield ix, 3)) (kk : W p l e R s m args below meth c H locs cells slots Q (F0 m (pc + 3) ls (.ref h.1 :: rest))) : W p l e R s m args below meth c H locs cells slots Q (F0 m pc ls (.ref h0 :: rest)) :=
  va_get (D := G.1) (ci := 2) (v := .ref h.1) (C := RX0) (T := TX0) (N := 10) S.1 S.2.1 S.2.2.2.2 hin S.2.2.2.1 hK hI.1 0 rfl rfl 1 (by decide) (S.2.2.2.2 _ hm) (fun _ h9 => h9) rfl hdg kk
theorem og_used (S : CallFix p m c cc nL s args Ts RX0) (hin : ∀ w ∈ wsX00, w ∈ Ts) (hK : gK G s) (hI : oI s A G h0 h σ H locs) {ix : Nat} (hm : Cond.fieldLink RX0 ix "OwnMemory" "used" "I" ∈ Ts) (hdg : decode cc pc = .ok (.getfield ix, 3)) (kk : W p l e R s m args below meth c H locs cells slots Q (F0 m (pc + 3) ls (.int (o_us σ) :: rest))) : W p l e R s m args below meth c H locs cells slots Q (F0 m pc ls (.ref h0 :: rest)) :=
  va_get (D := G.1) (ci := 2) (v := .int (o_us σ)) (C := RX0) (T := TX0) (N := 10) S.1 S.2.1 S.2.2.2.2 hin S.2.2.2.1 hK hI.1 0 rfl rfl 2 (by decide) (S.2.2.2.2 _ hm) (fun _ h9 => h9) rfl hdg kk
theorem op_used (S : CallFix p m c cc nL s args Ts RX0) (hin : ∀ w ∈ wsX00, w ∈ Ts) (hK : gK G s) (hI : oI s A G h0 h σ H locs) {ix : Nat} {x : Int32} {σ1 : oS} (hm : Cond.fieldLink RX0 ix "OwnMemory" "used" "I" ∈ Ts) (h1 : σ1 = o_s_us σ x) (hdg : decode cc pc = .ok (.putfield ix, 3)) (kk : ∀ (H1 : Heap) (locs1 : List Loc), oI s A G h0 h σ1 H1 locs1 → W p l e R s m args below meth c H1 locs1 cells slots Q (F0 m (pc + 3) ls rest)) : W p l e R s m args below meth c H locs cells slots Q (F0 m pc ls (.int x :: .ref h0 :: rest)) := by
  subst h1
  exact va_put (D := G.1) (ci := 2) (v := .int x) (ty := .int) (C := RX0) (T := TX0) (N := 10) S.1 S.2.1 S.2.2.2.2 hin tyX0 tyX0_ok nmX0 S.2.2.2.1 hK hI.1 hI.2.1 hI.2.2 0 rfl rfl 2 (by decide) (S.2.2.2.2 _ hm) (fun _ h9 => h9) rfl (by decide +kernel) rfl rfl (Nat.le_of_ble_eq_true rfl) hdg (fun H locs hP hD hS => kk H locs ⟨hP, hD, hS⟩)
theorem og_roots (S : CallFix p m c cc nL s args Ts RX0) (hin : ∀ w ∈ wsX00, w ∈ Ts) (hK : gK G s) (hI : oI s A G h0 h σ H locs) {ix : Nat} (hm : Cond.fieldLink RX0 ix "OwnMemory" "roots" "[I" ∈ Ts) (hdg : decode cc pc = .ok (.getfield ix, 3)) (kk : W p l e R s m args below meth c H locs cells slots Q (F0 m (pc + 3) ls (.ref h.2.1 :: rest))) : W p l e R s m args below meth c H locs cells slots Q (F0 m pc ls (.ref h0 :: rest)) :=
  va_get (D := G.1) (ci := 2) (v := .ref h.2.1) (C := RX0) (T := TX0) (N := 10) S.1 S.2.1 S.2.2.2.2 hin S.2.2.2.1 hK hI.1 0 rfl rfl 3 (by decide) (S.2.2.2.2 _ hm) (fun _ h9 => h9) rfl hdg kk
theorem og_names (S : CallFix p m c cc nL s args Ts RX0) (hin : ∀ w ∈ wsX00, w ∈ Ts) (hK : gK G s) (hI : oI s A G h0 h σ H locs) {ix : Nat} (hm : Cond.fieldLink RX0 ix "OwnMemory" "names" "[I" ∈ Ts) (hdg : decode cc pc = .ok (.getfield ix, 3)) (kk : W p l e R s m args below meth c H locs cells slots Q (F0 m (pc + 3) ls (.ref h.2.2.1 :: rest))) : W p l e R s m args below meth c H locs cells slots Q (F0 m pc ls (.ref h0 :: rest)) :=
  va_get (D := G.1) (ci := 2) (v := .ref h.2.2.1) (C := RX0) (T := TX0) (N := 10) S.1 S.2.1 S.2.2.2.2 hin S.2.2.2.1 hK hI.1 0 rfl rfl 4 (by decide) (S.2.2.2.2 _ hm) (fun _ h9 => h9) rfl hdg kk
theorem og_nameCount (S : CallFix p m c cc nL s args Ts RX0) (hin : ∀ w ∈ wsX00, w ∈ Ts) (hK : gK G s) (hI : oI s A G h0 h σ H locs) {ix : Nat} (hm : Cond.fieldLink RX0 ix "OwnMemory" "nameCount" "I" ∈ Ts) (hdg : decode cc pc = .ok (.getfield ix, 3)) (kk : W p l e R s m args below meth c H locs cells slots Q (F0 m (pc + 3) ls (.int (o_nc σ) :: rest))) : W p l e R s m args below meth c H locs cells slots Q (F0 m pc ls (.ref h0 :: rest)) :=
  va_get (D := G.1) (ci := 2) (v := .int (o_nc σ)) (C := RX0) (T := TX0) (N := 10) S.1 S.2.1 S.2.2.2.2 hin S.2.2.2.1 hK hI.1 0 rfl rfl 5 (by decide) (S.2.2.2.2 _ hm) (fun _ h9 => h9) rfl hdg kk
theorem op_nameCount (S : CallFix p m c cc nL s args Ts RX0) (hin : ∀ w ∈ wsX00, w ∈ Ts) (hK : gK G s) (hI : oI s A G h0 h σ H locs) {ix : Nat} {x : Int32} {σ1 : oS} (hm : Cond.fieldLink RX0 ix "OwnMemory" "nameCount" "I" ∈ Ts) (h1 : σ1 = o_s_nc σ x) (hdg : decode cc pc = .ok (.putfield ix, 3)) (kk : ∀ (H1 : Heap) (locs1 : List Loc), oI s A G h0 h σ1 H1 locs1 → W p l e R s m args below meth c H1 locs1 cells slots Q (F0 m (pc + 3) ls rest)) : W p l e R s m args below meth c H locs cells slots Q (F0 m pc ls (.int x :: .ref h0 :: rest)) := by
  subst h1
  exact va_put (D := G.1) (ci := 2) (v := .int x) (ty := .int) (C := RX0) (T := TX0) (N := 10) S.1 S.2.1 S.2.2.2.2 hin tyX0 tyX0_ok nmX0 S.2.2.2.1 hK hI.1 hI.2.1 hI.2.2 0 rfl rfl 5 (by decide) (S.2.2.2.2 _ hm) (fun _ h9 => h9) rfl (by decide +kernel) rfl rfl (Nat.le_of_ble_eq_true rfl) hdg (fun H locs hP hD hS => kk H locs ⟨hP, hD, hS⟩)
theorem og_pending (S : CallFix p m c cc nL s args Ts RX0) (hin : ∀ w ∈ wsX00, w ∈ Ts) (hK : gK G s) (hI : oI s A G h0 h σ H locs) {ix : Nat} (hm : Cond.fieldLink RX0 ix "OwnMemory" "pending" "[I" ∈ Ts) (hdg : decode cc pc = .ok (.getfield ix, 3)) (kk : W p l e R s m args below meth c H locs cells slots Q (F0 m (pc + 3) ls (.ref h.2.2.2 :: rest))) : W p l e R s m args below meth c H locs cells slots Q (F0 m pc ls (.ref h0 :: rest)) :=
  va_get (D := G.1) (ci := 2) (v := .ref h.2.2.2) (C := RX0) (T := TX0) (N := 10) S.1 S.2.1 S.2.2.2.2 hin S.2.2.2.1 hK hI.1 0 rfl rfl 6 (by decide) (S.2.2.2.2 _ hm) (fun _ h9 => h9) rfl hdg kk
theorem og_waiting (S : CallFix p m c cc nL s args Ts RX0) (hin : ∀ w ∈ wsX00, w ∈ Ts) (hK : gK G s) (hI : oI s A G h0 h σ H locs) {ix : Nat} (hm : Cond.fieldLink RX0 ix "OwnMemory" "waiting" "I" ∈ Ts) (hdg : decode cc pc = .ok (.getfield ix, 3)) (kk : W p l e R s m args below meth c H locs cells slots Q (F0 m (pc + 3) ls (.int (o_wt σ) :: rest))) : W p l e R s m args below meth c H locs cells slots Q (F0 m pc ls (.ref h0 :: rest)) :=
  va_get (D := G.1) (ci := 2) (v := .int (o_wt σ)) (C := RX0) (T := TX0) (N := 10) S.1 S.2.1 S.2.2.2.2 hin S.2.2.2.1 hK hI.1 0 rfl rfl 7 (by decide) (S.2.2.2.2 _ hm) (fun _ h9 => h9) rfl hdg kk
theorem op_waiting (S : CallFix p m c cc nL s args Ts RX0) (hin : ∀ w ∈ wsX00, w ∈ Ts) (hK : gK G s) (hI : oI s A G h0 h σ H locs) {ix : Nat} {x : Int32} {σ1 : oS} (hm : Cond.fieldLink RX0 ix "OwnMemory" "waiting" "I" ∈ Ts) (h1 : σ1 = o_s_wt σ x) (hdg : decode cc pc = .ok (.putfield ix, 3)) (kk : ∀ (H1 : Heap) (locs1 : List Loc), oI s A G h0 h σ1 H1 locs1 → W p l e R s m args below meth c H1 locs1 cells slots Q (F0 m (pc + 3) ls rest)) : W p l e R s m args below meth c H locs cells slots Q (F0 m pc ls (.int x :: .ref h0 :: rest)) := by
  subst h1
  exact va_put (D := G.1) (ci := 2) (v := .int x) (ty := .int) (C := RX0) (T := TX0) (N := 10) S.1 S.2.1 S.2.2.2.2 hin tyX0 tyX0_ok nmX0 S.2.2.2.1 hK hI.1 hI.2.1 hI.2.2 0 rfl rfl 7 (by decide) (S.2.2.2.2 _ hm) (fun _ h9 => h9) rfl (by decide +kernel) rfl rfl (Nat.le_of_ble_eq_true rfl) hdg (fun H locs hP hD hS => kk H locs ⟨hP, hD, hS⟩)
theorem og_stressEvery (S : CallFix p m c cc nL s args Ts RX0) (hin : ∀ w ∈ wsX00, w ∈ Ts) (hK : gK G s) (hI : oI s A G h0 h σ H locs) {ix : Nat} (hm : Cond.fieldLink RX0 ix "OwnMemory" "stressEvery" "I" ∈ Ts) (hdg : decode cc pc = .ok (.getfield ix, 3)) (kk : W p l e R s m args below meth c H locs cells slots Q (F0 m (pc + 3) ls (.int (o_st σ) :: rest))) : W p l e R s m args below meth c H locs cells slots Q (F0 m pc ls (.ref h0 :: rest)) :=
  va_get (D := G.1) (ci := 2) (v := .int (o_st σ)) (C := RX0) (T := TX0) (N := 10) S.1 S.2.1 S.2.2.2.2 hin S.2.2.2.1 hK hI.1 0 rfl rfl 8 (by decide) (S.2.2.2.2 _ hm) (fun _ h9 => h9) rfl hdg kk
theorem op_stressEvery (S : CallFix p m c cc nL s args Ts RX0) (hin : ∀ w ∈ wsX00, w ∈ Ts) (hK : gK G s) (hI : oI s A G h0 h σ H locs) {ix : Nat} {x : Int32} {σ1 : oS} (hm : Cond.fieldLink RX0 ix "OwnMemory" "stressEvery" "I" ∈ Ts) (h1 : σ1 = o_s_st σ x) (hdg : decode cc pc = .ok (.putfield ix, 3)) (kk : ∀ (H1 : Heap) (locs1 : List Loc), oI s A G h0 h σ1 H1 locs1 → W p l e R s m args below meth c H1 locs1 cells slots Q (F0 m (pc + 3) ls rest)) : W p l e R s m args below meth c H locs cells slots Q (F0 m pc ls (.int x :: .ref h0 :: rest)) := by
  subst h1
  exact va_put (D := G.1) (ci := 2) (v := .int x) (ty := .int) (C := RX0) (T := TX0) (N := 10) S.1 S.2.1 S.2.2.2.2 hin tyX0 tyX0_ok nmX0 S.2.2.2.1 hK hI.1 hI.2.1 hI.2.2 0 rfl rfl 8 (by decide) (S.2.2.2.2 _ hm) (fun _ h9 => h9) rfl (by decide +kernel) rfl rfl (Nat.le_of_ble_eq_true rfl) hdg (fun H locs hP hD hS => kk H locs ⟨hP, hD, hS⟩)
theorem og_made (S : CallFix p m c cc nL s args Ts RX0) (hin : ∀ w ∈ wsX00, w ∈ Ts) (hK : gK G s) (hI : oI s A G h0 h σ H locs) {ix : Nat} (hm : Cond.fieldLink RX0 ix "OwnMemory" "made" "I" ∈ Ts) (hdg : decode cc pc = .ok (.getfield ix, 3)) (kk : W p l e R s m args below meth c H locs cells slots Q (F0 m (pc + 3) ls (.int (o_md σ) :: rest))) : W p l e R s m args below meth c H locs cells slots Q (F0 m pc ls (.ref h0 :: rest)) :=
  va_get (D := G.1) (ci := 2) (v := .int (o_md σ)) (C := RX0) (T := TX0) (N := 10) S.1 S.2.1 S.2.2.2.2 hin S.2.2.2.1 hK hI.1 0 rfl rfl 9 (by decide) (S.2.2.2.2 _ hm) (fun _ h9 => h9) rfl hdg kk
theorem op_made (S : CallFix p m c cc nL s args Ts RX0) (hin : ∀ w ∈ wsX00, w ∈ Ts) (hK : gK G s) (hI : oI s A G h0 h σ H locs) {ix : Nat} {x : Int32} {σ1 : oS} (hm : Cond.fieldLink RX0 ix "OwnMemory" "made" "I" ∈ Ts) (h1 : σ1 = o_s_md σ x) (hdg : decode cc pc = .ok (.putfield ix, 3)) (kk : ∀ (H1 : Heap) (locs1 : List Loc), oI s A G h0 h σ1 H1 locs1 → W p l e R s m args below meth c H1 locs1 cells slots Q (F0 m (pc + 3) ls rest)) : W p l e R s m args below meth c H locs cells slots Q (F0 m pc ls (.int x :: .ref h0 :: rest)) := by
  subst h1
  exact va_put (D := G.1) (ci := 2) (v := .int x) (ty := .int) (C := RX0) (T := TX0) (N := 10) S.1 S.2.1 S.2.2.2.2 hin tyX0 tyX0_ok nmX0 S.2.2.2.1 hK hI.1 hI.2.1 hI.2.2 0 rfl rfl 9 (by decide) (S.2.2.2.2 _ hm) (fun _ h9 => h9) rfl (by decide +kernel) rfl rfl (Nat.le_of_ble_eq_true rfl) hdg (fun H locs hP hD hS => kk H locs ⟨hP, hD, hS⟩)
theorem or_words (S : CallFix p m c cc nL s args Ts RX0) (hK : gK G s) (hI : oI s A G h0 h σ H locs) {i x : Int32} (hi : vp_in i (o_lw σ)) (h1 : x = o_fw σ i.toNatClampNeg) (hdg : decode cc pc = .ok (.iaload, 1)) (kk : W p l e R s m args below meth c H locs cells slots Q (F0 m (pc + 1) ls (.int x :: rest))) : W p l e R s m args below meth c H locs cells slots Q (F0 m pc ls (.int i :: .ref h.1 :: rest)) := by
  subst h1
  exact va_iald (f := o_fw σ) S.1 S.2.1 hK hI.1 1 0 rfl rfl hi hdg kk
theorem ou_words (S : CallFix p m c cc nL s args Ts RX0) (hK : gK G s) (hI : oI s A G h0 h σ H locs) {i x : Int32} {σ1 : oS} (hi : vp_in i (o_lw σ)) (h1 : σ1 = o_s_fw σ (upd (o_fw σ) i.toNatClampNeg x)) (hdg : decode cc pc = .ok (.iastore, 1)) (kk : ∀ (H1 : Heap) (locs1 : List Loc), oI s A G h0 h σ1 H1 locs1 → W p l e R s m args below meth c H1 locs1 cells slots Q (F0 m (pc + 1) ls rest)) : W p l e R s m args below meth c H locs cells slots Q (F0 m pc ls (.int x :: .int i :: .ref h.1 :: rest)) := by
  subst h1
  exact va_iast (f := o_fw σ) S.1 S.2.1 hK hI.1 hI.2.1 hI.2.2 1 0 rfl rfl hi hdg (fun H locs hP hD hS => kk H locs ⟨hP, hD, hS⟩)
theorem ol_words (S : CallFix p m c cc nL s args Ts RX0) (hK : gK G s) (hI : oI s A G h0 h σ H locs) (hdg : decode cc pc = .ok (.arraylength, 1)) (kk : W p l e R s m args below meth c H locs cells slots Q (F0 m (pc + 1) ls (.int (nI (o_lw σ)) :: rest))) : W p l e R s m args below meth c H locs cells slots Q (F0 m pc ls (.ref h.1 :: rest)) :=
  va_alen S.1 S.2.1 hK hI.1 1 0 rfl rfl rfl hdg kk
theorem or_roots (S : CallFix p m c cc nL s args Ts RX0) (hK : gK G s) (hI : oI s A G h0 h σ H locs) {i x : Int32} (hi : vp_in i (24)) (h1 : x = o_fr σ i.toNatClampNeg) (hdg : decode cc pc = .ok (.iaload, 1)) (kk : W p l e R s m args below meth c H locs cells slots Q (F0 m (pc + 1) ls (.int x :: rest))) : W p l e R s m args below meth c H locs cells slots Q (F0 m pc ls (.int i :: .ref h.2.1 :: rest)) := by
  subst h1
  exact va_iald (f := o_fr σ) S.1 S.2.1 hK hI.1 2 0 rfl rfl hi hdg kk
theorem ou_roots (S : CallFix p m c cc nL s args Ts RX0) (hK : gK G s) (hI : oI s A G h0 h σ H locs) {i x : Int32} {σ1 : oS} (hi : vp_in i (24)) (h1 : σ1 = o_s_fr σ (upd (o_fr σ) i.toNatClampNeg x)) (hdg : decode cc pc = .ok (.iastore, 1)) (kk : ∀ (H1 : Heap) (locs1 : List Loc), oI s A G h0 h σ1 H1 locs1 → W p l e R s m args below meth c H1 locs1 cells slots Q (F0 m (pc + 1) ls rest)) : W p l e R s m args below meth c H locs cells slots Q (F0 m pc ls (.int x :: .int i :: .ref h.2.1 :: rest)) := by
  subst h1
  exact va_iast (f := o_fr σ) S.1 S.2.1 hK hI.1 hI.2.1 hI.2.2 2 0 rfl rfl hi hdg (fun H locs hP hD hS => kk H locs ⟨hP, hD, hS⟩)
theorem ol_roots (S : CallFix p m c cc nL s args Ts RX0) (hK : gK G s) (hI : oI s A G h0 h σ H locs) (hdg : decode cc pc = .ok (.arraylength, 1)) (kk : W p l e R s m args below meth c H locs cells slots Q (F0 m (pc + 1) ls (.int (nI (24)) :: rest))) : W p l e R s m args below meth c H locs cells slots Q (F0 m pc ls (.ref h.2.1 :: rest)) :=
  va_alen S.1 S.2.1 hK hI.1 2 0 rfl rfl rfl hdg kk
theorem or_names (S : CallFix p m c cc nL s args Ts RX0) (hK : gK G s) (hI : oI s A G h0 h σ H locs) {i x : Int32} (hi : vp_in i (o_ln σ)) (h1 : x = o_fn σ i.toNatClampNeg) (hdg : decode cc pc = .ok (.iaload, 1)) (kk : W p l e R s m args below meth c H locs cells slots Q (F0 m (pc + 1) ls (.int x :: rest))) : W p l e R s m args below meth c H locs cells slots Q (F0 m pc ls (.int i :: .ref h.2.2.1 :: rest)) := by
  subst h1
  exact va_iald (f := o_fn σ) S.1 S.2.1 hK hI.1 3 0 rfl rfl hi hdg kk
theorem ou_names (S : CallFix p m c cc nL s args Ts RX0) (hK : gK G s) (hI : oI s A G h0 h σ H locs) {i x : Int32} {σ1 : oS} (hi : vp_in i (o_ln σ)) (h1 : σ1 = o_s_fn σ (upd (o_fn σ) i.toNatClampNeg x)) (hdg : decode cc pc = .ok (.iastore, 1)) (kk : ∀ (H1 : Heap) (locs1 : List Loc), oI s A G h0 h σ1 H1 locs1 → W p l e R s m args below meth c H1 locs1 cells slots Q (F0 m (pc + 1) ls rest)) : W p l e R s m args below meth c H locs cells slots Q (F0 m pc ls (.int x :: .int i :: .ref h.2.2.1 :: rest)) := by
  subst h1
  exact va_iast (f := o_fn σ) S.1 S.2.1 hK hI.1 hI.2.1 hI.2.2 3 0 rfl rfl hi hdg (fun H locs hP hD hS => kk H locs ⟨hP, hD, hS⟩)
theorem ol_names (S : CallFix p m c cc nL s args Ts RX0) (hK : gK G s) (hI : oI s A G h0 h σ H locs) (hdg : decode cc pc = .ok (.arraylength, 1)) (kk : W p l e R s m args below meth c H locs cells slots Q (F0 m (pc + 1) ls (.int (nI (o_ln σ)) :: rest))) : W p l e R s m args below meth c H locs cells slots Q (F0 m pc ls (.ref h.2.2.1 :: rest)) :=
  va_alen S.1 S.2.1 hK hI.1 3 0 rfl rfl rfl hdg kk
theorem or_pending (S : CallFix p m c cc nL s args Ts RX0) (hK : gK G s) (hI : oI s A G h0 h σ H locs) {i x : Int32} (hi : vp_in i (4000)) (h1 : x = o_fp σ i.toNatClampNeg) (hdg : decode cc pc = .ok (.iaload, 1)) (kk : W p l e R s m args below meth c H locs cells slots Q (F0 m (pc + 1) ls (.int x :: rest))) : W p l e R s m args below meth c H locs cells slots Q (F0 m pc ls (.int i :: .ref h.2.2.2 :: rest)) := by
  subst h1
  exact va_iald (f := o_fp σ) S.1 S.2.1 hK hI.1 4 0 rfl rfl hi hdg kk
theorem ou_pending (S : CallFix p m c cc nL s args Ts RX0) (hK : gK G s) (hI : oI s A G h0 h σ H locs) {i x : Int32} {σ1 : oS} (hi : vp_in i (4000)) (h1 : σ1 = o_s_fp σ (upd (o_fp σ) i.toNatClampNeg x)) (hdg : decode cc pc = .ok (.iastore, 1)) (kk : ∀ (H1 : Heap) (locs1 : List Loc), oI s A G h0 h σ1 H1 locs1 → W p l e R s m args below meth c H1 locs1 cells slots Q (F0 m (pc + 1) ls rest)) : W p l e R s m args below meth c H locs cells slots Q (F0 m pc ls (.int x :: .int i :: .ref h.2.2.2 :: rest)) := by
  subst h1
  exact va_iast (f := o_fp σ) S.1 S.2.1 hK hI.1 hI.2.1 hI.2.2 4 0 rfl rfl hi hdg (fun H locs hP hD hS => kk H locs ⟨hP, hD, hS⟩)
theorem ol_pending (S : CallFix p m c cc nL s args Ts RX0) (hK : gK G s) (hI : oI s A G h0 h σ H locs) (hdg : decode cc pc = .ok (.arraylength, 1)) (kk : W p l e R s m args below meth c H locs cells slots Q (F0 m (pc + 1) ls (.int (nI (4000)) :: rest))) : W p l e R s m args below meth c H locs cells slots Q (F0 m pc ls (.ref h.2.2.2 :: rest)) :=
  va_alen S.1 S.2.1 hK hI.1 4 0 rfl rfl rfl hdg kk
end OW
end
section
/-! the world of OwnMemoryModel: its fields and rows; h k is where the row of field k lies -/
abbrev mS : Type := Int32 × Int32 × (Nat → Int32) × Int32 × (Nat → Int32) × (Nat → Int32) × (Nat → Int32) × (Nat → Int32) × (Nat → Int32) × (Nat → Int64) × (Nat → Int32) × (Nat → Int32) × (Nat → Int32) × (Nat → Int32) × (Nat → Int32) × (Nat → Int32) × (Nat → Int64) × (Nat → Int32) × (Nat → Int32) × (Nat → Int32) × Int32
def m_thrown (σ : mS) : Int32 := σ.1
def m_limit (σ : mS) : Int32 := σ.2.1
def m_root (σ : mS) : Nat → Int32 := σ.2.2.1
def m_objects (σ : mS) : Int32 := σ.2.2.2.1
def m_kind (σ : mS) : Nat → Int32 := σ.2.2.2.2.1
def m_links (σ : mS) : Nat → Int32 := σ.2.2.2.2.2.1
def m_values (σ : mS) : Nat → Int32 := σ.2.2.2.2.2.2.1
def m_plain (σ : mS) : Nat → Int32 := σ.2.2.2.2.2.2.2.1
def m_link (σ : mS) : Nat → Int32 := σ.2.2.2.2.2.2.2.2.1
def m_number (σ : mS) : Nat → Int64 := σ.2.2.2.2.2.2.2.2.2.1
def m_refers (σ : mS) : Nat → Int32 := σ.2.2.2.2.2.2.2.2.2.2.1
def m_word (σ : mS) : Nat → Int32 := σ.2.2.2.2.2.2.2.2.2.2.2.1
def m_length (σ : mS) : Nat → Int32 := σ.2.2.2.2.2.2.2.2.2.2.2.2.1
def m_madeOf (σ : mS) : Nat → Int32 := σ.2.2.2.2.2.2.2.2.2.2.2.2.2.1
def m_a (σ : mS) : Nat → Int32 := σ.2.2.2.2.2.2.2.2.2.2.2.2.2.2.1
def m_b (σ : mS) : Nat → Int32 := σ.2.2.2.2.2.2.2.2.2.2.2.2.2.2.2.1
def m_units (σ : mS) : Nat → Int64 := σ.2.2.2.2.2.2.2.2.2.2.2.2.2.2.2.2.1
def m_spread (σ : mS) : Nat → Int32 := σ.2.2.2.2.2.2.2.2.2.2.2.2.2.2.2.2.2.1
def m_there (σ : mS) : Nat → Int32 := σ.2.2.2.2.2.2.2.2.2.2.2.2.2.2.2.2.2.2.1
def m_waiting (σ : mS) : Nat → Int32 := σ.2.2.2.2.2.2.2.2.2.2.2.2.2.2.2.2.2.2.2.1
def m_wait (σ : mS) : Int32 := σ.2.2.2.2.2.2.2.2.2.2.2.2.2.2.2.2.2.2.2.2
def m_s_thrown (σ : mS) (x : Int32) : mS := (x, σ.2.1, σ.2.2.1, σ.2.2.2.1, σ.2.2.2.2.1, σ.2.2.2.2.2.1, σ.2.2.2.2.2.2.1, σ.2.2.2.2.2.2.2.1, σ.2.2.2.2.2.2.2.2.1, σ.2.2.2.2.2.2.2.2.2.1, σ.2.2.2.2.2.2.2.2.2.2.1, σ.2.2.2.2.2.2.2.2.2.2.2.1, σ.2.2.2.2.2.2.2.2.2.2.2.2.1, σ.2.2.2.2.2.2.2.2.2.2.2.2.2.1, σ.2.2.2.2.2.2.2.2.2.2.2.2.2.2.1, σ.2.2.2.2.2.2.2.2.2.2.2.2.2.2.2.1, σ.2.2.2.2.2.2.2.2.2.2.2.2.2.2.2.2.1, σ.2.2.2.2.2.2.2.2.2.2.2.2.2.2.2.2.2.1, σ.2.2.2.2.2.2.2.2.2.2.2.2.2.2.2.2.2.2.1, σ.2.2.2.2.2.2.2.2.2.2.2.2.2.2.2.2.2.2.2.1, σ.2.2.2.2.2.2.2.2.2.2.2.2.2.2.2.2.2.2.2.2)
def m_s_limit (σ : mS) (x : Int32) : mS := (σ.1, x, σ.2.2.1, σ.2.2.2.1, σ.2.2.2.2.1, σ.2.2.2.2.2.1, σ.2.2.2.2.2.2.1, σ.2.2.2.2.2.2.2.1, σ.2.2.2.2.2.2.2.2.1, σ.2.2.2.2.2.2.2.2.2.1, σ.2.2.2.2.2.2.2.2.2.2.1, σ.2.2.2.2.2.2.2.2.2.2.2.1, σ.2.2.2.2.2.2.2.2.2.2.2.2.1, σ.2.2.2.2.2.2.2.2.2.2.2.2.2.1, σ.2.2.2.2.2.2.2.2.2.2.2.2.2.2.1, σ.2.2.2.2.2.2.2.2.2.2.2.2.2.2.2.1, σ.2.2.2.2.2.2.2.2.2.2.2.2.2.2.2.2.1, σ.2.2.2.2.2.2.2.2.2.2.2.2.2.2.2.2.2.1, σ.2.2.2.2.2.2.2.2.2.2.2.2.2.2.2.2.2.2.1, σ.2.2.2.2.2.2.2.2.2.2.2.2.2.2.2.2.2.2.2.1, σ.2.2.2.2.2.2.2.2.2.2.2.2.2.2.2.2.2.2.2.2)
def m_s_root (σ : mS) (x : Nat → Int32) : mS := (σ.1, σ.2.1, x, σ.2.2.2.1, σ.2.2.2.2.1, σ.2.2.2.2.2.1, σ.2.2.2.2.2.2.1, σ.2.2.2.2.2.2.2.1, σ.2.2.2.2.2.2.2.2.1, σ.2.2.2.2.2.2.2.2.2.1, σ.2.2.2.2.2.2.2.2.2.2.1, σ.2.2.2.2.2.2.2.2.2.2.2.1, σ.2.2.2.2.2.2.2.2.2.2.2.2.1, σ.2.2.2.2.2.2.2.2.2.2.2.2.2.1, σ.2.2.2.2.2.2.2.2.2.2.2.2.2.2.1, σ.2.2.2.2.2.2.2.2.2.2.2.2.2.2.2.1, σ.2.2.2.2.2.2.2.2.2.2.2.2.2.2.2.2.1, σ.2.2.2.2.2.2.2.2.2.2.2.2.2.2.2.2.2.1, σ.2.2.2.2.2.2.2.2.2.2.2.2.2.2.2.2.2.2.1, σ.2.2.2.2.2.2.2.2.2.2.2.2.2.2.2.2.2.2.2.1, σ.2.2.2.2.2.2.2.2.2.2.2.2.2.2.2.2.2.2.2.2)
def m_s_objects (σ : mS) (x : Int32) : mS := (σ.1, σ.2.1, σ.2.2.1, x, σ.2.2.2.2.1, σ.2.2.2.2.2.1, σ.2.2.2.2.2.2.1, σ.2.2.2.2.2.2.2.1, σ.2.2.2.2.2.2.2.2.1, σ.2.2.2.2.2.2.2.2.2.1, σ.2.2.2.2.2.2.2.2.2.2.1, σ.2.2.2.2.2.2.2.2.2.2.2.1, σ.2.2.2.2.2.2.2.2.2.2.2.2.1, σ.2.2.2.2.2.2.2.2.2.2.2.2.2.1, σ.2.2.2.2.2.2.2.2.2.2.2.2.2.2.1, σ.2.2.2.2.2.2.2.2.2.2.2.2.2.2.2.1, σ.2.2.2.2.2.2.2.2.2.2.2.2.2.2.2.2.1, σ.2.2.2.2.2.2.2.2.2.2.2.2.2.2.2.2.2.1, σ.2.2.2.2.2.2.2.2.2.2.2.2.2.2.2.2.2.2.1, σ.2.2.2.2.2.2.2.2.2.2.2.2.2.2.2.2.2.2.2.1, σ.2.2.2.2.2.2.2.2.2.2.2.2.2.2.2.2.2.2.2.2)
def m_s_kind (σ : mS) (x : Nat → Int32) : mS := (σ.1, σ.2.1, σ.2.2.1, σ.2.2.2.1, x, σ.2.2.2.2.2.1, σ.2.2.2.2.2.2.1, σ.2.2.2.2.2.2.2.1, σ.2.2.2.2.2.2.2.2.1, σ.2.2.2.2.2.2.2.2.2.1, σ.2.2.2.2.2.2.2.2.2.2.1, σ.2.2.2.2.2.2.2.2.2.2.2.1, σ.2.2.2.2.2.2.2.2.2.2.2.2.1, σ.2.2.2.2.2.2.2.2.2.2.2.2.2.1, σ.2.2.2.2.2.2.2.2.2.2.2.2.2.2.1, σ.2.2.2.2.2.2.2.2.2.2.2.2.2.2.2.1, σ.2.2.2.2.2.2.2.2.2.2.2.2.2.2.2.2.1, σ.2.2.2.2.2.2.2.2.2.2.2.2.2.2.2.2.2.1, σ.2.2.2.2.2.2.2.2.2.2.2.2.2.2.2.2.2.2.1, σ.2.2.2.2.2.2.2.2.2.2.2.2.2.2.2.2.2.2.2.1, σ.2.2.2.2.2.2.2.2.2.2.2.2.2.2.2.2.2.2.2.2)
def m_s_links (σ : mS) (x : Nat → Int32) : mS := (σ.1, σ.2.1, σ.2.2.1, σ.2.2.2.1, σ.2.2.2.2.1, x, σ.2.2.2.2.2.2.1, σ.2.2.2.2.2.2.2.1, σ.2.2.2.2.2.2.2.2.1, σ.2.2.2.2.2.2.2.2.2.1, σ.2.2.2.2.2.2.2.2.2.2.1, σ.2.2.2.2.2.2.2.2.2.2.2.1, σ.2.2.2.2.2.2.2.2.2.2.2.2.1, σ.2.2.2.2.2.2.2.2.2.2.2.2.2.1, σ.2.2.2.2.2.2.2.2.2.2.2.2.2.2.1, σ.2.2.2.2.2.2.2.2.2.2.2.2.2.2.2.1, σ.2.2.2.2.2.2.2.2.2.2.2.2.2.2.2.2.1, σ.2.2.2.2.2.2.2.2.2.2.2.2.2.2.2.2.2.1, σ.2.2.2.2.2.2.2.2.2.2.2.2.2.2.2.2.2.2.1, σ.2.2.2.2.2.2.2.2.2.2.2.2.2.2.2.2.2.2.2.1, σ.2.2.2.2.2.2.2.2.2.2.2.2.2.2.2.2.2.2.2.2)
def m_s_values (σ : mS) (x : Nat → Int32) : mS := (σ.1, σ.2.1, σ.2.2.1, σ.2.2.2.1, σ.2.2.2.2.1, σ.2.2.2.2.2.1, x, σ.2.2.2.2.2.2.2.1, σ.2.2.2.2.2.2.2.2.1, σ.2.2.2.2.2.2.2.2.2.1, σ.2.2.2.2.2.2.2.2.2.2.1, σ.2.2.2.2.2.2.2.2.2.2.2.1, σ.2.2.2.2.2.2.2.2.2.2.2.2.1, σ.2.2.2.2.2.2.2.2.2.2.2.2.2.1, σ.2.2.2.2.2.2.2.2.2.2.2.2.2.2.1, σ.2.2.2.2.2.2.2.2.2.2.2.2.2.2.2.1, σ.2.2.2.2.2.2.2.2.2.2.2.2.2.2.2.2.1, σ.2.2.2.2.2.2.2.2.2.2.2.2.2.2.2.2.2.1, σ.2.2.2.2.2.2.2.2.2.2.2.2.2.2.2.2.2.2.1, σ.2.2.2.2.2.2.2.2.2.2.2.2.2.2.2.2.2.2.2.1, σ.2.2.2.2.2.2.2.2.2.2.2.2.2.2.2.2.2.2.2.2)
def m_s_plain (σ : mS) (x : Nat → Int32) : mS := (σ.1, σ.2.1, σ.2.2.1, σ.2.2.2.1, σ.2.2.2.2.1, σ.2.2.2.2.2.1, σ.2.2.2.2.2.2.1, x, σ.2.2.2.2.2.2.2.2.1, σ.2.2.2.2.2.2.2.2.2.1, σ.2.2.2.2.2.2.2.2.2.2.1, σ.2.2.2.2.2.2.2.2.2.2.2.1, σ.2.2.2.2.2.2.2.2.2.2.2.2.1, σ.2.2.2.2.2.2.2.2.2.2.2.2.2.1, σ.2.2.2.2.2.2.2.2.2.2.2.2.2.2.1, σ.2.2.2.2.2.2.2.2.2.2.2.2.2.2.2.1, σ.2.2.2.2.2.2.2.2.2.2.2.2.2.2.2.2.1, σ.2.2.2.2.2.2.2.2.2.2.2.2.2.2.2.2.2.1, σ.2.2.2.2.2.2.2.2.2.2.2.2.2.2.2.2.2.2.1, σ.2.2.2.2.2.2.2.2.2.2.2.2.2.2.2.2.2.2.2.1, σ.2.2.2.2.2.2.2.2.2.2.2.2.2.2.2.2.2.2.2.2)
def m_s_link (σ : mS) (x : Nat → Int32) : mS := (σ.1, σ.2.1, σ.2.2.1, σ.2.2.2.1, σ.2.2.2.2.1, σ.2.2.2.2.2.1, σ.2.2.2.2.2.2.1, σ.2.2.2.2.2.2.2.1, x, σ.2.2.2.2.2.2.2.2.2.1, σ.2.2.2.2.2.2.2.2.2.2.1, σ.2.2.2.2.2.2.2.2.2.2.2.1, σ.2.2.2.2.2.2.2.2.2.2.2.2.1, σ.2.2.2.2.2.2.2.2.2.2.2.2.2.1, σ.2.2.2.2.2.2.2.2.2.2.2.2.2.2.1, σ.2.2.2.2.2.2.2.2.2.2.2.2.2.2.2.1, σ.2.2.2.2.2.2.2.2.2.2.2.2.2.2.2.2.1, σ.2.2.2.2.2.2.2.2.2.2.2.2.2.2.2.2.2.1, σ.2.2.2.2.2.2.2.2.2.2.2.2.2.2.2.2.2.2.1, σ.2.2.2.2.2.2.2.2.2.2.2.2.2.2.2.2.2.2.2.1, σ.2.2.2.2.2.2.2.2.2.2.2.2.2.2.2.2.2.2.2.2)
def m_s_number (σ : mS) (x : Nat → Int64) : mS := (σ.1, σ.2.1, σ.2.2.1, σ.2.2.2.1, σ.2.2.2.2.1, σ.2.2.2.2.2.1, σ.2.2.2.2.2.2.1, σ.2.2.2.2.2.2.2.1, σ.2.2.2.2.2.2.2.2.1, x, σ.2.2.2.2.2.2.2.2.2.2.1, σ.2.2.2.2.2.2.2.2.2.2.2.1, σ.2.2.2.2.2.2.2.2.2.2.2.2.1, σ.2.2.2.2.2.2.2.2.2.2.2.2.2.1, σ.2.2.2.2.2.2.2.2.2.2.2.2.2.2.1, σ.2.2.2.2.2.2.2.2.2.2.2.2.2.2.2.1, σ.2.2.2.2.2.2.2.2.2.2.2.2.2.2.2.2.1, σ.2.2.2.2.2.2.2.2.2.2.2.2.2.2.2.2.2.1, σ.2.2.2.2.2.2.2.2.2.2.2.2.2.2.2.2.2.2.1, σ.2.2.2.2.2.2.2.2.2.2.2.2.2.2.2.2.2.2.2.1, σ.2.2.2.2.2.2.2.2.2.2.2.2.2.2.2.2.2.2.2.2)
def m_s_refers (σ : mS) (x : Nat → Int32) : mS := (σ.1, σ.2.1, σ.2.2.1, σ.2.2.2.1, σ.2.2.2.2.1, σ.2.2.2.2.2.1, σ.2.2.2.2.2.2.1, σ.2.2.2.2.2.2.2.1, σ.2.2.2.2.2.2.2.2.1, σ.2.2.2.2.2.2.2.2.2.1, x, σ.2.2.2.2.2.2.2.2.2.2.2.1, σ.2.2.2.2.2.2.2.2.2.2.2.2.1, σ.2.2.2.2.2.2.2.2.2.2.2.2.2.1, σ.2.2.2.2.2.2.2.2.2.2.2.2.2.2.1, σ.2.2.2.2.2.2.2.2.2.2.2.2.2.2.2.1, σ.2.2.2.2.2.2.2.2.2.2.2.2.2.2.2.2.1, σ.2.2.2.2.2.2.2.2.2.2.2.2.2.2.2.2.2.1, σ.2.2.2.2.2.2.2.2.2.2.2.2.2.2.2.2.2.2.1, σ.2.2.2.2.2.2.2.2.2.2.2.2.2.2.2.2.2.2.2.1, σ.2.2.2.2.2.2.2.2.2.2.2.2.2.2.2.2.2.2.2.2)
def m_s_word (σ : mS) (x : Nat → Int32) : mS := (σ.1, σ.2.1, σ.2.2.1, σ.2.2.2.1, σ.2.2.2.2.1, σ.2.2.2.2.2.1, σ.2.2.2.2.2.2.1, σ.2.2.2.2.2.2.2.1, σ.2.2.2.2.2.2.2.2.1, σ.2.2.2.2.2.2.2.2.2.1, σ.2.2.2.2.2.2.2.2.2.2.1, x, σ.2.2.2.2.2.2.2.2.2.2.2.2.1, σ.2.2.2.2.2.2.2.2.2.2.2.2.2.1, σ.2.2.2.2.2.2.2.2.2.2.2.2.2.2.1, σ.2.2.2.2.2.2.2.2.2.2.2.2.2.2.2.1, σ.2.2.2.2.2.2.2.2.2.2.2.2.2.2.2.2.1, σ.2.2.2.2.2.2.2.2.2.2.2.2.2.2.2.2.2.1, σ.2.2.2.2.2.2.2.2.2.2.2.2.2.2.2.2.2.2.1, σ.2.2.2.2.2.2.2.2.2.2.2.2.2.2.2.2.2.2.2.1, σ.2.2.2.2.2.2.2.2.2.2.2.2.2.2.2.2.2.2.2.2)
def m_s_length (σ : mS) (x : Nat → Int32) : mS := (σ.1, σ.2.1, σ.2.2.1, σ.2.2.2.1, σ.2.2.2.2.1, σ.2.2.2.2.2.1, σ.2.2.2.2.2.2.1, σ.2.2.2.2.2.2.2.1, σ.2.2.2.2.2.2.2.2.1, σ.2.2.2.2.2.2.2.2.2.1, σ.2.2.2.2.2.2.2.2.2.2.1, σ.2.2.2.2.2.2.2.2.2.2.2.1, x, σ.2.2.2.2.2.2.2.2.2.2.2.2.2.1, σ.2.2.2.2.2.2.2.2.2.2.2.2.2.2.1, σ.2.2.2.2.2.2.2.2.2.2.2.2.2.2.2.1, σ.2.2.2.2.2.2.2.2.2.2.2.2.2.2.2.2.1, σ.2.2.2.2.2.2.2.2.2.2.2.2.2.2.2.2.2.1, σ.2.2.2.2.2.2.2.2.2.2.2.2.2.2.2.2.2.2.1, σ.2.2.2.2.2.2.2.2.2.2.2.2.2.2.2.2.2.2.2.1, σ.2.2.2.2.2.2.2.2.2.2.2.2.2.2.2.2.2.2.2.2)
def m_s_madeOf (σ : mS) (x : Nat → Int32) : mS := (σ.1, σ.2.1, σ.2.2.1, σ.2.2.2.1, σ.2.2.2.2.1, σ.2.2.2.2.2.1, σ.2.2.2.2.2.2.1, σ.2.2.2.2.2.2.2.1, σ.2.2.2.2.2.2.2.2.1, σ.2.2.2.2.2.2.2.2.2.1, σ.2.2.2.2.2.2.2.2.2.2.1, σ.2.2.2.2.2.2.2.2.2.2.2.1, σ.2.2.2.2.2.2.2.2.2.2.2.2.1, x, σ.2.2.2.2.2.2.2.2.2.2.2.2.2.2.1, σ.2.2.2.2.2.2.2.2.2.2.2.2.2.2.2.1, σ.2.2.2.2.2.2.2.2.2.2.2.2.2.2.2.2.1, σ.2.2.2.2.2.2.2.2.2.2.2.2.2.2.2.2.2.1, σ.2.2.2.2.2.2.2.2.2.2.2.2.2.2.2.2.2.2.1, σ.2.2.2.2.2.2.2.2.2.2.2.2.2.2.2.2.2.2.2.1, σ.2.2.2.2.2.2.2.2.2.2.2.2.2.2.2.2.2.2.2.2)
def m_s_a (σ : mS) (x : Nat → Int32) : mS := (σ.1, σ.2.1, σ.2.2.1, σ.2.2.2.1, σ.2.2.2.2.1, σ.2.2.2.2.2.1, σ.2.2.2.2.2.2.1, σ.2.2.2.2.2.2.2.1, σ.2.2.2.2.2.2.2.2.1, σ.2.2.2.2.2.2.2.2.2.1, σ.2.2.2.2.2.2.2.2.2.2.1, σ.2.2.2.2.2.2.2.2.2.2.2.1, σ.2.2.2.2.2.2.2.2.2.2.2.2.1, σ.2.2.2.2.2.2.2.2.2.2.2.2.2.1, x, σ.2.2.2.2.2.2.2.2.2.2.2.2.2.2.2.1, σ.2.2.2.2.2.2.2.2.2.2.2.2.2.2.2.2.1, σ.2.2.2.2.2.2.2.2.2.2.2.2.2.2.2.2.2.1, σ.2.2.2.2.2.2.2.2.2.2.2.2.2.2.2.2.2.2.1, σ.2.2.2.2.2.2.2.2.2.2.2.2.2.2.2.2.2.2.2.1, σ.2.2.2.2.2.2.2.2.2.2.2.2.2.2.2.2.2.2.2.2)
def m_s_b (σ : mS) (x : Nat → Int32) : mS := (σ.1, σ.2.1, σ.2.2.1, σ.2.2.2.1, σ.2.2.2.2.1, σ.2.2.2.2.2.1, σ.2.2.2.2.2.2.1, σ.2.2.2.2.2.2.2.1, σ.2.2.2.2.2.2.2.2.1, σ.2.2.2.2.2.2.2.2.2.1, σ.2.2.2.2.2.2.2.2.2.2.1, σ.2.2.2.2.2.2.2.2.2.2.2.1, σ.2.2.2.2.2.2.2.2.2.2.2.2.1, σ.2.2.2.2.2.2.2.2.2.2.2.2.2.1, σ.2.2.2.2.2.2.2.2.2.2.2.2.2.2.1, x, σ.2.2.2.2.2.2.2.2.2.2.2.2.2.2.2.2.1, σ.2.2.2.2.2.2.2.2.2.2.2.2.2.2.2.2.2.1, σ.2.2.2.2.2.2.2.2.2.2.2.2.2.2.2.2.2.2.1, σ.2.2.2.2.2.2.2.2.2.2.2.2.2.2.2.2.2.2.2.1, σ.2.2.2.2.2.2.2.2.2.2.2.2.2.2.2.2.2.2.2.2)
def m_s_units (σ : mS) (x : Nat → Int64) : mS := (σ.1, σ.2.1, σ.2.2.1, σ.2.2.2.1, σ.2.2.2.2.1, σ.2.2.2.2.2.1, σ.2.2.2.2.2.2.1, σ.2.2.2.2.2.2.2.1, σ.2.2.2.2.2.2.2.2.1, σ.2.2.2.2.2.2.2.2.2.1, σ.2.2.2.2.2.2.2.2.2.2.1, σ.2.2.2.2.2.2.2.2.2.2.2.1, σ.2.2.2.2.2.2.2.2.2.2.2.2.1, σ.2.2.2.2.2.2.2.2.2.2.2.2.2.1, σ.2.2.2.2.2.2.2.2.2.2.2.2.2.2.1, σ.2.2.2.2.2.2.2.2.2.2.2.2.2.2.2.1, x, σ.2.2.2.2.2.2.2.2.2.2.2.2.2.2.2.2.2.1, σ.2.2.2.2.2.2.2.2.2.2.2.2.2.2.2.2.2.2.1, σ.2.2.2.2.2.2.2.2.2.2.2.2.2.2.2.2.2.2.2.1, σ.2.2.2.2.2.2.2.2.2.2.2.2.2.2.2.2.2.2.2.2)
def m_s_spread (σ : mS) (x : Nat → Int32) : mS := (σ.1, σ.2.1, σ.2.2.1, σ.2.2.2.1, σ.2.2.2.2.1, σ.2.2.2.2.2.1, σ.2.2.2.2.2.2.1, σ.2.2.2.2.2.2.2.1, σ.2.2.2.2.2.2.2.2.1, σ.2.2.2.2.2.2.2.2.2.1, σ.2.2.2.2.2.2.2.2.2.2.1, σ.2.2.2.2.2.2.2.2.2.2.2.1, σ.2.2.2.2.2.2.2.2.2.2.2.2.1, σ.2.2.2.2.2.2.2.2.2.2.2.2.2.1, σ.2.2.2.2.2.2.2.2.2.2.2.2.2.2.1, σ.2.2.2.2.2.2.2.2.2.2.2.2.2.2.2.1, σ.2.2.2.2.2.2.2.2.2.2.2.2.2.2.2.2.1, x, σ.2.2.2.2.2.2.2.2.2.2.2.2.2.2.2.2.2.2.1, σ.2.2.2.2.2.2.2.2.2.2.2.2.2.2.2.2.2.2.2.1, σ.2.2.2.2.2.2.2.2.2.2.2.2.2.2.2.2.2.2.2.2)
def m_s_there (σ : mS) (x : Nat → Int32) : mS := (σ.1, σ.2.1, σ.2.2.1, σ.2.2.2.1, σ.2.2.2.2.1, σ.2.2.2.2.2.1, σ.2.2.2.2.2.2.1, σ.2.2.2.2.2.2.2.1, σ.2.2.2.2.2.2.2.2.1, σ.2.2.2.2.2.2.2.2.2.1, σ.2.2.2.2.2.2.2.2.2.2.1, σ.2.2.2.2.2.2.2.2.2.2.2.1, σ.2.2.2.2.2.2.2.2.2.2.2.2.1, σ.2.2.2.2.2.2.2.2.2.2.2.2.2.1, σ.2.2.2.2.2.2.2.2.2.2.2.2.2.2.1, σ.2.2.2.2.2.2.2.2.2.2.2.2.2.2.2.1, σ.2.2.2.2.2.2.2.2.2.2.2.2.2.2.2.2.1, σ.2.2.2.2.2.2.2.2.2.2.2.2.2.2.2.2.2.1, x, σ.2.2.2.2.2.2.2.2.2.2.2.2.2.2.2.2.2.2.2.1, σ.2.2.2.2.2.2.2.2.2.2.2.2.2.2.2.2.2.2.2.2)
def m_s_waiting (σ : mS) (x : Nat → Int32) : mS := (σ.1, σ.2.1, σ.2.2.1, σ.2.2.2.1, σ.2.2.2.2.1, σ.2.2.2.2.2.1, σ.2.2.2.2.2.2.1, σ.2.2.2.2.2.2.2.1, σ.2.2.2.2.2.2.2.2.1, σ.2.2.2.2.2.2.2.2.2.1, σ.2.2.2.2.2.2.2.2.2.2.1, σ.2.2.2.2.2.2.2.2.2.2.2.1, σ.2.2.2.2.2.2.2.2.2.2.2.2.1, σ.2.2.2.2.2.2.2.2.2.2.2.2.2.1, σ.2.2.2.2.2.2.2.2.2.2.2.2.2.2.1, σ.2.2.2.2.2.2.2.2.2.2.2.2.2.2.2.1, σ.2.2.2.2.2.2.2.2.2.2.2.2.2.2.2.2.1, σ.2.2.2.2.2.2.2.2.2.2.2.2.2.2.2.2.2.1, σ.2.2.2.2.2.2.2.2.2.2.2.2.2.2.2.2.2.2.1, x, σ.2.2.2.2.2.2.2.2.2.2.2.2.2.2.2.2.2.2.2.2)
def m_s_wait (σ : mS) (x : Int32) : mS := (σ.1, σ.2.1, σ.2.2.1, σ.2.2.2.1, σ.2.2.2.2.1, σ.2.2.2.2.2.1, σ.2.2.2.2.2.2.1, σ.2.2.2.2.2.2.2.1, σ.2.2.2.2.2.2.2.2.1, σ.2.2.2.2.2.2.2.2.2.1, σ.2.2.2.2.2.2.2.2.2.2.1, σ.2.2.2.2.2.2.2.2.2.2.2.1, σ.2.2.2.2.2.2.2.2.2.2.2.2.1, σ.2.2.2.2.2.2.2.2.2.2.2.2.2.1, σ.2.2.2.2.2.2.2.2.2.2.2.2.2.2.1, σ.2.2.2.2.2.2.2.2.2.2.2.2.2.2.2.1, σ.2.2.2.2.2.2.2.2.2.2.2.2.2.2.2.2.1, σ.2.2.2.2.2.2.2.2.2.2.2.2.2.2.2.2.2.1, σ.2.2.2.2.2.2.2.2.2.2.2.2.2.2.2.2.2.2.1, σ.2.2.2.2.2.2.2.2.2.2.2.2.2.2.2.2.2.2.2.1, x)
def mw (G : gT) (h0 : Nat) (h : Nat → Nat) (σ : mS) : va_W := [(h0, .inr (3, [.int (m_thrown σ), .int (m_limit σ), .ref (h 2), .int (m_objects σ), .ref (h 4), .ref (h 5), .ref (h 6), .ref (h 7), .ref (h 8), .ref (h 9), .ref (h 10), .ref (h 11), .ref (h 12), .ref (h 13), .ref (h 14), .ref (h 15), .ref (h 16), .ref (h 17), .ref (h 18), .ref (h 19), .int (m_wait σ)])), (h 2, .inl (G.2.1, 24, .inl (m_root σ))), (h 4, .inl (G.2.1, 4096, .inl (m_kind σ))), (h 5, .inl (G.2.1, 4096, .inl (m_links σ))), (h 6, .inl (G.2.1, 4096, .inl (m_values σ))), (h 7, .inl (G.2.1, 4096, .inl (m_plain σ))), (h 8, .inl (G.2.1, 32768, .inl (m_link σ))), (h 9, .inl (G.2.2.1, 32768, .inr (.inl (m_number σ)))), (h 10, .inl (G.2.1, 32768, .inl (m_refers σ))), (h 11, .inl (G.2.1, 65536, .inl (m_word σ))), (h 12, .inl (G.2.1, 4096, .inl (m_length σ))), (h 13, .inl (G.2.1, 4096, .inl (m_madeOf σ))), (h 14, .inl (G.2.1, 4096, .inl (m_a σ))), (h 15, .inl (G.2.1, 4096, .inl (m_b σ))), (h 16, .inl (G.2.2.1, 4096, .inr (.inl (m_units σ)))), (h 17, .inl (G.2.1, 4096, .inl (m_spread σ))), (h 18, .inl (G.2.2.2, 4096, .inl (m_there σ))), (h 19, .inl (G.2.1, 4096, .inl (m_waiting σ)))]
def mI (s : State) (A : Nat → Prop) (G : gT) (h0 : Nat) (h : Nat → Nat) (σ : mS) (H : Heap) (locs : List Loc) : Prop := va_P G.1 vwCl (mw G h0 h σ) H ∧ va_D A (mw G h0 h σ) ∧ va_S A s.heap H locs
def mAt (G : gT) (A : Nat → Prop) (h0 : Nat) (h : Nat → Nat) (σ : mS) (t : State) : Prop := va_P G.1 vwCl (mw G h0 h σ) t.heap ∧ gK G t ∧ va_D A (mw G h0 h σ)
def mPre (G : gT) (h0 : Nat) (h : Nat → Nat) (σ : mS) (sz : Nat) (av : List Value) : Array Value → State → Prop := va_Pc (.ref h0 :: av) (fun U => U.heap.size = sz ∧ va_P G.1 vwCl (mw G h0 h σ) U.heap ∧ gK G U ∧ va_D (fun _ => True) (mw G h0 h σ))
def mA (G : gT) (h0 : Nat) (h : Nat → Nat) (σ : mS) (sz : Nat) : Nat → Prop := va_A (mw G h0 h σ) sz
section MW
variable {p : Program} {l : Launch} {e : Env} {R : Room} {s : State} {m : MethodId} {args : Array Value} {below : List Frame} {meth : Method} {c : Code} {H : Heap} {locs : List Loc} {cells slots : Nat} {Q : State → Prop}
variable {cc : ByteArray} {pc : Nat} {ls : Array Slot} {rest : List Value} {A : Nat → Prop} {G : gT} {h0 : Nat} {nL : Nat} {Ts : List Cond}
variable {h : Nat → Nat} {σ : mS}
theorem mg_thrown (S : CallFix p m c cc nL s args Ts RX1) (hin : ∀ w ∈ wsX10, w ∈ Ts) (hK : gK G s) (hI : mI s A G h0 h σ H locs) {ix : Nat} (hm : Cond.fieldLink RX1 ix "OwnMemoryModel" "thrown" "I" ∈ Ts) (hdg : decode cc pc = .ok (.getfield ix, 3)) (kk : W p l e R s m args below meth c H locs cells slots Q (F0 m (pc + 3) ls (.int (m_thrown σ) :: rest))) : W p l e R s m args below meth c H locs cells slots Q (F0 m pc ls (.ref h0 :: rest)) :=
  va_get (D := G.1) (ci := 3) (v := .int (m_thrown σ)) (C := RX1) (T := TX1) (N := 21) S.1 S.2.1 S.2.2.2.2 hin S.2.2.2.1 hK hI.1 0 rfl rfl 0 (by decide) (S.2.2.2.2 _ hm) (fun _ h9 => h9) rfl hdg kk
theorem mp_thrown (S : CallFix p m c cc nL s args Ts RX1) (hin : ∀ w ∈ wsX10, w ∈ Ts) (hK : gK G s) (hI : mI s A G h0 h σ H locs) {ix : Nat} {x : Int32} {σ1 : mS} (hm : Cond.fieldLink RX1 ix "OwnMemoryModel" "thrown" "I" ∈ Ts) (h1 : σ1 = m_s_thrown σ x) (hdg : decode cc pc = .ok (.putfield ix, 3)) (kk : ∀ (H1 : Heap) (locs1 : List Loc), mI s A G h0 h σ1 H1 locs1 → W p l e R s m args below meth c H1 locs1 cells slots Q (F0 m (pc + 3) ls rest)) : W p l e R s m args below meth c H locs cells slots Q (F0 m pc ls (.int x :: .ref h0 :: rest)) := by
  subst h1
  exact va_put (D := G.1) (ci := 3) (v := .int x) (ty := .int) (C := RX1) (T := TX1) (N := 21) S.1 S.2.1 S.2.2.2.2 hin tyX1 tyX1_ok nmX1 S.2.2.2.1 hK hI.1 hI.2.1 hI.2.2 0 rfl rfl 0 (by decide) (S.2.2.2.2 _ hm) (fun _ h9 => h9) rfl (by decide +kernel) rfl rfl (Nat.le_of_ble_eq_true rfl) hdg (fun H locs hP hD hS => kk H locs ⟨hP, hD, hS⟩)
theorem mg_limit (S : CallFix p m c cc nL s args Ts RX1) (hin : ∀ w ∈ wsX10, w ∈ Ts) (hK : gK G s) (hI : mI s A G h0 h σ H locs) {ix : Nat} (hm : Cond.fieldLink RX1 ix "OwnMemoryModel" "limit" "I" ∈ Ts) (hdg : decode cc pc = .ok (.getfield ix, 3)) (kk : W p l e R s m args below meth c H locs cells slots Q (F0 m (pc + 3) ls (.int (m_limit σ) :: rest))) : W p l e R s m args below meth c H locs cells slots Q (F0 m pc ls (.ref h0 :: rest)) :=
  va_get (D := G.1) (ci := 3) (v := .int (m_limit σ)) (C := RX1) (T := TX1) (N := 21) S.1 S.2.1 S.2.2.2.2 hin S.2.2.2.1 hK hI.1 0 rfl rfl 1 (by decide) (S.2.2.2.2 _ hm) (fun _ h9 => h9) rfl hdg kk
theorem mg_root (S : CallFix p m c cc nL s args Ts RX1) (hin : ∀ w ∈ wsX10, w ∈ Ts) (hK : gK G s) (hI : mI s A G h0 h σ H locs) {ix : Nat} (hm : Cond.fieldLink RX1 ix "OwnMemoryModel" "root" "[I" ∈ Ts) (hdg : decode cc pc = .ok (.getfield ix, 3)) (kk : W p l e R s m args below meth c H locs cells slots Q (F0 m (pc + 3) ls (.ref (h 2) :: rest))) : W p l e R s m args below meth c H locs cells slots Q (F0 m pc ls (.ref h0 :: rest)) :=
  va_get (D := G.1) (ci := 3) (v := .ref (h 2)) (C := RX1) (T := TX1) (N := 21) S.1 S.2.1 S.2.2.2.2 hin S.2.2.2.1 hK hI.1 0 rfl rfl 2 (by decide) (S.2.2.2.2 _ hm) (fun _ h9 => h9) rfl hdg kk
theorem mr_root (S : CallFix p m c cc nL s args Ts RX1) (hK : gK G s) (hI : mI s A G h0 h σ H locs) {i : Int32} {x : Int32} (hi : vp_in i 24) (h1 : x = m_root σ i.toNatClampNeg) (hdg : decode cc pc = .ok (.iaload, 1)) (kk : W p l e R s m args below meth c H locs cells slots Q (F0 m (pc + 1) ls (.int x :: rest))) : W p l e R s m args below meth c H locs cells slots Q (F0 m pc ls (.int i :: .ref (h 2) :: rest)) := by
  subst h1
  exact va_iald (f := m_root σ) S.1 S.2.1 hK hI.1 1 0 rfl rfl hi hdg kk
theorem mu_root (S : CallFix p m c cc nL s args Ts RX1) (hK : gK G s) (hI : mI s A G h0 h σ H locs) {i : Int32} {x : Int32} {σ1 : mS} (hi : vp_in i 24) (h1 : σ1 = m_s_root σ (upd (m_root σ) i.toNatClampNeg x)) (hdg : decode cc pc = .ok (.iastore, 1)) (kk : ∀ (H1 : Heap) (locs1 : List Loc), mI s A G h0 h σ1 H1 locs1 → W p l e R s m args below meth c H1 locs1 cells slots Q (F0 m (pc + 1) ls rest)) : W p l e R s m args below meth c H locs cells slots Q (F0 m pc ls (.int x :: .int i :: .ref (h 2) :: rest)) := by
  subst h1
  exact va_iast (f := m_root σ) S.1 S.2.1 hK hI.1 hI.2.1 hI.2.2 1 0 rfl rfl hi hdg (fun H locs hP hD hS => kk H locs ⟨hP, hD, hS⟩)
theorem mg_objects (S : CallFix p m c cc nL s args Ts RX1) (hin : ∀ w ∈ wsX10, w ∈ Ts) (hK : gK G s) (hI : mI s A G h0 h σ H locs) {ix : Nat} (hm : Cond.fieldLink RX1 ix "OwnMemoryModel" "objects" "I" ∈ Ts) (hdg : decode cc pc = .ok (.getfield ix, 3)) (kk : W p l e R s m args below meth c H locs cells slots Q (F0 m (pc + 3) ls (.int (m_objects σ) :: rest))) : W p l e R s m args below meth c H locs cells slots Q (F0 m pc ls (.ref h0 :: rest)) :=
  va_get (D := G.1) (ci := 3) (v := .int (m_objects σ)) (C := RX1) (T := TX1) (N := 21) S.1 S.2.1 S.2.2.2.2 hin S.2.2.2.1 hK hI.1 0 rfl rfl 3 (by decide) (S.2.2.2.2 _ hm) (fun _ h9 => h9) rfl hdg kk
theorem mp_objects (S : CallFix p m c cc nL s args Ts RX1) (hin : ∀ w ∈ wsX10, w ∈ Ts) (hK : gK G s) (hI : mI s A G h0 h σ H locs) {ix : Nat} {x : Int32} {σ1 : mS} (hm : Cond.fieldLink RX1 ix "OwnMemoryModel" "objects" "I" ∈ Ts) (h1 : σ1 = m_s_objects σ x) (hdg : decode cc pc = .ok (.putfield ix, 3)) (kk : ∀ (H1 : Heap) (locs1 : List Loc), mI s A G h0 h σ1 H1 locs1 → W p l e R s m args below meth c H1 locs1 cells slots Q (F0 m (pc + 3) ls rest)) : W p l e R s m args below meth c H locs cells slots Q (F0 m pc ls (.int x :: .ref h0 :: rest)) := by
  subst h1
  exact va_put (D := G.1) (ci := 3) (v := .int x) (ty := .int) (C := RX1) (T := TX1) (N := 21) S.1 S.2.1 S.2.2.2.2 hin tyX1 tyX1_ok nmX1 S.2.2.2.1 hK hI.1 hI.2.1 hI.2.2 0 rfl rfl 3 (by decide) (S.2.2.2.2 _ hm) (fun _ h9 => h9) rfl (by decide +kernel) rfl rfl (Nat.le_of_ble_eq_true rfl) hdg (fun H locs hP hD hS => kk H locs ⟨hP, hD, hS⟩)
theorem mg_kind (S : CallFix p m c cc nL s args Ts RX1) (hin : ∀ w ∈ wsX10, w ∈ Ts) (hK : gK G s) (hI : mI s A G h0 h σ H locs) {ix : Nat} (hm : Cond.fieldLink RX1 ix "OwnMemoryModel" "kind" "[I" ∈ Ts) (hdg : decode cc pc = .ok (.getfield ix, 3)) (kk : W p l e R s m args below meth c H locs cells slots Q (F0 m (pc + 3) ls (.ref (h 4) :: rest))) : W p l e R s m args below meth c H locs cells slots Q (F0 m pc ls (.ref h0 :: rest)) :=
  va_get (D := G.1) (ci := 3) (v := .ref (h 4)) (C := RX1) (T := TX1) (N := 21) S.1 S.2.1 S.2.2.2.2 hin S.2.2.2.1 hK hI.1 0 rfl rfl 4 (by decide) (S.2.2.2.2 _ hm) (fun _ h9 => h9) rfl hdg kk
theorem mr_kind (S : CallFix p m c cc nL s args Ts RX1) (hK : gK G s) (hI : mI s A G h0 h σ H locs) {i : Int32} {x : Int32} (hi : vp_in i 4096) (h1 : x = m_kind σ i.toNatClampNeg) (hdg : decode cc pc = .ok (.iaload, 1)) (kk : W p l e R s m args below meth c H locs cells slots Q (F0 m (pc + 1) ls (.int x :: rest))) : W p l e R s m args below meth c H locs cells slots Q (F0 m pc ls (.int i :: .ref (h 4) :: rest)) := by
  subst h1
  exact va_iald (f := m_kind σ) S.1 S.2.1 hK hI.1 2 0 rfl rfl hi hdg kk
theorem mu_kind (S : CallFix p m c cc nL s args Ts RX1) (hK : gK G s) (hI : mI s A G h0 h σ H locs) {i : Int32} {x : Int32} {σ1 : mS} (hi : vp_in i 4096) (h1 : σ1 = m_s_kind σ (upd (m_kind σ) i.toNatClampNeg x)) (hdg : decode cc pc = .ok (.iastore, 1)) (kk : ∀ (H1 : Heap) (locs1 : List Loc), mI s A G h0 h σ1 H1 locs1 → W p l e R s m args below meth c H1 locs1 cells slots Q (F0 m (pc + 1) ls rest)) : W p l e R s m args below meth c H locs cells slots Q (F0 m pc ls (.int x :: .int i :: .ref (h 4) :: rest)) := by
  subst h1
  exact va_iast (f := m_kind σ) S.1 S.2.1 hK hI.1 hI.2.1 hI.2.2 2 0 rfl rfl hi hdg (fun H locs hP hD hS => kk H locs ⟨hP, hD, hS⟩)
theorem mg_links (S : CallFix p m c cc nL s args Ts RX1) (hin : ∀ w ∈ wsX10, w ∈ Ts) (hK : gK G s) (hI : mI s A G h0 h σ H locs) {ix : Nat} (hm : Cond.fieldLink RX1 ix "OwnMemoryModel" "links" "[I" ∈ Ts) (hdg : decode cc pc = .ok (.getfield ix, 3)) (kk : W p l e R s m args below meth c H locs cells slots Q (F0 m (pc + 3) ls (.ref (h 5) :: rest))) : W p l e R s m args below meth c H locs cells slots Q (F0 m pc ls (.ref h0 :: rest)) :=
  va_get (D := G.1) (ci := 3) (v := .ref (h 5)) (C := RX1) (T := TX1) (N := 21) S.1 S.2.1 S.2.2.2.2 hin S.2.2.2.1 hK hI.1 0 rfl rfl 5 (by decide) (S.2.2.2.2 _ hm) (fun _ h9 => h9) rfl hdg kk
theorem mr_links (S : CallFix p m c cc nL s args Ts RX1) (hK : gK G s) (hI : mI s A G h0 h σ H locs) {i : Int32} {x : Int32} (hi : vp_in i 4096) (h1 : x = m_links σ i.toNatClampNeg) (hdg : decode cc pc = .ok (.iaload, 1)) (kk : W p l e R s m args below meth c H locs cells slots Q (F0 m (pc + 1) ls (.int x :: rest))) : W p l e R s m args below meth c H locs cells slots Q (F0 m pc ls (.int i :: .ref (h 5) :: rest)) := by
  subst h1
  exact va_iald (f := m_links σ) S.1 S.2.1 hK hI.1 3 0 rfl rfl hi hdg kk
theorem mu_links (S : CallFix p m c cc nL s args Ts RX1) (hK : gK G s) (hI : mI s A G h0 h σ H locs) {i : Int32} {x : Int32} {σ1 : mS} (hi : vp_in i 4096) (h1 : σ1 = m_s_links σ (upd (m_links σ) i.toNatClampNeg x)) (hdg : decode cc pc = .ok (.iastore, 1)) (kk : ∀ (H1 : Heap) (locs1 : List Loc), mI s A G h0 h σ1 H1 locs1 → W p l e R s m args below meth c H1 locs1 cells slots Q (F0 m (pc + 1) ls rest)) : W p l e R s m args below meth c H locs cells slots Q (F0 m pc ls (.int x :: .int i :: .ref (h 5) :: rest)) := by
  subst h1
  exact va_iast (f := m_links σ) S.1 S.2.1 hK hI.1 hI.2.1 hI.2.2 3 0 rfl rfl hi hdg (fun H locs hP hD hS => kk H locs ⟨hP, hD, hS⟩)
theorem mg_values (S : CallFix p m c cc nL s args Ts RX1) (hin : ∀ w ∈ wsX10, w ∈ Ts) (hK : gK G s) (hI : mI s A G h0 h σ H locs) {ix : Nat} (hm : Cond.fieldLink RX1 ix "OwnMemoryModel" "values" "[I" ∈ Ts) (hdg : decode cc pc = .ok (.getfield ix, 3)) (kk : W p l e R s m args below meth c H locs cells slots Q (F0 m (pc + 3) ls (.ref (h 6) :: rest))) : W p l e R s m args below meth c H locs cells slots Q (F0 m pc ls (.ref h0 :: rest)) :=
  va_get (D := G.1) (ci := 3) (v := .ref (h 6)) (C := RX1) (T := TX1) (N := 21) S.1 S.2.1 S.2.2.2.2 hin S.2.2.2.1 hK hI.1 0 rfl rfl 6 (by decide) (S.2.2.2.2 _ hm) (fun _ h9 => h9) rfl hdg kk
theorem mr_values (S : CallFix p m c cc nL s args Ts RX1) (hK : gK G s) (hI : mI s A G h0 h σ H locs) {i : Int32} {x : Int32} (hi : vp_in i 4096) (h1 : x = m_values σ i.toNatClampNeg) (hdg : decode cc pc = .ok (.iaload, 1)) (kk : W p l e R s m args below meth c H locs cells slots Q (F0 m (pc + 1) ls (.int x :: rest))) : W p l e R s m args below meth c H locs cells slots Q (F0 m pc ls (.int i :: .ref (h 6) :: rest)) := by
  subst h1
  exact va_iald (f := m_values σ) S.1 S.2.1 hK hI.1 4 0 rfl rfl hi hdg kk
theorem mu_values (S : CallFix p m c cc nL s args Ts RX1) (hK : gK G s) (hI : mI s A G h0 h σ H locs) {i : Int32} {x : Int32} {σ1 : mS} (hi : vp_in i 4096) (h1 : σ1 = m_s_values σ (upd (m_values σ) i.toNatClampNeg x)) (hdg : decode cc pc = .ok (.iastore, 1)) (kk : ∀ (H1 : Heap) (locs1 : List Loc), mI s A G h0 h σ1 H1 locs1 → W p l e R s m args below meth c H1 locs1 cells slots Q (F0 m (pc + 1) ls rest)) : W p l e R s m args below meth c H locs cells slots Q (F0 m pc ls (.int x :: .int i :: .ref (h 6) :: rest)) := by
  subst h1
  exact va_iast (f := m_values σ) S.1 S.2.1 hK hI.1 hI.2.1 hI.2.2 4 0 rfl rfl hi hdg (fun H locs hP hD hS => kk H locs ⟨hP, hD, hS⟩)
theorem mg_plain (S : CallFix p m c cc nL s args Ts RX1) (hin : ∀ w ∈ wsX10, w ∈ Ts) (hK : gK G s) (hI : mI s A G h0 h σ H locs) {ix : Nat} (hm : Cond.fieldLink RX1 ix "OwnMemoryModel" "plain" "[I" ∈ Ts) (hdg : decode cc pc = .ok (.getfield ix, 3)) (kk : W p l e R s m args below meth c H locs cells slots Q (F0 m (pc + 3) ls (.ref (h 7) :: rest))) : W p l e R s m args below meth c H locs cells slots Q (F0 m pc ls (.ref h0 :: rest)) :=
  va_get (D := G.1) (ci := 3) (v := .ref (h 7)) (C := RX1) (T := TX1) (N := 21) S.1 S.2.1 S.2.2.2.2 hin S.2.2.2.1 hK hI.1 0 rfl rfl 7 (by decide) (S.2.2.2.2 _ hm) (fun _ h9 => h9) rfl hdg kk
theorem mr_plain (S : CallFix p m c cc nL s args Ts RX1) (hK : gK G s) (hI : mI s A G h0 h σ H locs) {i : Int32} {x : Int32} (hi : vp_in i 4096) (h1 : x = m_plain σ i.toNatClampNeg) (hdg : decode cc pc = .ok (.iaload, 1)) (kk : W p l e R s m args below meth c H locs cells slots Q (F0 m (pc + 1) ls (.int x :: rest))) : W p l e R s m args below meth c H locs cells slots Q (F0 m pc ls (.int i :: .ref (h 7) :: rest)) := by
  subst h1
  exact va_iald (f := m_plain σ) S.1 S.2.1 hK hI.1 5 0 rfl rfl hi hdg kk
theorem mu_plain (S : CallFix p m c cc nL s args Ts RX1) (hK : gK G s) (hI : mI s A G h0 h σ H locs) {i : Int32} {x : Int32} {σ1 : mS} (hi : vp_in i 4096) (h1 : σ1 = m_s_plain σ (upd (m_plain σ) i.toNatClampNeg x)) (hdg : decode cc pc = .ok (.iastore, 1)) (kk : ∀ (H1 : Heap) (locs1 : List Loc), mI s A G h0 h σ1 H1 locs1 → W p l e R s m args below meth c H1 locs1 cells slots Q (F0 m (pc + 1) ls rest)) : W p l e R s m args below meth c H locs cells slots Q (F0 m pc ls (.int x :: .int i :: .ref (h 7) :: rest)) := by
  subst h1
  exact va_iast (f := m_plain σ) S.1 S.2.1 hK hI.1 hI.2.1 hI.2.2 5 0 rfl rfl hi hdg (fun H locs hP hD hS => kk H locs ⟨hP, hD, hS⟩)
theorem mg_link (S : CallFix p m c cc nL s args Ts RX1) (hin : ∀ w ∈ wsX10, w ∈ Ts) (hK : gK G s) (hI : mI s A G h0 h σ H locs) {ix : Nat} (hm : Cond.fieldLink RX1 ix "OwnMemoryModel" "link" "[I" ∈ Ts) (hdg : decode cc pc = .ok (.getfield ix, 3)) (kk : W p l e R s m args below meth c H locs cells slots Q (F0 m (pc + 3) ls (.ref (h 8) :: rest))) : W p l e R s m args below meth c H locs cells slots Q (F0 m pc ls (.ref h0 :: rest)) :=
  va_get (D := G.1) (ci := 3) (v := .ref (h 8)) (C := RX1) (T := TX1) (N := 21) S.1 S.2.1 S.2.2.2.2 hin S.2.2.2.1 hK hI.1 0 rfl rfl 8 (by decide) (S.2.2.2.2 _ hm) (fun _ h9 => h9) rfl hdg kk
theorem mr_link (S : CallFix p m c cc nL s args Ts RX1) (hK : gK G s) (hI : mI s A G h0 h σ H locs) {i : Int32} {x : Int32} (hi : vp_in i 32768) (h1 : x = m_link σ i.toNatClampNeg) (hdg : decode cc pc = .ok (.iaload, 1)) (kk : W p l e R s m args below meth c H locs cells slots Q (F0 m (pc + 1) ls (.int x :: rest))) : W p l e R s m args below meth c H locs cells slots Q (F0 m pc ls (.int i :: .ref (h 8) :: rest)) := by
  subst h1
  exact va_iald (f := m_link σ) S.1 S.2.1 hK hI.1 6 0 rfl rfl hi hdg kk
theorem mu_link (S : CallFix p m c cc nL s args Ts RX1) (hK : gK G s) (hI : mI s A G h0 h σ H locs) {i : Int32} {x : Int32} {σ1 : mS} (hi : vp_in i 32768) (h1 : σ1 = m_s_link σ (upd (m_link σ) i.toNatClampNeg x)) (hdg : decode cc pc = .ok (.iastore, 1)) (kk : ∀ (H1 : Heap) (locs1 : List Loc), mI s A G h0 h σ1 H1 locs1 → W p l e R s m args below meth c H1 locs1 cells slots Q (F0 m (pc + 1) ls rest)) : W p l e R s m args below meth c H locs cells slots Q (F0 m pc ls (.int x :: .int i :: .ref (h 8) :: rest)) := by
  subst h1
  exact va_iast (f := m_link σ) S.1 S.2.1 hK hI.1 hI.2.1 hI.2.2 6 0 rfl rfl hi hdg (fun H locs hP hD hS => kk H locs ⟨hP, hD, hS⟩)
theorem mg_number (S : CallFix p m c cc nL s args Ts RX1) (hin : ∀ w ∈ wsX10, w ∈ Ts) (hK : gK G s) (hI : mI s A G h0 h σ H locs) {ix : Nat} (hm : Cond.fieldLink RX1 ix "OwnMemoryModel" "number" "[J" ∈ Ts) (hdg : decode cc pc = .ok (.getfield ix, 3)) (kk : W p l e R s m args below meth c H locs cells slots Q (F0 m (pc + 3) ls (.ref (h 9) :: rest))) : W p l e R s m args below meth c H locs cells slots Q (F0 m pc ls (.ref h0 :: rest)) :=
  va_get (D := G.1) (ci := 3) (v := .ref (h 9)) (C := RX1) (T := TX1) (N := 21) S.1 S.2.1 S.2.2.2.2 hin S.2.2.2.1 hK hI.1 0 rfl rfl 9 (by decide) (S.2.2.2.2 _ hm) (fun _ h9 => h9) rfl hdg kk
theorem mr_number (S : CallFix p m c cc nL s args Ts RX1) (hK : gK G s) (hI : mI s A G h0 h σ H locs) {i : Int32} {x : Int64} (hi : vp_in i 32768) (h1 : x = m_number σ i.toNatClampNeg) (hdg : decode cc pc = .ok (.laload, 1)) (kk : W p l e R s m args below meth c H locs cells slots Q (F0 m (pc + 1) ls (.long x :: rest))) : W p l e R s m args below meth c H locs cells slots Q (F0 m pc ls (.int i :: .ref (h 9) :: rest)) := by
  subst h1
  exact va_lald (f := m_number σ) S.1 S.2.1 hK hI.1 7 1 rfl rfl hi hdg kk
theorem mu_number (S : CallFix p m c cc nL s args Ts RX1) (hK : gK G s) (hI : mI s A G h0 h σ H locs) {i : Int32} {x : Int64} {σ1 : mS} (hi : vp_in i 32768) (h1 : σ1 = m_s_number σ (vp_updL (m_number σ) i.toNatClampNeg x)) (hdg : decode cc pc = .ok (.lastore, 1)) (kk : ∀ (H1 : Heap) (locs1 : List Loc), mI s A G h0 h σ1 H1 locs1 → W p l e R s m args below meth c H1 locs1 cells slots Q (F0 m (pc + 1) ls rest)) : W p l e R s m args below meth c H locs cells slots Q (F0 m pc ls (.long x :: .int i :: .ref (h 9) :: rest)) := by
  subst h1
  exact va_last (f := m_number σ) S.1 S.2.1 hK hI.1 hI.2.1 hI.2.2 7 1 rfl rfl hi hdg (fun H locs hP hD hS => kk H locs ⟨hP, hD, hS⟩)
theorem mg_refers (S : CallFix p m c cc nL s args Ts RX1) (hin : ∀ w ∈ wsX10, w ∈ Ts) (hK : gK G s) (hI : mI s A G h0 h σ H locs) {ix : Nat} (hm : Cond.fieldLink RX1 ix "OwnMemoryModel" "refers" "[I" ∈ Ts) (hdg : decode cc pc = .ok (.getfield ix, 3)) (kk : W p l e R s m args below meth c H locs cells slots Q (F0 m (pc + 3) ls (.ref (h 10) :: rest))) : W p l e R s m args below meth c H locs cells slots Q (F0 m pc ls (.ref h0 :: rest)) :=
  va_get (D := G.1) (ci := 3) (v := .ref (h 10)) (C := RX1) (T := TX1) (N := 21) S.1 S.2.1 S.2.2.2.2 hin S.2.2.2.1 hK hI.1 0 rfl rfl 10 (by decide) (S.2.2.2.2 _ hm) (fun _ h9 => h9) rfl hdg kk
theorem mr_refers (S : CallFix p m c cc nL s args Ts RX1) (hK : gK G s) (hI : mI s A G h0 h σ H locs) {i : Int32} {x : Int32} (hi : vp_in i 32768) (h1 : x = m_refers σ i.toNatClampNeg) (hdg : decode cc pc = .ok (.iaload, 1)) (kk : W p l e R s m args below meth c H locs cells slots Q (F0 m (pc + 1) ls (.int x :: rest))) : W p l e R s m args below meth c H locs cells slots Q (F0 m pc ls (.int i :: .ref (h 10) :: rest)) := by
  subst h1
  exact va_iald (f := m_refers σ) S.1 S.2.1 hK hI.1 8 0 rfl rfl hi hdg kk
theorem mu_refers (S : CallFix p m c cc nL s args Ts RX1) (hK : gK G s) (hI : mI s A G h0 h σ H locs) {i : Int32} {x : Int32} {σ1 : mS} (hi : vp_in i 32768) (h1 : σ1 = m_s_refers σ (upd (m_refers σ) i.toNatClampNeg x)) (hdg : decode cc pc = .ok (.iastore, 1)) (kk : ∀ (H1 : Heap) (locs1 : List Loc), mI s A G h0 h σ1 H1 locs1 → W p l e R s m args below meth c H1 locs1 cells slots Q (F0 m (pc + 1) ls rest)) : W p l e R s m args below meth c H locs cells slots Q (F0 m pc ls (.int x :: .int i :: .ref (h 10) :: rest)) := by
  subst h1
  exact va_iast (f := m_refers σ) S.1 S.2.1 hK hI.1 hI.2.1 hI.2.2 8 0 rfl rfl hi hdg (fun H locs hP hD hS => kk H locs ⟨hP, hD, hS⟩)
theorem mg_word (S : CallFix p m c cc nL s args Ts RX1) (hin : ∀ w ∈ wsX10, w ∈ Ts) (hK : gK G s) (hI : mI s A G h0 h σ H locs) {ix : Nat} (hm : Cond.fieldLink RX1 ix "OwnMemoryModel" "word" "[I" ∈ Ts) (hdg : decode cc pc = .ok (.getfield ix, 3)) (kk : W p l e R s m args below meth c H locs cells slots Q (F0 m (pc + 3) ls (.ref (h 11) :: rest))) : W p l e R s m args below meth c H locs cells slots Q (F0 m pc ls (.ref h0 :: rest)) :=
  va_get (D := G.1) (ci := 3) (v := .ref (h 11)) (C := RX1) (T := TX1) (N := 21) S.1 S.2.1 S.2.2.2.2 hin S.2.2.2.1 hK hI.1 0 rfl rfl 11 (by decide) (S.2.2.2.2 _ hm) (fun _ h9 => h9) rfl hdg kk
theorem mr_word (S : CallFix p m c cc nL s args Ts RX1) (hK : gK G s) (hI : mI s A G h0 h σ H locs) {i : Int32} {x : Int32} (hi : vp_in i 65536) (h1 : x = m_word σ i.toNatClampNeg) (hdg : decode cc pc = .ok (.iaload, 1)) (kk : W p l e R s m args below meth c H locs cells slots Q (F0 m (pc + 1) ls (.int x :: rest))) : W p l e R s m args below meth c H locs cells slots Q (F0 m pc ls (.int i :: .ref (h 11) :: rest)) := by
  subst h1
  exact va_iald (f := m_word σ) S.1 S.2.1 hK hI.1 9 0 rfl rfl hi hdg kk
theorem mu_word (S : CallFix p m c cc nL s args Ts RX1) (hK : gK G s) (hI : mI s A G h0 h σ H locs) {i : Int32} {x : Int32} {σ1 : mS} (hi : vp_in i 65536) (h1 : σ1 = m_s_word σ (upd (m_word σ) i.toNatClampNeg x)) (hdg : decode cc pc = .ok (.iastore, 1)) (kk : ∀ (H1 : Heap) (locs1 : List Loc), mI s A G h0 h σ1 H1 locs1 → W p l e R s m args below meth c H1 locs1 cells slots Q (F0 m (pc + 1) ls rest)) : W p l e R s m args below meth c H locs cells slots Q (F0 m pc ls (.int x :: .int i :: .ref (h 11) :: rest)) := by
  subst h1
  exact va_iast (f := m_word σ) S.1 S.2.1 hK hI.1 hI.2.1 hI.2.2 9 0 rfl rfl hi hdg (fun H locs hP hD hS => kk H locs ⟨hP, hD, hS⟩)
theorem mg_length (S : CallFix p m c cc nL s args Ts RX1) (hin : ∀ w ∈ wsX10, w ∈ Ts) (hK : gK G s) (hI : mI s A G h0 h σ H locs) {ix : Nat} (hm : Cond.fieldLink RX1 ix "OwnMemoryModel" "length" "[I" ∈ Ts) (hdg : decode cc pc = .ok (.getfield ix, 3)) (kk : W p l e R s m args below meth c H locs cells slots Q (F0 m (pc + 3) ls (.ref (h 12) :: rest))) : W p l e R s m args below meth c H locs cells slots Q (F0 m pc ls (.ref h0 :: rest)) :=
  va_get (D := G.1) (ci := 3) (v := .ref (h 12)) (C := RX1) (T := TX1) (N := 21) S.1 S.2.1 S.2.2.2.2 hin S.2.2.2.1 hK hI.1 0 rfl rfl 12 (by decide) (S.2.2.2.2 _ hm) (fun _ h9 => h9) rfl hdg kk
theorem mr_length (S : CallFix p m c cc nL s args Ts RX1) (hK : gK G s) (hI : mI s A G h0 h σ H locs) {i : Int32} {x : Int32} (hi : vp_in i 4096) (h1 : x = m_length σ i.toNatClampNeg) (hdg : decode cc pc = .ok (.iaload, 1)) (kk : W p l e R s m args below meth c H locs cells slots Q (F0 m (pc + 1) ls (.int x :: rest))) : W p l e R s m args below meth c H locs cells slots Q (F0 m pc ls (.int i :: .ref (h 12) :: rest)) := by
  subst h1
  exact va_iald (f := m_length σ) S.1 S.2.1 hK hI.1 10 0 rfl rfl hi hdg kk
theorem mu_length (S : CallFix p m c cc nL s args Ts RX1) (hK : gK G s) (hI : mI s A G h0 h σ H locs) {i : Int32} {x : Int32} {σ1 : mS} (hi : vp_in i 4096) (h1 : σ1 = m_s_length σ (upd (m_length σ) i.toNatClampNeg x)) (hdg : decode cc pc = .ok (.iastore, 1)) (kk : ∀ (H1 : Heap) (locs1 : List Loc), mI s A G h0 h σ1 H1 locs1 → W p l e R s m args below meth c H1 locs1 cells slots Q (F0 m (pc + 1) ls rest)) : W p l e R s m args below meth c H locs cells slots Q (F0 m pc ls (.int x :: .int i :: .ref (h 12) :: rest)) := by
  subst h1
  exact va_iast (f := m_length σ) S.1 S.2.1 hK hI.1 hI.2.1 hI.2.2 10 0 rfl rfl hi hdg (fun H locs hP hD hS => kk H locs ⟨hP, hD, hS⟩)
theorem mg_madeOf (S : CallFix p m c cc nL s args Ts RX1) (hin : ∀ w ∈ wsX10, w ∈ Ts) (hK : gK G s) (hI : mI s A G h0 h σ H locs) {ix : Nat} (hm : Cond.fieldLink RX1 ix "OwnMemoryModel" "madeOf" "[I" ∈ Ts) (hdg : decode cc pc = .ok (.getfield ix, 3)) (kk : W p l e R s m args below meth c H locs cells slots Q (F0 m (pc + 3) ls (.ref (h 13) :: rest))) : W p l e R s m args below meth c H locs cells slots Q (F0 m pc ls (.ref h0 :: rest)) :=
  va_get (D := G.1) (ci := 3) (v := .ref (h 13)) (C := RX1) (T := TX1) (N := 21) S.1 S.2.1 S.2.2.2.2 hin S.2.2.2.1 hK hI.1 0 rfl rfl 13 (by decide) (S.2.2.2.2 _ hm) (fun _ h9 => h9) rfl hdg kk
theorem mr_madeOf (S : CallFix p m c cc nL s args Ts RX1) (hK : gK G s) (hI : mI s A G h0 h σ H locs) {i : Int32} {x : Int32} (hi : vp_in i 4096) (h1 : x = m_madeOf σ i.toNatClampNeg) (hdg : decode cc pc = .ok (.iaload, 1)) (kk : W p l e R s m args below meth c H locs cells slots Q (F0 m (pc + 1) ls (.int x :: rest))) : W p l e R s m args below meth c H locs cells slots Q (F0 m pc ls (.int i :: .ref (h 13) :: rest)) := by
  subst h1
  exact va_iald (f := m_madeOf σ) S.1 S.2.1 hK hI.1 11 0 rfl rfl hi hdg kk
theorem mu_madeOf (S : CallFix p m c cc nL s args Ts RX1) (hK : gK G s) (hI : mI s A G h0 h σ H locs) {i : Int32} {x : Int32} {σ1 : mS} (hi : vp_in i 4096) (h1 : σ1 = m_s_madeOf σ (upd (m_madeOf σ) i.toNatClampNeg x)) (hdg : decode cc pc = .ok (.iastore, 1)) (kk : ∀ (H1 : Heap) (locs1 : List Loc), mI s A G h0 h σ1 H1 locs1 → W p l e R s m args below meth c H1 locs1 cells slots Q (F0 m (pc + 1) ls rest)) : W p l e R s m args below meth c H locs cells slots Q (F0 m pc ls (.int x :: .int i :: .ref (h 13) :: rest)) := by
  subst h1
  exact va_iast (f := m_madeOf σ) S.1 S.2.1 hK hI.1 hI.2.1 hI.2.2 11 0 rfl rfl hi hdg (fun H locs hP hD hS => kk H locs ⟨hP, hD, hS⟩)
theorem mg_a (S : CallFix p m c cc nL s args Ts RX1) (hin : ∀ w ∈ wsX10, w ∈ Ts) (hK : gK G s) (hI : mI s A G h0 h σ H locs) {ix : Nat} (hm : Cond.fieldLink RX1 ix "OwnMemoryModel" "a" "[I" ∈ Ts) (hdg : decode cc pc = .ok (.getfield ix, 3)) (kk : W p l e R s m args below meth c H locs cells slots Q (F0 m (pc + 3) ls (.ref (h 14) :: rest))) : W p l e R s m args below meth c H locs cells slots Q (F0 m pc ls (.ref h0 :: rest)) :=
  va_get (D := G.1) (ci := 3) (v := .ref (h 14)) (C := RX1) (T := TX1) (N := 21) S.1 S.2.1 S.2.2.2.2 hin S.2.2.2.1 hK hI.1 0 rfl rfl 14 (by decide) (S.2.2.2.2 _ hm) (fun _ h9 => h9) rfl hdg kk
theorem mr_a (S : CallFix p m c cc nL s args Ts RX1) (hK : gK G s) (hI : mI s A G h0 h σ H locs) {i : Int32} {x : Int32} (hi : vp_in i 4096) (h1 : x = m_a σ i.toNatClampNeg) (hdg : decode cc pc = .ok (.iaload, 1)) (kk : W p l e R s m args below meth c H locs cells slots Q (F0 m (pc + 1) ls (.int x :: rest))) : W p l e R s m args below meth c H locs cells slots Q (F0 m pc ls (.int i :: .ref (h 14) :: rest)) := by
  subst h1
  exact va_iald (f := m_a σ) S.1 S.2.1 hK hI.1 12 0 rfl rfl hi hdg kk
theorem mu_a (S : CallFix p m c cc nL s args Ts RX1) (hK : gK G s) (hI : mI s A G h0 h σ H locs) {i : Int32} {x : Int32} {σ1 : mS} (hi : vp_in i 4096) (h1 : σ1 = m_s_a σ (upd (m_a σ) i.toNatClampNeg x)) (hdg : decode cc pc = .ok (.iastore, 1)) (kk : ∀ (H1 : Heap) (locs1 : List Loc), mI s A G h0 h σ1 H1 locs1 → W p l e R s m args below meth c H1 locs1 cells slots Q (F0 m (pc + 1) ls rest)) : W p l e R s m args below meth c H locs cells slots Q (F0 m pc ls (.int x :: .int i :: .ref (h 14) :: rest)) := by
  subst h1
  exact va_iast (f := m_a σ) S.1 S.2.1 hK hI.1 hI.2.1 hI.2.2 12 0 rfl rfl hi hdg (fun H locs hP hD hS => kk H locs ⟨hP, hD, hS⟩)
theorem mg_b (S : CallFix p m c cc nL s args Ts RX1) (hin : ∀ w ∈ wsX10, w ∈ Ts) (hK : gK G s) (hI : mI s A G h0 h σ H locs) {ix : Nat} (hm : Cond.fieldLink RX1 ix "OwnMemoryModel" "b" "[I" ∈ Ts) (hdg : decode cc pc = .ok (.getfield ix, 3)) (kk : W p l e R s m args below meth c H locs cells slots Q (F0 m (pc + 3) ls (.ref (h 15) :: rest))) : W p l e R s m args below meth c H locs cells slots Q (F0 m pc ls (.ref h0 :: rest)) :=
  va_get (D := G.1) (ci := 3) (v := .ref (h 15)) (C := RX1) (T := TX1) (N := 21) S.1 S.2.1 S.2.2.2.2 hin S.2.2.2.1 hK hI.1 0 rfl rfl 15 (by decide) (S.2.2.2.2 _ hm) (fun _ h9 => h9) rfl hdg kk
theorem mr_b (S : CallFix p m c cc nL s args Ts RX1) (hK : gK G s) (hI : mI s A G h0 h σ H locs) {i : Int32} {x : Int32} (hi : vp_in i 4096) (h1 : x = m_b σ i.toNatClampNeg) (hdg : decode cc pc = .ok (.iaload, 1)) (kk : W p l e R s m args below meth c H locs cells slots Q (F0 m (pc + 1) ls (.int x :: rest))) : W p l e R s m args below meth c H locs cells slots Q (F0 m pc ls (.int i :: .ref (h 15) :: rest)) := by
  subst h1
  exact va_iald (f := m_b σ) S.1 S.2.1 hK hI.1 13 0 rfl rfl hi hdg kk
theorem mu_b (S : CallFix p m c cc nL s args Ts RX1) (hK : gK G s) (hI : mI s A G h0 h σ H locs) {i : Int32} {x : Int32} {σ1 : mS} (hi : vp_in i 4096) (h1 : σ1 = m_s_b σ (upd (m_b σ) i.toNatClampNeg x)) (hdg : decode cc pc = .ok (.iastore, 1)) (kk : ∀ (H1 : Heap) (locs1 : List Loc), mI s A G h0 h σ1 H1 locs1 → W p l e R s m args below meth c H1 locs1 cells slots Q (F0 m (pc + 1) ls rest)) : W p l e R s m args below meth c H locs cells slots Q (F0 m pc ls (.int x :: .int i :: .ref (h 15) :: rest)) := by
  subst h1
  exact va_iast (f := m_b σ) S.1 S.2.1 hK hI.1 hI.2.1 hI.2.2 13 0 rfl rfl hi hdg (fun H locs hP hD hS => kk H locs ⟨hP, hD, hS⟩)
theorem mg_units (S : CallFix p m c cc nL s args Ts RX1) (hin : ∀ w ∈ wsX10, w ∈ Ts) (hK : gK G s) (hI : mI s A G h0 h σ H locs) {ix : Nat} (hm : Cond.fieldLink RX1 ix "OwnMemoryModel" "units" "[J" ∈ Ts) (hdg : decode cc pc = .ok (.getfield ix, 3)) (kk : W p l e R s m args below meth c H locs cells slots Q (F0 m (pc + 3) ls (.ref (h 16) :: rest))) : W p l e R s m args below meth c H locs cells slots Q (F0 m pc ls (.ref h0 :: rest)) :=
  va_get (D := G.1) (ci := 3) (v := .ref (h 16)) (C := RX1) (T := TX1) (N := 21) S.1 S.2.1 S.2.2.2.2 hin S.2.2.2.1 hK hI.1 0 rfl rfl 16 (by decide) (S.2.2.2.2 _ hm) (fun _ h9 => h9) rfl hdg kk
theorem mr_units (S : CallFix p m c cc nL s args Ts RX1) (hK : gK G s) (hI : mI s A G h0 h σ H locs) {i : Int32} {x : Int64} (hi : vp_in i 4096) (h1 : x = m_units σ i.toNatClampNeg) (hdg : decode cc pc = .ok (.laload, 1)) (kk : W p l e R s m args below meth c H locs cells slots Q (F0 m (pc + 1) ls (.long x :: rest))) : W p l e R s m args below meth c H locs cells slots Q (F0 m pc ls (.int i :: .ref (h 16) :: rest)) := by
  subst h1
  exact va_lald (f := m_units σ) S.1 S.2.1 hK hI.1 14 1 rfl rfl hi hdg kk
theorem mu_units (S : CallFix p m c cc nL s args Ts RX1) (hK : gK G s) (hI : mI s A G h0 h σ H locs) {i : Int32} {x : Int64} {σ1 : mS} (hi : vp_in i 4096) (h1 : σ1 = m_s_units σ (vp_updL (m_units σ) i.toNatClampNeg x)) (hdg : decode cc pc = .ok (.lastore, 1)) (kk : ∀ (H1 : Heap) (locs1 : List Loc), mI s A G h0 h σ1 H1 locs1 → W p l e R s m args below meth c H1 locs1 cells slots Q (F0 m (pc + 1) ls rest)) : W p l e R s m args below meth c H locs cells slots Q (F0 m pc ls (.long x :: .int i :: .ref (h 16) :: rest)) := by
  subst h1
  exact va_last (f := m_units σ) S.1 S.2.1 hK hI.1 hI.2.1 hI.2.2 14 1 rfl rfl hi hdg (fun H locs hP hD hS => kk H locs ⟨hP, hD, hS⟩)
theorem mg_spread (S : CallFix p m c cc nL s args Ts RX1) (hin : ∀ w ∈ wsX10, w ∈ Ts) (hK : gK G s) (hI : mI s A G h0 h σ H locs) {ix : Nat} (hm : Cond.fieldLink RX1 ix "OwnMemoryModel" "spread" "[I" ∈ Ts) (hdg : decode cc pc = .ok (.getfield ix, 3)) (kk : W p l e R s m args below meth c H locs cells slots Q (F0 m (pc + 3) ls (.ref (h 17) :: rest))) : W p l e R s m args below meth c H locs cells slots Q (F0 m pc ls (.ref h0 :: rest)) :=
  va_get (D := G.1) (ci := 3) (v := .ref (h 17)) (C := RX1) (T := TX1) (N := 21) S.1 S.2.1 S.2.2.2.2 hin S.2.2.2.1 hK hI.1 0 rfl rfl 17 (by decide) (S.2.2.2.2 _ hm) (fun _ h9 => h9) rfl hdg kk
theorem mr_spread (S : CallFix p m c cc nL s args Ts RX1) (hK : gK G s) (hI : mI s A G h0 h σ H locs) {i : Int32} {x : Int32} (hi : vp_in i 4096) (h1 : x = m_spread σ i.toNatClampNeg) (hdg : decode cc pc = .ok (.iaload, 1)) (kk : W p l e R s m args below meth c H locs cells slots Q (F0 m (pc + 1) ls (.int x :: rest))) : W p l e R s m args below meth c H locs cells slots Q (F0 m pc ls (.int i :: .ref (h 17) :: rest)) := by
  subst h1
  exact va_iald (f := m_spread σ) S.1 S.2.1 hK hI.1 15 0 rfl rfl hi hdg kk
theorem mu_spread (S : CallFix p m c cc nL s args Ts RX1) (hK : gK G s) (hI : mI s A G h0 h σ H locs) {i : Int32} {x : Int32} {σ1 : mS} (hi : vp_in i 4096) (h1 : σ1 = m_s_spread σ (upd (m_spread σ) i.toNatClampNeg x)) (hdg : decode cc pc = .ok (.iastore, 1)) (kk : ∀ (H1 : Heap) (locs1 : List Loc), mI s A G h0 h σ1 H1 locs1 → W p l e R s m args below meth c H1 locs1 cells slots Q (F0 m (pc + 1) ls rest)) : W p l e R s m args below meth c H locs cells slots Q (F0 m pc ls (.int x :: .int i :: .ref (h 17) :: rest)) := by
  subst h1
  exact va_iast (f := m_spread σ) S.1 S.2.1 hK hI.1 hI.2.1 hI.2.2 15 0 rfl rfl hi hdg (fun H locs hP hD hS => kk H locs ⟨hP, hD, hS⟩)
theorem mg_there (S : CallFix p m c cc nL s args Ts RX1) (hin : ∀ w ∈ wsX10, w ∈ Ts) (hK : gK G s) (hI : mI s A G h0 h σ H locs) {ix : Nat} (hm : Cond.fieldLink RX1 ix "OwnMemoryModel" "there" "[Z" ∈ Ts) (hdg : decode cc pc = .ok (.getfield ix, 3)) (kk : W p l e R s m args below meth c H locs cells slots Q (F0 m (pc + 3) ls (.ref (h 18) :: rest))) : W p l e R s m args below meth c H locs cells slots Q (F0 m pc ls (.ref h0 :: rest)) :=
  va_get (D := G.1) (ci := 3) (v := .ref (h 18)) (C := RX1) (T := TX1) (N := 21) S.1 S.2.1 S.2.2.2.2 hin S.2.2.2.1 hK hI.1 0 rfl rfl 18 (by decide) (S.2.2.2.2 _ hm) (fun _ h9 => h9) rfl hdg kk
theorem mr_there (S : CallFix p m c cc nL s args Ts RX1) (hK : gK G s) (hI : mI s A G h0 h σ H locs) {i : Int32} {x : Int32} (hi : vp_in i 4096) (h1 : x = m_there σ i.toNatClampNeg) (hdg : decode cc pc = .ok (.baload, 1)) (kk : W p l e R s m args below meth c H locs cells slots Q (F0 m (pc + 1) ls (.int x :: rest))) : W p l e R s m args below meth c H locs cells slots Q (F0 m pc ls (.int i :: .ref (h 18) :: rest)) := by
  subst h1
  exact va_zald (f := m_there σ) S.1 S.2.1 hK hI.1 16 2 rfl rfl hi hdg kk
theorem mu_there (S : CallFix p m c cc nL s args Ts RX1) (hK : gK G s) (hI : mI s A G h0 h σ H locs) {i : Int32} {x : Int32} {σ1 : mS} (hi : vp_in i 4096) (h1 : σ1 = m_s_there σ (upd (m_there σ) i.toNatClampNeg (vp_nar .boolean x))) (hdg : decode cc pc = .ok (.bastore, 1)) (kk : ∀ (H1 : Heap) (locs1 : List Loc), mI s A G h0 h σ1 H1 locs1 → W p l e R s m args below meth c H1 locs1 cells slots Q (F0 m (pc + 1) ls rest)) : W p l e R s m args below meth c H locs cells slots Q (F0 m pc ls (.int x :: .int i :: .ref (h 18) :: rest)) := by
  subst h1
  exact va_zast (f := m_there σ) S.1 S.2.1 hK hI.1 hI.2.1 hI.2.2 16 2 rfl rfl hi hdg (fun H locs hP hD hS => kk H locs ⟨hP, hD, hS⟩)
theorem mg_waiting (S : CallFix p m c cc nL s args Ts RX1) (hin : ∀ w ∈ wsX10, w ∈ Ts) (hK : gK G s) (hI : mI s A G h0 h σ H locs) {ix : Nat} (hm : Cond.fieldLink RX1 ix "OwnMemoryModel" "waiting" "[I" ∈ Ts) (hdg : decode cc pc = .ok (.getfield ix, 3)) (kk : W p l e R s m args below meth c H locs cells slots Q (F0 m (pc + 3) ls (.ref (h 19) :: rest))) : W p l e R s m args below meth c H locs cells slots Q (F0 m pc ls (.ref h0 :: rest)) :=
  va_get (D := G.1) (ci := 3) (v := .ref (h 19)) (C := RX1) (T := TX1) (N := 21) S.1 S.2.1 S.2.2.2.2 hin S.2.2.2.1 hK hI.1 0 rfl rfl 19 (by decide) (S.2.2.2.2 _ hm) (fun _ h9 => h9) rfl hdg kk
theorem mr_waiting (S : CallFix p m c cc nL s args Ts RX1) (hK : gK G s) (hI : mI s A G h0 h σ H locs) {i : Int32} {x : Int32} (hi : vp_in i 4096) (h1 : x = m_waiting σ i.toNatClampNeg) (hdg : decode cc pc = .ok (.iaload, 1)) (kk : W p l e R s m args below meth c H locs cells slots Q (F0 m (pc + 1) ls (.int x :: rest))) : W p l e R s m args below meth c H locs cells slots Q (F0 m pc ls (.int i :: .ref (h 19) :: rest)) := by
  subst h1
  exact va_iald (f := m_waiting σ) S.1 S.2.1 hK hI.1 17 0 rfl rfl hi hdg kk
theorem mu_waiting (S : CallFix p m c cc nL s args Ts RX1) (hK : gK G s) (hI : mI s A G h0 h σ H locs) {i : Int32} {x : Int32} {σ1 : mS} (hi : vp_in i 4096) (h1 : σ1 = m_s_waiting σ (upd (m_waiting σ) i.toNatClampNeg x)) (hdg : decode cc pc = .ok (.iastore, 1)) (kk : ∀ (H1 : Heap) (locs1 : List Loc), mI s A G h0 h σ1 H1 locs1 → W p l e R s m args below meth c H1 locs1 cells slots Q (F0 m (pc + 1) ls rest)) : W p l e R s m args below meth c H locs cells slots Q (F0 m pc ls (.int x :: .int i :: .ref (h 19) :: rest)) := by
  subst h1
  exact va_iast (f := m_waiting σ) S.1 S.2.1 hK hI.1 hI.2.1 hI.2.2 17 0 rfl rfl hi hdg (fun H locs hP hD hS => kk H locs ⟨hP, hD, hS⟩)
theorem mg_wait (S : CallFix p m c cc nL s args Ts RX1) (hin : ∀ w ∈ wsX10, w ∈ Ts) (hK : gK G s) (hI : mI s A G h0 h σ H locs) {ix : Nat} (hm : Cond.fieldLink RX1 ix "OwnMemoryModel" "wait" "I" ∈ Ts) (hdg : decode cc pc = .ok (.getfield ix, 3)) (kk : W p l e R s m args below meth c H locs cells slots Q (F0 m (pc + 3) ls (.int (m_wait σ) :: rest))) : W p l e R s m args below meth c H locs cells slots Q (F0 m pc ls (.ref h0 :: rest)) :=
  va_get (D := G.1) (ci := 3) (v := .int (m_wait σ)) (C := RX1) (T := TX1) (N := 21) S.1 S.2.1 S.2.2.2.2 hin S.2.2.2.1 hK hI.1 0 rfl rfl 20 (by decide) (S.2.2.2.2 _ hm) (fun _ h9 => h9) rfl hdg kk
theorem mp_wait (S : CallFix p m c cc nL s args Ts RX1) (hin : ∀ w ∈ wsX10, w ∈ Ts) (hK : gK G s) (hI : mI s A G h0 h σ H locs) {ix : Nat} {x : Int32} {σ1 : mS} (hm : Cond.fieldLink RX1 ix "OwnMemoryModel" "wait" "I" ∈ Ts) (h1 : σ1 = m_s_wait σ x) (hdg : decode cc pc = .ok (.putfield ix, 3)) (kk : ∀ (H1 : Heap) (locs1 : List Loc), mI s A G h0 h σ1 H1 locs1 → W p l e R s m args below meth c H1 locs1 cells slots Q (F0 m (pc + 3) ls rest)) : W p l e R s m args below meth c H locs cells slots Q (F0 m pc ls (.int x :: .ref h0 :: rest)) := by
  subst h1
  exact va_put (D := G.1) (ci := 3) (v := .int x) (ty := .int) (C := RX1) (T := TX1) (N := 21) S.1 S.2.1 S.2.2.2.2 hin tyX1 tyX1_ok nmX1 S.2.2.2.1 hK hI.1 hI.2.1 hI.2.2 0 rfl rfl 20 (by decide) (S.2.2.2.2 _ hm) (fun _ h9 => h9) rfl (by decide +kernel) rfl rfl (Nat.le_of_ble_eq_true rfl) hdg (fun H locs hP hD hS => kk H locs ⟨hP, hD, hS⟩)
end MW
end
section
/-! calls, ends and entries over the two worlds -/
def sPre (sz : Nat) (av : List Value) : Array Value → State → Prop := va_Pc av (fun U => U.heap.size = sz)
theorem sPre_blind {sz : Nat} {av : List Value} : FrameBlind (sPre sz av) := by
  intro a U g mk q
  obtain ⟨q0, q1⟩ := q
  exact ⟨q0, q1⟩
def sQi (r : Int32) (sz : Nat) : Array Value → State → Outcome → State → Prop := va_Qi (fun (a : Int32) (_ : Unit) => a = r) (fun _ _ => True) (fun q => sz ≤ q)
def sI (s : State) (H : Heap) (locs : List Loc) : Prop := va_S (fun q => s.heap.size ≤ q) s.heap H locs
section SE
variable {p : Program} {l : Launch} {e : Env} {R : Room} {s : State} {m : MethodId} {args : Array Value} {below : List Frame} {meth : Method} {c : Code} {H : Heap} {locs : List Loc} {cells slots : Nat} {Q : State → Prop}
variable {cc : ByteArray} {pc : Nat} {ls : Array Slot} {rest st0 : List Value} {A : Nat → Prop} {G : gT} {h0 : Nat} {nL : Nat} {Ts : List Cond}
variable {y : MethodName} {ws ws' : List Cond} {rm : Room} {bytes : ByteArray} {maxL n index mc ms : Nat} {ret : Option FieldType} {As : List Value}
variable {own : String}
theorem wn_i {x y : Int32} (h : y = x) (k : W p l e R s m args below meth c H locs cells slots Q (F0 m pc ls (.int y :: rest))) : W p l e R s m args below meth c H locs cells slots Q (F0 m pc ls (.int x :: rest)) := h ▸ k
theorem wn_l {x y : Int64} (h : y = x) (k : W p l e R s m args below meth c H locs cells slots Q (F0 m pc ls (.long y :: rest))) : W p l e R s m args below meth c H locs cells slots Q (F0 m pc ls (.long x :: rest)) := h ▸ k
theorem se_i (S : CallFix p m c cc nL s args Ts own) (hr : meth.sig.returnType = some .int) (hlocks : meth.locks = false) (hS : sI s H locs) {r r0 : Int32} (hg : some r0 = some r) (hdg : decode cc pc = .ok (.ireturn, 1)) :
    W p l e R s m args below meth c H locs cells slots (MQ below (sQi r s.heap.size) args s cells slots (fun q => s.heap.size ≤ q)) (F0 m pc ls [.int r0]) := by
  have e1 := sm_e hg
  subst e1
  exact W.iret S.1 S.2.1 hr (fun t ht hW => ⟨⟨r0, (), rfl, rfl, trivial⟩, va_S.F hS ht⟩) hS.2.2 hdg hlocks
theorem se_z (S : CallFix p m c cc nL s args Ts own) (hr : meth.sig.returnType = some .boolean) (hlocks : meth.locks = false) (hS : sI s H locs) {r r0 : Int32} (hz : narrow .boolean (.int r0) = .int r0) (hg : some r0 = some r) (hdg : decode cc pc = .ok (.ireturn, 1)) :
    W p l e R s m args below meth c H locs cells slots (MQ below (sQi r s.heap.size) args s cells slots (fun q => s.heap.size ≤ q)) (F0 m pc ls [.int r0]) := by
  have e1 := sm_e hg
  subst e1
  exact W.zret S.1 S.2.1 hr hz (fun t ht hW => ⟨⟨r0, (), rfl, rfl, trivial⟩, va_S.F hS ht⟩) hS.2.2 hdg hlocks
/-- a call of a pure static method out of one -/
theorem ss_i (S : CallFix p m c cc nL s args Ts own) (hS : sI s H locs) {r : Int32}
    (hM : Met l y ws rm (sPre H.size As) (sQi r H.size) mc ms (fun q => H.size ≤ q))
    (cw : CallB R s args own index y bytes maxL ret ws rm mc ms n ∧ (Cond.static y).before args s = true) (hn : As.length = n) (hs : ls.size = nL) (hst : st0 = As.reverse ++ rest) (hW : (rest.map fun v => v.category).sum ≤ 8)
    (hdg : decode cc pc = .ok (.invokestatic index, 3)) (hf : cells + mc ≤ R.cells ∧ slots + ms ≤ R.slots)
    (kk : ∀ (H1 : Heap) (locs1 : List Loc), sI s H1 locs1 → W p l e R s m args below meth c H1 locs1 (cells + mc) (slots + ms) Q (F0 m (pc + 3) ls (.int r :: rest))) :
    W p l e R s m args below meth c H locs cells slots Q (F0 m pc ls st0) := by
  subst hst
  refine va_calli (va_runS (As := As) (rest := rest) S hM cw ⟨sPre_blind, fun U hU _ => ⟨rfl, congrArg (fun X : Heap => Array.size X) hU⟩⟩ rfl hn hs rfl (lv_room hW) hdg hf) hS (fun q hq h => absurd h (Nat.not_le.mpr hq)) (fun q h => Nat.le_trans hS.1 h) (fun r1 u t H1 locs1 ht hvm hw hB hz1 hk1 hS => ?_)
  have hw : r1 = r := hw
  subst hw
  exact kk H1 locs1 hS
theorem sMet {av : List Value} {sz : Nat} {Qc : Nat → Array Value → State → Outcome → State → Prop} (hy : plainName y.cls = true) (hR : y.cls = own) (hw : ws = Cond.code y cc maxL ret :: ws') (hlen : (lg_sl av).length ≤ maxL)
    (body : ∀ (p : Program) (e : Env) (s : State) (m : MethodId) (args : Array Value) (below : List Frame) (meth : Method) (c : Code), CallFix p m c cc maxL s args ws own → meth.sig.returnType = ret → meth.locks = false → ∀ (H : Heap) (locs : List Loc), sI s H locs → ∀ ls : Array Slot, lv_has ls maxL (lv_args 0 av) →
      W p l e rm s m args below meth c H locs 0 0 (MQ below (Qc s.heap.size) args s mc ms (fun q => s.heap.size ≤ q)) (F0 m 0 ls [])) : Met l y ws rm (sPre sz av) (Qc sz) mc ms (fun q => sz ≤ q) := by
  refine Met.ofW (cc := cc) (maxL := maxL) (ret := ret) hy hw ?_
  intro p e s m args below meth c s₁ B hml hv
  obtain ⟨rfl, hsz⟩ := hv
  subst hsz
  have hts := atoms_spec (ws := ws) B.pre
  have hown : s.vm.findClass own = some m.cls := by rw [← hR]; exact findClass_of_methodNamed B.named
  rw [lg_entry_eq]
  exact body p e s m _ below meth c ⟨B.exec, B.bytes, hml, hown, hts⟩ B.returns B.notSynchronized _ _ va_S.rf _ (lv_entry _ hlen)
end SE

theorem oPre_blind {G : gT} {h0 : Nat} {h : oH} {σ : oS} {sz : Nat} {av : List Value} : FrameBlind (oPre G h0 h σ sz av) := by
  intro a U g mk q
  obtain ⟨q0, q1, qP, qK, qD⟩ := q
  exact ⟨q0, q1, qP, gK.moved (u := U) (U := U.calling g mk a) (Vm.Alike.refl U.vm) qK, qD⟩
def oQi (G : gT) (h0 : Nat) (h : oH) (r : Int32) (σ' : oS) (A : Nat → Prop) : Array Value → State → Outcome → State → Prop := va_Qi (fun (a : Int32) (u : oS) => a = r ∧ u = σ') (oAt G A h0 h) A
def oQl (G : gT) (h0 : Nat) (h : oH) (r : Int64) (σ' : oS) (A : Nat → Prop) : Array Value → State → Outcome → State → Prop := va_Ql (fun (a : Int64) (u : oS) => a = r ∧ u = σ') (oAt G A h0 h) A
def oQv (G : gT) (h0 : Nat) (h : oH) (σ' : oS) (A : Nat → Prop) : Array Value → State → Outcome → State → Prop := va_Qv (fun (u : oS) => u = σ') (oAt G A h0 h) A
section OC
variable {p : Program} {l : Launch} {e : Env} {R : Room} {s : State} {m : MethodId} {args : Array Value} {below : List Frame} {meth : Method} {c : Code} {H : Heap} {locs : List Loc} {cells slots : Nat} {Q : State → Prop}
variable {cc : ByteArray} {pc : Nat} {ls : Array Slot} {rest st0 : List Value} {A : Nat → Prop} {G : gT} {h0 : Nat} {nL : Nat} {Ts : List Cond}
variable {y : MethodName} {ws ws' : List Cond} {rm : Room} {bytes : ByteArray} {maxL n index mc ms : Nat} {ret : Option FieldType} {As : List Value}

variable {h : oH} {σ σ' : oS}
theorem ofr (hA : ∀ q, s.heap.size ≤ q → A q) (hI : oI s A G h0 h σ H locs) : ∀ q, oA G h0 h σ H.size q → A q := va_free (wc := ow G h0 h σ) hI.2.1 hI.2.2 hA [0, 1, 2, 3, 4] rfl
theorem opv (hK : gK G s) (hI : oI s A G h0 h σ H locs) : PreV s H RX0 h0 (oPre G h0 h σ H.size As) As :=
  ⟨oPre_blind, va_recv hK hI.1 (ci := 2) (q0 := 0) rfl rfl, fun U hU hW => ⟨rfl, by rw [hU], by rw [hU]; exact hI.1, gK.moved hW.alike hK, hI.2.1.weaken (fun _ _ _ _ => trivial)⟩⟩
/-- a call of a method of the same object: an int, a long, nothing -/
theorem oc_i (S : CallFix p m c cc nL s args Ts RX0) (hK : gK G s) (hA : ∀ q, s.heap.size ≤ q → A q) (hI : oI s A G h0 h σ H locs) {r : Int32}
    (hM : Met l y ws rm (oPre G h0 h σ H.size As) (oQi G h0 h r σ' (oA G h0 h σ H.size)) mc ms (oA G h0 h σ H.size))
    (cw : CallW R s args RX0 RX0 index y bytes maxL ret ws rm mc ms n) (hn : As.length = n) (hs : ls.size = nL) (hst : st0 = As.reverse ++ .ref h0 :: rest) (hW : (rest.map fun v => v.category).sum ≤ 8)
    (hdg : decode cc pc = .ok (.invokevirtual index, 3)) (hf : cells + mc ≤ R.cells ∧ slots + ms ≤ R.slots)
    (kk : ∀ (H1 : Heap) (locs1 : List Loc), oI s A G h0 h σ' H1 locs1 → W p l e R s m args below meth c H1 locs1 (cells + mc) (slots + ms) Q (F0 m (pc + 3) ls (.int r :: rest))) :
    W p l e R s m args below meth c H locs cells slots Q (F0 m pc ls st0) := by
  have hFc := ofr hA hI
  subst hst
  refine va_calli (va_runV (As := As) (rest := rest) S hM cw (opv hK hI) rfl hn hs rfl (lv_room hW) hdg hf) hI.2.2 (fun q _ h => hFc q h) hFc (fun r1 u t H1 locs1 ht hvm hw hB hz1 hk1 hS => ?_)
  obtain ⟨e1, e2⟩ := hw
  subst e1; subst e2
  obtain ⟨hP1, hK1, hD1⟩ := hB
  rw [ht] at hP1
  exact kk H1 locs1 ⟨hP1, hD1.weaken (fun k q _ h => hFc q.1 h), hS⟩
theorem oc_l (S : CallFix p m c cc nL s args Ts RX0) (hK : gK G s) (hA : ∀ q, s.heap.size ≤ q → A q) (hI : oI s A G h0 h σ H locs) {r : Int64}
    (hM : Met l y ws rm (oPre G h0 h σ H.size As) (oQl G h0 h r σ' (oA G h0 h σ H.size)) mc ms (oA G h0 h σ H.size))
    (cw : CallW R s args RX0 RX0 index y bytes maxL ret ws rm mc ms n) (hn : As.length = n) (hs : ls.size = nL) (hst : st0 = As.reverse ++ .ref h0 :: rest) (hW : (rest.map fun v => v.category).sum ≤ 8)
    (hdg : decode cc pc = .ok (.invokevirtual index, 3)) (hf : cells + mc ≤ R.cells ∧ slots + ms ≤ R.slots)
    (kk : ∀ (H1 : Heap) (locs1 : List Loc), oI s A G h0 h σ' H1 locs1 → W p l e R s m args below meth c H1 locs1 (cells + mc) (slots + ms) Q (F0 m (pc + 3) ls (.long r :: rest))) :
    W p l e R s m args below meth c H locs cells slots Q (F0 m pc ls st0) := by
  have hFc := ofr hA hI
  subst hst
  refine va_calll (va_runV (As := As) (rest := rest) S hM cw (opv hK hI) rfl hn hs rfl (lv_room hW) hdg hf) hI.2.2 (fun q _ h => hFc q h) hFc (fun r1 u t H1 locs1 ht hvm hw hB hz1 hk1 hS => ?_)
  obtain ⟨e1, e2⟩ := hw
  subst e1; subst e2
  obtain ⟨hP1, hK1, hD1⟩ := hB
  rw [ht] at hP1
  exact kk H1 locs1 ⟨hP1, hD1.weaken (fun k q _ h => hFc q.1 h), hS⟩
theorem oc_v (S : CallFix p m c cc nL s args Ts RX0) (hK : gK G s) (hA : ∀ q, s.heap.size ≤ q → A q) (hI : oI s A G h0 h σ H locs)
    (hM : Met l y ws rm (oPre G h0 h σ H.size As) (oQv G h0 h σ' (oA G h0 h σ H.size)) mc ms (oA G h0 h σ H.size))
    (cw : CallW R s args RX0 RX0 index y bytes maxL ret ws rm mc ms n) (hn : As.length = n) (hs : ls.size = nL) (hst : st0 = As.reverse ++ .ref h0 :: rest) (hW : (rest.map fun v => v.category).sum ≤ 8)
    (hdg : decode cc pc = .ok (.invokevirtual index, 3)) (hf : cells + mc ≤ R.cells ∧ slots + ms ≤ R.slots)
    (kk : ∀ (H1 : Heap) (locs1 : List Loc), oI s A G h0 h σ' H1 locs1 → W p l e R s m args below meth c H1 locs1 (cells + mc) (slots + ms) Q (F0 m (pc + 3) ls rest)) :
    W p l e R s m args below meth c H locs cells slots Q (F0 m pc ls st0) := by
  have hFc := ofr hA hI
  subst hst
  refine va_callv (va_runV (As := As) (rest := rest) S hM cw (opv hK hI) rfl hn hs rfl (lv_room hW) hdg hf) hI.2.2 (fun q _ h => hFc q h) hFc (fun u t H1 locs1 ht hvm hw hB hz1 hk1 hS => ?_)
  subst hw
  obtain ⟨hP1, hK1, hD1⟩ := hB
  rw [ht] at hP1
  exact kk H1 locs1 ⟨hP1, hD1.weaken (fun k q _ h => hFc q.1 h), hS⟩
/-- a call of a pure static method with an int -/
theorem os_i {own : String} (S : CallFix p m c cc nL s args Ts own) (hA : ∀ q, s.heap.size ≤ q → A q) (hI : oI s A G h0 h σ H locs) {r : Int32}
    (hM : Met l y ws rm (sPre H.size As) (sQi r H.size) mc ms (fun q => H.size ≤ q))
    (cw : CallB R s args own index y bytes maxL ret ws rm mc ms n ∧ (Cond.static y).before args s = true) (hn : As.length = n) (hs : ls.size = nL) (hst : st0 = As.reverse ++ rest) (hW : (rest.map fun v => v.category).sum ≤ 8)
    (hdg : decode cc pc = .ok (.invokestatic index, 3)) (hf : cells + mc ≤ R.cells ∧ slots + ms ≤ R.slots)
    (kk : ∀ (H1 : Heap) (locs1 : List Loc), oI s A G h0 h σ H1 locs1 → W p l e R s m args below meth c H1 locs1 (cells + mc) (slots + ms) Q (F0 m (pc + 3) ls (.int r :: rest))) :
    W p l e R s m args below meth c H locs cells slots Q (F0 m pc ls st0) := by
  subst hst
  refine va_calli (va_runS (As := As) (rest := rest) S hM cw ⟨sPre_blind, fun U hU _ => ⟨rfl, congrArg (fun X : Heap => Array.size X) hU⟩⟩ rfl hn hs rfl (lv_room hW) hdg hf) hI.2.2 (fun q hq h => absurd h (Nat.not_le.mpr hq)) (fun q h => hA q (Nat.le_trans hI.2.2.1 h)) (fun r1 u t H1 locs1 ht hvm hw hB hz1 hk1 hS => ?_)
  have hw : r1 = r := hw
  subst hw
  exact kk H1 locs1 ⟨hI.1.kept (fun k q hq => hk1 q.1 (hI.1 k q hq).lt (Nat.not_le.mpr (hI.1 k q hq).lt)), hI.2.1, hS⟩
/-- ends -/
theorem oe_i (S : CallFix p m c cc nL s args Ts RX0) (hr : meth.sig.returnType = some .int) (hlocks : meth.locks = false) (hK : gK G s) (hI : oI s A G h0 h σ H locs) {r r0 : Int32} (hg : some (r0, σ) = some (r, σ')) (hdg : decode cc pc = .ok (.ireturn, 1)) :
    W p l e R s m args below meth c H locs cells slots (MQ below (oQi G h0 h r σ' A) args s cells slots A) (F0 m pc ls [.int r0]) := by
  obtain ⟨e1, e2⟩ := pr_e hg
  subst e1; subst e2
  exact W.iret S.1 S.2.1 hr (fun t ht hW => ⟨⟨r0, σ, rfl, ⟨rfl, rfl⟩, by rw [ht]; exact hI.1, gK.moved hW.alike hK, hI.2.1⟩, hI.2.2.F ht⟩) hI.2.2.2.2 hdg hlocks
theorem oe_z (S : CallFix p m c cc nL s args Ts RX0) (hr : meth.sig.returnType = some .boolean) (hlocks : meth.locks = false) (hK : gK G s) (hI : oI s A G h0 h σ H locs) {r r0 : Int32} (hz : narrow .boolean (.int r0) = .int r0) (hg : some (r0, σ) = some (r, σ')) (hdg : decode cc pc = .ok (.ireturn, 1)) :
    W p l e R s m args below meth c H locs cells slots (MQ below (oQi G h0 h r σ' A) args s cells slots A) (F0 m pc ls [.int r0]) := by
  obtain ⟨e1, e2⟩ := pr_e hg
  subst e1; subst e2
  exact W.zret S.1 S.2.1 hr hz (fun t ht hW => ⟨⟨r0, σ, rfl, ⟨rfl, rfl⟩, by rw [ht]; exact hI.1, gK.moved hW.alike hK, hI.2.1⟩, hI.2.2.F ht⟩) hI.2.2.2.2 hdg hlocks
theorem oe_l (S : CallFix p m c cc nL s args Ts RX0) (hr : meth.sig.returnType = some .long) (hlocks : meth.locks = false) (hK : gK G s) (hI : oI s A G h0 h σ H locs) {r r0 : Int64} (hg : some (r0, σ) = some (r, σ')) (hdg : decode cc pc = .ok (.lreturn, 1)) :
    W p l e R s m args below meth c H locs cells slots (MQ below (oQl G h0 h r σ' A) args s cells slots A) (F0 m pc ls [.long r0]) := by
  obtain ⟨e1, e2⟩ := pr_e hg
  subst e1; subst e2
  exact W.lret S.1 S.2.1 hr (fun t ht hW => ⟨⟨r0, σ, rfl, ⟨rfl, rfl⟩, by rw [ht]; exact hI.1, gK.moved hW.alike hK, hI.2.1⟩, hI.2.2.F ht⟩) hI.2.2.2.2 hdg hlocks
theorem oe_v (S : CallFix p m c cc nL s args Ts RX0) (hr : meth.sig.returnType = none) (hlocks : meth.locks = false) (hK : gK G s) (hI : oI s A G h0 h σ H locs) (hg : some σ = some σ') (hdg : decode cc pc = .ok (.return_, 1)) :
    W p l e R s m args below meth c H locs cells slots (MQ below (oQv G h0 h σ' A) args s cells slots A) (F0 m pc ls []) := by
  have e1 := sm_e hg
  subst e1
  exact W.vret S.1 S.2.1 hr (fun t ht hW => ⟨⟨σ, rfl, rfl, by rw [ht]; exact hI.1, gK.moved hW.alike hK, hI.2.1⟩, hI.2.2.F ht⟩) hI.2.2.2.2 hdg hlocks
/-- a contract out of a walk from the entry -/
theorem oMet {Qc : (Nat → Prop) → Array Value → State → Outcome → State → Prop} {av : List Value} {sz : Nat} (hy : plainName y.cls = true) (hR : y.cls = RX0) (hw : ws = Cond.code y cc maxL ret :: ws') (hlen : (lg_sl (.ref h0 :: av)).length ≤ maxL)
    (body : ∀ (p : Program) (e : Env) (s : State) (m : MethodId) (args : Array Value) (below : List Frame) (meth : Method) (c : Code) (A : Nat → Prop), CallFix p m c cc maxL s args ws RX0 → meth.sig.returnType = ret → meth.locks = false → gK G s → (∀ q, s.heap.size ≤ q → A q) → ∀ (H : Heap) (locs : List Loc), oI s A G h0 h σ H locs → ∀ ls : Array Slot, lv_has ls maxL (lv_args 0 (.ref h0 :: av)) →
      W p l e rm s m args below meth c H locs 0 0 (MQ below (Qc A) args s mc ms A) (F0 m 0 ls [])) : Met l y ws rm (oPre G h0 h σ sz av) (Qc (oA G h0 h σ sz)) mc ms (oA G h0 h σ sz) := by
  refine Met.ofW (cc := cc) (maxL := maxL) (ret := ret) hy hw ?_
  intro p e s m args below meth c s₁ B hml hv
  obtain ⟨rfl, hsz, hP, hK, hD0⟩ := hv
  subst hsz
  have hts := atoms_spec (ws := ws) B.pre
  have hown : s.vm.findClass RX0 = some m.cls := by rw [← hR]; exact findClass_of_methodNamed B.named
  rw [lg_entry_eq]
  exact body p e s m _ below meth c (oA G h0 h σ s.heap.size) ⟨B.exec, B.bytes, hml, hown, hts⟩ B.returns B.notSynchronized hK (fun q h => Or.inr h) _ _ ⟨hP, hD0.self (sz := s.heap.size), va_S.rf⟩ _ (lv_entry _ hlen)
end OC

theorem mPre_blind {G : gT} {h0 : Nat} {h : (Nat → Nat)} {σ : mS} {sz : Nat} {av : List Value} : FrameBlind (mPre G h0 h σ sz av) := by
  intro a U g mk q
  obtain ⟨q0, q1, qP, qK, qD⟩ := q
  exact ⟨q0, q1, qP, gK.moved (u := U) (U := U.calling g mk a) (Vm.Alike.refl U.vm) qK, qD⟩
def mQi (G : gT) (h0 : Nat) (h : (Nat → Nat)) (r : Int32) (σ' : mS) (A : Nat → Prop) : Array Value → State → Outcome → State → Prop := va_Qi (fun (a : Int32) (u : mS) => a = r ∧ u = σ') (mAt G A h0 h) A
def mQl (G : gT) (h0 : Nat) (h : (Nat → Nat)) (r : Int64) (σ' : mS) (A : Nat → Prop) : Array Value → State → Outcome → State → Prop := va_Ql (fun (a : Int64) (u : mS) => a = r ∧ u = σ') (mAt G A h0 h) A
def mQv (G : gT) (h0 : Nat) (h : (Nat → Nat)) (σ' : mS) (A : Nat → Prop) : Array Value → State → Outcome → State → Prop := va_Qv (fun (u : mS) => u = σ') (mAt G A h0 h) A
section MC
variable {p : Program} {l : Launch} {e : Env} {R : Room} {s : State} {m : MethodId} {args : Array Value} {below : List Frame} {meth : Method} {c : Code} {H : Heap} {locs : List Loc} {cells slots : Nat} {Q : State → Prop}
variable {cc : ByteArray} {pc : Nat} {ls : Array Slot} {rest st0 : List Value} {A : Nat → Prop} {G : gT} {h0 : Nat} {nL : Nat} {Ts : List Cond}
variable {y : MethodName} {ws ws' : List Cond} {rm : Room} {bytes : ByteArray} {maxL n index mc ms : Nat} {ret : Option FieldType} {As : List Value}

variable {h : (Nat → Nat)} {σ σ' : mS}
theorem mfr (hA : ∀ q, s.heap.size ≤ q → A q) (hI : mI s A G h0 h σ H locs) : ∀ q, mA G h0 h σ H.size q → A q := va_free (wc := mw G h0 h σ) hI.2.1 hI.2.2 hA [0, 1, 2, 3, 4, 5, 6, 7, 8, 9, 10, 11, 12, 13, 14, 15, 16, 17] rfl
theorem mpv (hK : gK G s) (hI : mI s A G h0 h σ H locs) : PreV s H RX1 h0 (mPre G h0 h σ H.size As) As :=
  ⟨mPre_blind, va_recv hK hI.1 (ci := 3) (q0 := 0) rfl rfl, fun U hU hW => ⟨rfl, by rw [hU], by rw [hU]; exact hI.1, gK.moved hW.alike hK, hI.2.1.weaken (fun _ _ _ _ => trivial)⟩⟩
/-- a call of a method of the same object: an int, a long, nothing -/
theorem mc_i (S : CallFix p m c cc nL s args Ts RX1) (hK : gK G s) (hA : ∀ q, s.heap.size ≤ q → A q) (hI : mI s A G h0 h σ H locs) {r : Int32}
    (hM : Met l y ws rm (mPre G h0 h σ H.size As) (mQi G h0 h r σ' (mA G h0 h σ H.size)) mc ms (mA G h0 h σ H.size))
    (cw : CallW R s args RX1 RX1 index y bytes maxL ret ws rm mc ms n) (hn : As.length = n) (hs : ls.size = nL) (hst : st0 = As.reverse ++ .ref h0 :: rest) (hW : (rest.map fun v => v.category).sum ≤ 8)
    (hdg : decode cc pc = .ok (.invokevirtual index, 3)) (hf : cells + mc ≤ R.cells ∧ slots + ms ≤ R.slots)
    (kk : ∀ (H1 : Heap) (locs1 : List Loc), mI s A G h0 h σ' H1 locs1 → W p l e R s m args below meth c H1 locs1 (cells + mc) (slots + ms) Q (F0 m (pc + 3) ls (.int r :: rest))) :
    W p l e R s m args below meth c H locs cells slots Q (F0 m pc ls st0) := by
  have hFc := mfr hA hI
  subst hst
  refine va_calli (va_runV (As := As) (rest := rest) S hM cw (mpv hK hI) rfl hn hs rfl (lv_room hW) hdg hf) hI.2.2 (fun q _ h => hFc q h) hFc (fun r1 u t H1 locs1 ht hvm hw hB hz1 hk1 hS => ?_)
  obtain ⟨e1, e2⟩ := hw
  subst e1; subst e2
  obtain ⟨hP1, hK1, hD1⟩ := hB
  rw [ht] at hP1
  exact kk H1 locs1 ⟨hP1, hD1.weaken (fun k q _ h => hFc q.1 h), hS⟩
theorem mc_l (S : CallFix p m c cc nL s args Ts RX1) (hK : gK G s) (hA : ∀ q, s.heap.size ≤ q → A q) (hI : mI s A G h0 h σ H locs) {r : Int64}
    (hM : Met l y ws rm (mPre G h0 h σ H.size As) (mQl G h0 h r σ' (mA G h0 h σ H.size)) mc ms (mA G h0 h σ H.size))
    (cw : CallW R s args RX1 RX1 index y bytes maxL ret ws rm mc ms n) (hn : As.length = n) (hs : ls.size = nL) (hst : st0 = As.reverse ++ .ref h0 :: rest) (hW : (rest.map fun v => v.category).sum ≤ 8)
    (hdg : decode cc pc = .ok (.invokevirtual index, 3)) (hf : cells + mc ≤ R.cells ∧ slots + ms ≤ R.slots)
    (kk : ∀ (H1 : Heap) (locs1 : List Loc), mI s A G h0 h σ' H1 locs1 → W p l e R s m args below meth c H1 locs1 (cells + mc) (slots + ms) Q (F0 m (pc + 3) ls (.long r :: rest))) :
    W p l e R s m args below meth c H locs cells slots Q (F0 m pc ls st0) := by
  have hFc := mfr hA hI
  subst hst
  refine va_calll (va_runV (As := As) (rest := rest) S hM cw (mpv hK hI) rfl hn hs rfl (lv_room hW) hdg hf) hI.2.2 (fun q _ h => hFc q h) hFc (fun r1 u t H1 locs1 ht hvm hw hB hz1 hk1 hS => ?_)
  obtain ⟨e1, e2⟩ := hw
  subst e1; subst e2
  obtain ⟨hP1, hK1, hD1⟩ := hB
  rw [ht] at hP1
  exact kk H1 locs1 ⟨hP1, hD1.weaken (fun k q _ h => hFc q.1 h), hS⟩
theorem mc_v (S : CallFix p m c cc nL s args Ts RX1) (hK : gK G s) (hA : ∀ q, s.heap.size ≤ q → A q) (hI : mI s A G h0 h σ H locs)
    (hM : Met l y ws rm (mPre G h0 h σ H.size As) (mQv G h0 h σ' (mA G h0 h σ H.size)) mc ms (mA G h0 h σ H.size))
    (cw : CallW R s args RX1 RX1 index y bytes maxL ret ws rm mc ms n) (hn : As.length = n) (hs : ls.size = nL) (hst : st0 = As.reverse ++ .ref h0 :: rest) (hW : (rest.map fun v => v.category).sum ≤ 8)
    (hdg : decode cc pc = .ok (.invokevirtual index, 3)) (hf : cells + mc ≤ R.cells ∧ slots + ms ≤ R.slots)
    (kk : ∀ (H1 : Heap) (locs1 : List Loc), mI s A G h0 h σ' H1 locs1 → W p l e R s m args below meth c H1 locs1 (cells + mc) (slots + ms) Q (F0 m (pc + 3) ls rest)) :
    W p l e R s m args below meth c H locs cells slots Q (F0 m pc ls st0) := by
  have hFc := mfr hA hI
  subst hst
  refine va_callv (va_runV (As := As) (rest := rest) S hM cw (mpv hK hI) rfl hn hs rfl (lv_room hW) hdg hf) hI.2.2 (fun q _ h => hFc q h) hFc (fun u t H1 locs1 ht hvm hw hB hz1 hk1 hS => ?_)
  subst hw
  obtain ⟨hP1, hK1, hD1⟩ := hB
  rw [ht] at hP1
  exact kk H1 locs1 ⟨hP1, hD1.weaken (fun k q _ h => hFc q.1 h), hS⟩
/-- a call of a pure static method with an int -/
theorem ms_i {own : String} (S : CallFix p m c cc nL s args Ts own) (hA : ∀ q, s.heap.size ≤ q → A q) (hI : mI s A G h0 h σ H locs) {r : Int32}
    (hM : Met l y ws rm (sPre H.size As) (sQi r H.size) mc ms (fun q => H.size ≤ q))
    (cw : CallB R s args own index y bytes maxL ret ws rm mc ms n ∧ (Cond.static y).before args s = true) (hn : As.length = n) (hs : ls.size = nL) (hst : st0 = As.reverse ++ rest) (hW : (rest.map fun v => v.category).sum ≤ 8)
    (hdg : decode cc pc = .ok (.invokestatic index, 3)) (hf : cells + mc ≤ R.cells ∧ slots + ms ≤ R.slots)
    (kk : ∀ (H1 : Heap) (locs1 : List Loc), mI s A G h0 h σ H1 locs1 → W p l e R s m args below meth c H1 locs1 (cells + mc) (slots + ms) Q (F0 m (pc + 3) ls (.int r :: rest))) :
    W p l e R s m args below meth c H locs cells slots Q (F0 m pc ls st0) := by
  subst hst
  refine va_calli (va_runS (As := As) (rest := rest) S hM cw ⟨sPre_blind, fun U hU _ => ⟨rfl, congrArg (fun X : Heap => Array.size X) hU⟩⟩ rfl hn hs rfl (lv_room hW) hdg hf) hI.2.2 (fun q hq h => absurd h (Nat.not_le.mpr hq)) (fun q h => hA q (Nat.le_trans hI.2.2.1 h)) (fun r1 u t H1 locs1 ht hvm hw hB hz1 hk1 hS => ?_)
  have hw : r1 = r := hw
  subst hw
  exact kk H1 locs1 ⟨hI.1.kept (fun k q hq => hk1 q.1 (hI.1 k q hq).lt (Nat.not_le.mpr (hI.1 k q hq).lt)), hI.2.1, hS⟩
/-- ends -/
theorem me_i (S : CallFix p m c cc nL s args Ts RX1) (hr : meth.sig.returnType = some .int) (hlocks : meth.locks = false) (hK : gK G s) (hI : mI s A G h0 h σ H locs) {r r0 : Int32} (hg : some (r0, σ) = some (r, σ')) (hdg : decode cc pc = .ok (.ireturn, 1)) :
    W p l e R s m args below meth c H locs cells slots (MQ below (mQi G h0 h r σ' A) args s cells slots A) (F0 m pc ls [.int r0]) := by
  obtain ⟨e1, e2⟩ := pr_e hg
  subst e1; subst e2
  exact W.iret S.1 S.2.1 hr (fun t ht hW => ⟨⟨r0, σ, rfl, ⟨rfl, rfl⟩, by rw [ht]; exact hI.1, gK.moved hW.alike hK, hI.2.1⟩, hI.2.2.F ht⟩) hI.2.2.2.2 hdg hlocks
theorem me_z (S : CallFix p m c cc nL s args Ts RX1) (hr : meth.sig.returnType = some .boolean) (hlocks : meth.locks = false) (hK : gK G s) (hI : mI s A G h0 h σ H locs) {r r0 : Int32} (hz : narrow .boolean (.int r0) = .int r0) (hg : some (r0, σ) = some (r, σ')) (hdg : decode cc pc = .ok (.ireturn, 1)) :
    W p l e R s m args below meth c H locs cells slots (MQ below (mQi G h0 h r σ' A) args s cells slots A) (F0 m pc ls [.int r0]) := by
  obtain ⟨e1, e2⟩ := pr_e hg
  subst e1; subst e2
  exact W.zret S.1 S.2.1 hr hz (fun t ht hW => ⟨⟨r0, σ, rfl, ⟨rfl, rfl⟩, by rw [ht]; exact hI.1, gK.moved hW.alike hK, hI.2.1⟩, hI.2.2.F ht⟩) hI.2.2.2.2 hdg hlocks
theorem me_l (S : CallFix p m c cc nL s args Ts RX1) (hr : meth.sig.returnType = some .long) (hlocks : meth.locks = false) (hK : gK G s) (hI : mI s A G h0 h σ H locs) {r r0 : Int64} (hg : some (r0, σ) = some (r, σ')) (hdg : decode cc pc = .ok (.lreturn, 1)) :
    W p l e R s m args below meth c H locs cells slots (MQ below (mQl G h0 h r σ' A) args s cells slots A) (F0 m pc ls [.long r0]) := by
  obtain ⟨e1, e2⟩ := pr_e hg
  subst e1; subst e2
  exact W.lret S.1 S.2.1 hr (fun t ht hW => ⟨⟨r0, σ, rfl, ⟨rfl, rfl⟩, by rw [ht]; exact hI.1, gK.moved hW.alike hK, hI.2.1⟩, hI.2.2.F ht⟩) hI.2.2.2.2 hdg hlocks
theorem me_v (S : CallFix p m c cc nL s args Ts RX1) (hr : meth.sig.returnType = none) (hlocks : meth.locks = false) (hK : gK G s) (hI : mI s A G h0 h σ H locs) (hg : some σ = some σ') (hdg : decode cc pc = .ok (.return_, 1)) :
    W p l e R s m args below meth c H locs cells slots (MQ below (mQv G h0 h σ' A) args s cells slots A) (F0 m pc ls []) := by
  have e1 := sm_e hg
  subst e1
  exact W.vret S.1 S.2.1 hr (fun t ht hW => ⟨⟨σ, rfl, rfl, by rw [ht]; exact hI.1, gK.moved hW.alike hK, hI.2.1⟩, hI.2.2.F ht⟩) hI.2.2.2.2 hdg hlocks
/-- a contract out of a walk from the entry -/
theorem mMet {Qc : (Nat → Prop) → Array Value → State → Outcome → State → Prop} {av : List Value} {sz : Nat} (hy : plainName y.cls = true) (hR : y.cls = RX1) (hw : ws = Cond.code y cc maxL ret :: ws') (hlen : (lg_sl (.ref h0 :: av)).length ≤ maxL)
    (body : ∀ (p : Program) (e : Env) (s : State) (m : MethodId) (args : Array Value) (below : List Frame) (meth : Method) (c : Code) (A : Nat → Prop), CallFix p m c cc maxL s args ws RX1 → meth.sig.returnType = ret → meth.locks = false → gK G s → (∀ q, s.heap.size ≤ q → A q) → ∀ (H : Heap) (locs : List Loc), mI s A G h0 h σ H locs → ∀ ls : Array Slot, lv_has ls maxL (lv_args 0 (.ref h0 :: av)) →
      W p l e rm s m args below meth c H locs 0 0 (MQ below (Qc A) args s mc ms A) (F0 m 0 ls [])) : Met l y ws rm (mPre G h0 h σ sz av) (Qc (mA G h0 h σ sz)) mc ms (mA G h0 h σ sz) := by
  refine Met.ofW (cc := cc) (maxL := maxL) (ret := ret) hy hw ?_
  intro p e s m args below meth c s₁ B hml hv
  obtain ⟨rfl, hsz, hP, hK, hD0⟩ := hv
  subst hsz
  have hts := atoms_spec (ws := ws) B.pre
  have hown : s.vm.findClass RX1 = some m.cls := by rw [← hR]; exact findClass_of_methodNamed B.named
  rw [lg_entry_eq]
  exact body p e s m _ below meth c (mA G h0 h σ s.heap.size) ⟨B.exec, B.bytes, hml, hown, hts⟩ B.returns B.notSynchronized hK (fun q h => Or.inr h) _ _ ⟨hP, hD0.self (sz := s.heap.size), va_S.rf⟩ _ (lv_entry _ hlen)
end MC
end
section
def wsJ7_fill_53178 : List Cond := .code yJ7_fill_53178 cJ7_fill_53178 4 none :: ([])
def wsJ7_copyOf_59c91 : List Cond := .code yJ7_copyOf_59c91 cJ7_copyOf_59c91 3 (some (.array .int)) :: ([.methodLink RJ7 316 ⟨"[I", "clone", "()Ljava/lang/Object;"⟩, .sameMethod "[I" "java/lang/Object" "clone" "()Ljava/lang/Object;", .native ⟨"java/lang/Object", "clone", "()Ljava/lang/Object;"⟩, .instanceMethod ⟨"java/lang/Object", "clone", "()Ljava/lang/Object;"⟩, .selects "[I" ⟨"[I", "clone", "()Ljava/lang/Object;"⟩ ⟨"java/lang/Object", "clone", "()Ljava/lang/Object;"⟩, .classLink RJ7 317 "[I", .arrayClass .int, .methodLink RJ7 304 Lib.Math.min.name, .static Lib.Math.min.name, .initialized "java/lang/Math", .code Lib.Math.min.name Lib.Math.min.code 2 (some .int), .methodLink RJ7 150 arraycopyName, .native arraycopyName, .static arraycopyName, .initialized "java/lang/System"])
def wsJ7_rangeCheck_23922 : List Cond := .code yJ7_rangeCheck_23922 cJ7_rangeCheck_23922 3 none :: ([.classLink RJ7 45 RJ4, .instantiable RJ4 4, .initialized RJ4] ++ wsJ40)
def wsJ7_fill_fda19 : List Cond := .code yJ7_fill_fda19 cJ7_fill_fda19 5 none :: ([.methodLink RJ7 13 yJ7_rangeCheck_23922, .static yJ7_rangeCheck_23922, .initialized RJ7, .code yJ7_rangeCheck_23922 cJ7_rangeCheck_23922 3 none, .classLink RJ7 45 RJ4, .instantiable RJ4 4, .initialized RJ4] ++ wsJ40)
def wsJ6_signum_0f7a4 : List Cond := .code yJ6_signum_0f7a4 cJ6_signum_0f7a4 1 (some .int) :: ([])
theorem dJ6_signum_0f7a4_0 : decode cJ6_signum_0f7a4 0 = .ok (.iload_n 0, 1) := by decide +kernel
theorem dJ6_signum_0f7a4_1 : decode cJ6_signum_0f7a4 1 = .ok (.bipush 31, 2) := by decide +kernel
theorem dJ6_signum_0f7a4_3 : decode cJ6_signum_0f7a4 3 = .ok (.ishr, 1) := by decide +kernel
theorem dJ6_signum_0f7a4_4 : decode cJ6_signum_0f7a4 4 = .ok (.iload_n 0, 1) := by decide +kernel
theorem dJ6_signum_0f7a4_5 : decode cJ6_signum_0f7a4 5 = .ok (.ineg, 1) := by decide +kernel
theorem dJ6_signum_0f7a4_6 : decode cJ6_signum_0f7a4 6 = .ok (.bipush 31, 2) := by decide +kernel
theorem dJ6_signum_0f7a4_8 : decode cJ6_signum_0f7a4 8 = .ok (.iushr, 1) := by decide +kernel
theorem dJ6_signum_0f7a4_9 : decode cJ6_signum_0f7a4 9 = .ok (.ior, 1) := by decide +kernel
theorem dJ6_signum_0f7a4_10 : decode cJ6_signum_0f7a4 10 = .ok (.ireturn, 1) := by decide +kernel
theorem dJ7_rangeCheck_23922_0 : decode cJ7_rangeCheck_23922 0 = .ok (.iload_n 1, 1) := by decide +kernel
theorem dJ7_rangeCheck_23922_1 : decode cJ7_rangeCheck_23922 1 = .ok (.iload_n 2, 1) := by decide +kernel
theorem dJ7_rangeCheck_23922_2 : decode cJ7_rangeCheck_23922 2 = .ok (.if_icmp .le 44, 3) := by decide +kernel
theorem dJ7_rangeCheck_23922_5 : decode cJ7_rangeCheck_23922 5 = .ok (.new 43, 3) := by decide +kernel
theorem dJ7_rangeCheck_23922_8 : decode cJ7_rangeCheck_23922 8 = .ok (.dup, 1) := by decide +kernel
theorem dJ7_rangeCheck_23922_9 : decode cJ7_rangeCheck_23922 9 = .ok (.new 45, 3) := by decide +kernel
theorem dJ7_rangeCheck_23922_12 : decode cJ7_rangeCheck_23922 12 = .ok (.dup, 1) := by decide +kernel
theorem dJ7_rangeCheck_23922_13 : decode cJ7_rangeCheck_23922 13 = .ok (.invokespecial 47, 3) := by decide +kernel
theorem dJ7_rangeCheck_23922_16 : decode cJ7_rangeCheck_23922 16 = .ok (.ldc 48, 2) := by decide +kernel
theorem dJ7_rangeCheck_23922_18 : decode cJ7_rangeCheck_23922 18 = .ok (.invokevirtual 50, 3) := by decide +kernel
theorem dJ7_rangeCheck_23922_21 : decode cJ7_rangeCheck_23922 21 = .ok (.iload_n 1, 1) := by decide +kernel
theorem dJ7_rangeCheck_23922_22 : decode cJ7_rangeCheck_23922 22 = .ok (.invokevirtual 54, 3) := by decide +kernel
theorem dJ7_rangeCheck_23922_25 : decode cJ7_rangeCheck_23922 25 = .ok (.ldc 57, 2) := by decide +kernel
theorem dJ7_rangeCheck_23922_27 : decode cJ7_rangeCheck_23922 27 = .ok (.invokevirtual 50, 3) := by decide +kernel
theorem dJ7_rangeCheck_23922_30 : decode cJ7_rangeCheck_23922 30 = .ok (.iload_n 2, 1) := by decide +kernel
theorem dJ7_rangeCheck_23922_31 : decode cJ7_rangeCheck_23922 31 = .ok (.invokevirtual 54, 3) := by decide +kernel
theorem dJ7_rangeCheck_23922_34 : decode cJ7_rangeCheck_23922 34 = .ok (.ldc 59, 2) := by decide +kernel
theorem dJ7_rangeCheck_23922_36 : decode cJ7_rangeCheck_23922 36 = .ok (.invokevirtual 50, 3) := by decide +kernel
theorem dJ7_rangeCheck_23922_39 : decode cJ7_rangeCheck_23922 39 = .ok (.invokevirtual 61, 3) := by decide +kernel
theorem dJ7_rangeCheck_23922_42 : decode cJ7_rangeCheck_23922 42 = .ok (.invokespecial 65, 3) := by decide +kernel
theorem dJ7_rangeCheck_23922_45 : decode cJ7_rangeCheck_23922 45 = .ok (.athrow, 1) := by decide +kernel
theorem dJ7_rangeCheck_23922_46 : decode cJ7_rangeCheck_23922 46 = .ok (.iload_n 1, 1) := by decide +kernel
theorem dJ7_rangeCheck_23922_47 : decode cJ7_rangeCheck_23922 47 = .ok (.ifCond .ge 12, 3) := by decide +kernel
theorem dJ7_rangeCheck_23922_50 : decode cJ7_rangeCheck_23922 50 = .ok (.new 68, 3) := by decide +kernel
theorem dJ7_rangeCheck_23922_53 : decode cJ7_rangeCheck_23922 53 = .ok (.dup, 1) := by decide +kernel
theorem dJ7_rangeCheck_23922_54 : decode cJ7_rangeCheck_23922 54 = .ok (.iload_n 1, 1) := by decide +kernel
theorem dJ7_rangeCheck_23922_55 : decode cJ7_rangeCheck_23922 55 = .ok (.invokespecial 70, 3) := by decide +kernel
theorem dJ7_rangeCheck_23922_58 : decode cJ7_rangeCheck_23922 58 = .ok (.athrow, 1) := by decide +kernel
theorem dJ7_rangeCheck_23922_59 : decode cJ7_rangeCheck_23922 59 = .ok (.iload_n 2, 1) := by decide +kernel
theorem dJ7_rangeCheck_23922_60 : decode cJ7_rangeCheck_23922 60 = .ok (.iload_n 0, 1) := by decide +kernel
theorem dJ7_rangeCheck_23922_61 : decode cJ7_rangeCheck_23922 61 = .ok (.if_icmp .le 12, 3) := by decide +kernel
theorem dJ7_rangeCheck_23922_64 : decode cJ7_rangeCheck_23922 64 = .ok (.new 68, 3) := by decide +kernel
theorem dJ7_rangeCheck_23922_67 : decode cJ7_rangeCheck_23922 67 = .ok (.dup, 1) := by decide +kernel
theorem dJ7_rangeCheck_23922_68 : decode cJ7_rangeCheck_23922 68 = .ok (.iload_n 2, 1) := by decide +kernel
theorem dJ7_rangeCheck_23922_69 : decode cJ7_rangeCheck_23922 69 = .ok (.invokespecial 70, 3) := by decide +kernel
theorem dJ7_rangeCheck_23922_72 : decode cJ7_rangeCheck_23922 72 = .ok (.athrow, 1) := by decide +kernel
theorem dJ7_rangeCheck_23922_73 : decode cJ7_rangeCheck_23922 73 = .ok (.return_, 1) := by decide +kernel
theorem dJ7_fill_53178_0 : decode cJ7_fill_53178 0 = .ok (.iconst 0, 1) := by decide +kernel
theorem dJ7_fill_53178_1 : decode cJ7_fill_53178 1 = .ok (.istore_n 2, 1) := by decide +kernel
theorem dJ7_fill_53178_2 : decode cJ7_fill_53178 2 = .ok (.aload_n 0, 1) := by decide +kernel
theorem dJ7_fill_53178_3 : decode cJ7_fill_53178 3 = .ok (.arraylength, 1) := by decide +kernel
theorem dJ7_fill_53178_4 : decode cJ7_fill_53178 4 = .ok (.istore_n 3, 1) := by decide +kernel
theorem dJ7_fill_53178_5 : decode cJ7_fill_53178 5 = .ok (.iload_n 2, 1) := by decide +kernel
theorem dJ7_fill_53178_6 : decode cJ7_fill_53178 6 = .ok (.iload_n 3, 1) := by decide +kernel
theorem dJ7_fill_53178_7 : decode cJ7_fill_53178 7 = .ok (.if_icmp .ge 13, 3) := by decide +kernel
theorem dJ7_fill_53178_10 : decode cJ7_fill_53178 10 = .ok (.aload_n 0, 1) := by decide +kernel
theorem dJ7_fill_53178_11 : decode cJ7_fill_53178 11 = .ok (.iload_n 2, 1) := by decide +kernel
theorem dJ7_fill_53178_12 : decode cJ7_fill_53178 12 = .ok (.iload_n 1, 1) := by decide +kernel
theorem dJ7_fill_53178_13 : decode cJ7_fill_53178 13 = .ok (.iastore, 1) := by decide +kernel
theorem dJ7_fill_53178_14 : decode cJ7_fill_53178 14 = .ok (.iinc 2 1, 3) := by decide +kernel
theorem dJ7_fill_53178_17 : decode cJ7_fill_53178 17 = .ok (.goto (-12), 3) := by decide +kernel
theorem dJ7_fill_53178_20 : decode cJ7_fill_53178 20 = .ok (.return_, 1) := by decide +kernel
set_option maxRecDepth 20000 in
theorem ggJ7_fill_fda19_J7_rangeCheck_23922 : GoodIn wsJ7_fill_fda19 wsJ7_rangeCheck_23922 := goodIn_r _ [4, 5, 6, 7, 8, 9, 10, 11] (by decide +kernel) (by decide +kernel)
set_option maxRecDepth 20000 in
theorem gJ7_fill_fda19_J7_rangeCheck_23922 : GoodIn wsJ7_fill_fda19 (va_wsS RJ7 13 yJ7_rangeCheck_23922 wsJ7_rangeCheck_23922) := goodIn_app (goodIn_of _ (by decide +kernel)) ggJ7_fill_fda19_J7_rangeCheck_23922
theorem dJ7_fill_fda19_0 : decode cJ7_fill_fda19 0 = .ok (.aload_n 0, 1) := by decide +kernel
theorem dJ7_fill_fda19_1 : decode cJ7_fill_fda19 1 = .ok (.arraylength, 1) := by decide +kernel
theorem dJ7_fill_fda19_2 : decode cJ7_fill_fda19 2 = .ok (.iload_n 1, 1) := by decide +kernel
theorem dJ7_fill_fda19_3 : decode cJ7_fill_fda19 3 = .ok (.iload_n 2, 1) := by decide +kernel
theorem dJ7_fill_fda19_4 : decode cJ7_fill_fda19 4 = .ok (.invokestatic 13, 3) := by decide +kernel
theorem dJ7_fill_fda19_7 : decode cJ7_fill_fda19 7 = .ok (.iload_n 1, 1) := by decide +kernel
theorem dJ7_fill_fda19_8 : decode cJ7_fill_fda19 8 = .ok (.istore 4, 2) := by decide +kernel
theorem dJ7_fill_fda19_10 : decode cJ7_fill_fda19 10 = .ok (.iload 4, 2) := by decide +kernel
theorem dJ7_fill_fda19_12 : decode cJ7_fill_fda19 12 = .ok (.iload_n 2, 1) := by decide +kernel
theorem dJ7_fill_fda19_13 : decode cJ7_fill_fda19 13 = .ok (.if_icmp .ge 14, 3) := by decide +kernel
theorem dJ7_fill_fda19_16 : decode cJ7_fill_fda19 16 = .ok (.aload_n 0, 1) := by decide +kernel
theorem dJ7_fill_fda19_17 : decode cJ7_fill_fda19 17 = .ok (.iload 4, 2) := by decide +kernel
theorem dJ7_fill_fda19_19 : decode cJ7_fill_fda19 19 = .ok (.iload_n 3, 1) := by decide +kernel
theorem dJ7_fill_fda19_20 : decode cJ7_fill_fda19 20 = .ok (.iastore, 1) := by decide +kernel
theorem dJ7_fill_fda19_21 : decode cJ7_fill_fda19 21 = .ok (.iinc 4 1, 3) := by decide +kernel
theorem dJ7_fill_fda19_24 : decode cJ7_fill_fda19 24 = .ok (.goto (-14), 3) := by decide +kernel
theorem dJ7_fill_fda19_27 : decode cJ7_fill_fda19 27 = .ok (.return_, 1) := by decide +kernel
theorem dJ7_copyOf_59c91_0 : decode cJ7_copyOf_59c91 0 = .ok (.iload_n 1, 1) := by decide +kernel
theorem dJ7_copyOf_59c91_1 : decode cJ7_copyOf_59c91 1 = .ok (.aload_n 0, 1) := by decide +kernel
theorem dJ7_copyOf_59c91_2 : decode cJ7_copyOf_59c91 2 = .ok (.arraylength, 1) := by decide +kernel
theorem dJ7_copyOf_59c91_3 : decode cJ7_copyOf_59c91 3 = .ok (.if_icmp .ne 11, 3) := by decide +kernel
theorem dJ7_copyOf_59c91_6 : decode cJ7_copyOf_59c91 6 = .ok (.aload_n 0, 1) := by decide +kernel
theorem dJ7_copyOf_59c91_7 : decode cJ7_copyOf_59c91 7 = .ok (.invokevirtual 316, 3) := by decide +kernel
theorem dJ7_copyOf_59c91_10 : decode cJ7_copyOf_59c91 10 = .ok (.checkcast 317, 3) := by decide +kernel
theorem dJ7_copyOf_59c91_13 : decode cJ7_copyOf_59c91 13 = .ok (.areturn, 1) := by decide +kernel
theorem dJ7_copyOf_59c91_14 : decode cJ7_copyOf_59c91 14 = .ok (.iload_n 1, 1) := by decide +kernel
theorem dJ7_copyOf_59c91_15 : decode cJ7_copyOf_59c91 15 = .ok (.newarray .int, 2) := by decide +kernel
theorem dJ7_copyOf_59c91_17 : decode cJ7_copyOf_59c91 17 = .ok (.astore_n 2, 1) := by decide +kernel
theorem dJ7_copyOf_59c91_18 : decode cJ7_copyOf_59c91 18 = .ok (.aload_n 0, 1) := by decide +kernel
theorem dJ7_copyOf_59c91_19 : decode cJ7_copyOf_59c91 19 = .ok (.iconst 0, 1) := by decide +kernel
theorem dJ7_copyOf_59c91_20 : decode cJ7_copyOf_59c91 20 = .ok (.aload_n 2, 1) := by decide +kernel
theorem dJ7_copyOf_59c91_21 : decode cJ7_copyOf_59c91 21 = .ok (.iconst 0, 1) := by decide +kernel
theorem dJ7_copyOf_59c91_22 : decode cJ7_copyOf_59c91 22 = .ok (.aload_n 0, 1) := by decide +kernel
theorem dJ7_copyOf_59c91_23 : decode cJ7_copyOf_59c91 23 = .ok (.arraylength, 1) := by decide +kernel
theorem dJ7_copyOf_59c91_24 : decode cJ7_copyOf_59c91 24 = .ok (.iload_n 1, 1) := by decide +kernel
theorem dJ7_copyOf_59c91_25 : decode cJ7_copyOf_59c91 25 = .ok (.invokestatic 304, 3) := by decide +kernel
theorem dJ7_copyOf_59c91_28 : decode cJ7_copyOf_59c91 28 = .ok (.invokestatic 150, 3) := by decide +kernel
theorem dJ7_copyOf_59c91_31 : decode cJ7_copyOf_59c91 31 = .ok (.aload_n 2, 1) := by decide +kernel
theorem dJ7_copyOf_59c91_32 : decode cJ7_copyOf_59c91 32 = .ok (.areturn, 1) := by decide +kernel
end
section
/-! the JDK's own methods that the class calls: signum, fill, fill of a part, rangeCheck, copyOf; a world of one row of ints -/
def aw (G : gT) (a n : Nat) (f : Nat → Int32) : va_W := [(a, .inl (G.2.1, n, .inl f))]
def aI (s : State) (A : Nat → Prop) (G : gT) (a n : Nat) (f : Nat → Int32) (H : Heap) (locs : List Loc) : Prop := va_P G.1 vwCl (aw G a n f) H ∧ va_D A (aw G a n f) ∧ va_S A s.heap H locs
def aAt (G : gT) (A : Nat → Prop) (a n : Nat) (f : Nat → Int32) (t : State) : Prop := va_P G.1 vwCl (aw G a n f) t.heap ∧ gK G t ∧ va_D A (aw G a n f)
def aPre (G : gT) (a n : Nat) (f : Nat → Int32) (sz : Nat) (av : List Value) : Array Value → State → Prop := va_Pc (.ref a :: av) (fun U => U.heap.size = sz ∧ va_P G.1 vwCl (aw G a n f) U.heap ∧ gK G U ∧ va_D (fun _ => True) (aw G a n f))
theorem aPre_blind {G : gT} {a n : Nat} {f : Nat → Int32} {sz : Nat} {av : List Value} : FrameBlind (aPre G a n f sz av) := by
  intro x U g mk q
  obtain ⟨q0, q1, qP, qK, qD⟩ := q
  exact ⟨q0, q1, qP, gK.moved (u := U) (U := U.calling g mk x) (Vm.Alike.refl U.vm) qK, qD⟩
def aQv (G : gT) (a n : Nat) (f' : Nat → Int32) (A : Nat → Prop) : Array Value → State → Outcome → State → Prop := va_Qv (fun (u : Nat → Int32) => u = f') (aAt G A a n) A
/-- between lo and hi there is v -/
def fillF (f : Nat → Int32) (lo hi : Nat) (v : Int32) : Nat → Int32 := fun k => if lo ≤ k ∧ k < hi then v else f k
theorem fillF_0 (f : Nat → Int32) (lo : Nat) (v : Int32) : fillF f lo lo v = f := by
  funext k
  unfold fillF
  rw [if_neg (by omega)]
theorem fillF_s (f : Nat → Int32) {lo i : Nat} (v : Int32) (h : lo ≤ i) : upd (fillF f lo i v) i v = fillF f lo (i + 1) v := by
  funext k
  unfold fillF upd
  by_cases hk : k = i
  · subst hk; simp [h]
  · simp only [hk, if_false]
    by_cases h2 : lo ≤ k ∧ k < i
    · rw [if_pos h2, if_pos (by omega)]
    · rw [if_neg h2, if_neg (by omega)]
def sgn (x : Int32) : Int32 := (x >>> ((31 : Int32) &&& 31)) ||| ((-x).toUInt32 >>> ((31 : Int32).toUInt32 &&& Int32.toUInt32 31)).toInt32
abbrev rJ6_signum : Room := { frames := 0, cells := 0, slots := 0, locals := 0 }
theorem nJ6_signum : yJ6_signum_0f7a4.cls ≠ "java/lang/invoke/MethodHandle" ∧ yJ6_signum_0f7a4.cls ≠ "java/lang/invoke/VarHandle" ∧ (parseMethodDescriptor yJ6_signum_0f7a4.desc).map (fun d => d.parameters.length) = some 1 := by decide +kernel
set_option maxHeartbeats 4000000 in
set_option maxRecDepth 100000 in
theorem kJ6_signum (l : Launch) (sz : Nat) (x : Int32) : Met l yJ6_signum_0f7a4 wsJ6_signum_0f7a4 rJ6_signum (sPre sz [.int x]) (sQi (sgn x) sz) 0 0 (fun q => sz ≤ q) := by
  refine sMet (own := RJ6) (Qc := sQi (sgn x)) (by decide +kernel) rfl rfl (Nat.le_of_ble_eq_true rfl) ?_
  intro p e s m args below meth c S hr hlocks H locs hS ls hl
  have hl : lv_has ls 1 [(0, .int x)] := hl
  have hx := S.1
  have hb := S.2.1
  refine lv_iload_n hx hb dJ6_signum_0f7a4_0 rfl (lv_at hl 0 rfl) ?_
  refine lv_bipush (v := 31) hx hb dJ6_signum_0f7a4_1 (by decide) ?_
  refine lv_ishr hx hb dJ6_signum_0f7a4_3 ?_
  refine lv_iload_n hx hb dJ6_signum_0f7a4_4 rfl (lv_at hl 0 rfl) ?_
  refine lv_ineg hx hb dJ6_signum_0f7a4_5 ?_
  refine lv_bipush (v := 31) hx hb dJ6_signum_0f7a4_6 (by decide) ?_
  refine lv_iushr hx hb dJ6_signum_0f7a4_8 rfl ?_
  refine lv_ior hx hb dJ6_signum_0f7a4_9 ?_
  exact se_i S hr hlocks hS rfl dJ6_signum_0f7a4_10
abbrev rJ7_fill : Room := { frames := 0, cells := 0, slots := 0, locals := 0 }
theorem nJ7_fill : yJ7_fill_53178.cls ≠ "java/lang/invoke/MethodHandle" ∧ yJ7_fill_53178.cls ≠ "java/lang/invoke/VarHandle" ∧ (parseMethodDescriptor yJ7_fill_53178.desc).map (fun d => d.parameters.length) = some 2 := by decide +kernel
set_option maxHeartbeats 4000000 in
set_option maxRecDepth 100000 in
theorem lJ7_fill {p : Program} {l : Launch} {e : Env} {s : State} {m : MethodId} {args : Array Value} {below : List Frame} {meth : Method} {c : Code} {A : Nat → Prop} {G : gT} {a n : Nat} (hn : n < 2 ^ 31) (S : CallFix p m c cJ7_fill_53178 4 s args wsJ7_fill_53178 RJ7) (hr : meth.sig.returnType = none) (hlocks : meth.locks = false) (hK : gK G s) (v : Int32) (f0 : Nat → Int32) (k : Nat) : ∀ (i : Nat) (H : Heap) (locs : List Loc) (ls : Array Slot), i + k = n → aI s A G a n (fillF f0 0 i v) H locs → lv_has ls 4 [(3, .int (nI n)), (2, .int (nI i)), (0, .ref a), (1, .int v)] → W p l e rJ7_fill s m args below meth c H locs 0 0 (MQ below (aQv G a n (fillF f0 0 n v) A) args s 0 0 A) (F0 m 5 ls []) := by
  have hx := S.1
  have hb := S.2.1
  induction k with
  | zero =>
    intro i H locs ls hi hI hl
    refine lv_iload_n hx hb dJ7_fill_53178_5 rfl (lv_at hl 1 rfl) ?_
    refine lv_iload_n hx hb dJ7_fill_53178_6 rfl (lv_at hl 0 rfl) ?_
    refine lv_icmp_ge (tgt := 20) hx hb dJ7_fill_53178_7 (by decide) (fun c1 => ?_) (fun c1 => ?_)
    · have e1 : i = n := by omega
      subst e1
      exact W.vret hx hb hr (fun t ht hW => ⟨⟨_, rfl, rfl, by rw [ht]; exact hI.1, gK.moved hW.alike hK, hI.2.1⟩, hI.2.2.F ht⟩) hI.2.2.2.2 dJ7_fill_53178_20 hlocks
    · exact absurd (nI_le (by omega) (by omega)) c1
  | succ k ih =>
    intro i H locs ls hi hI hl
    refine lv_iload_n hx hb dJ7_fill_53178_5 rfl (lv_at hl 1 rfl) ?_
    refine lv_iload_n hx hb dJ7_fill_53178_6 rfl (lv_at hl 0 rfl) ?_
    refine lv_icmp_ge (tgt := 20) hx hb dJ7_fill_53178_7 (by decide) (fun c1 => ?_) (fun c1 => ?_)
    · exact absurd c1 (nI_ge (by omega) (by omega))
    · refine lv_aload_n hx hb dJ7_fill_53178_10 rfl (lv_at hl 2 rfl) ?_
      refine lv_iload_n hx hb dJ7_fill_53178_11 rfl (lv_at hl 1 rfl) ?_
      refine lv_iload_n hx hb dJ7_fill_53178_12 rfl (lv_at hl 3 rfl) ?_
      refine va_iast (f := fillF f0 0 i v) hx hb hK hI.1 hI.2.1 hI.2.2 0 0 rfl rfl (vp_in_nI (by omega) (by omega)) dJ7_fill_53178_13 (fun H locs hP hD hS => ?_)
      refine lv_iinc (v := nI (i + 1)) (lv' := [(2, .int (nI (i + 1))), (3, .int (nI n)), (0, .ref a), (1, .int v)]) hx hb dJ7_fill_53178_14 hl (k := 1) rfl (nI_1 i) (by decide) rfl (fun ls hl => ?_)
      refine lv_goto (tgt := 5) hx hb dJ7_fill_53178_17 (by decide) ?_
      have e1 : upd (fillF f0 0 i v) (nI i).toNatClampNeg v = fillF f0 0 (i + 1) v := by rw [nI_clamp (by omega)]; exact fillF_s f0 v (Nat.zero_le i)
      rw [e1] at hP hD
      exact ih (i + 1) H locs ls (by omega) ⟨hP, hD, hS⟩ (lv_sub hl [1, 0, 2, 3] rfl)
set_option maxHeartbeats 4000000 in
set_option maxRecDepth 100000 in
theorem kJ7_fill (l : Launch) (G : gT) (a n sz : Nat) (hn : n < 2 ^ 31) (f : Nat → Int32) (v : Int32) : Met l yJ7_fill_53178 wsJ7_fill_53178 rJ7_fill (aPre G a n f sz [.int v]) (aQv G a n (fillF f 0 n v) (va_A (aw G a n f) sz)) 0 0 (va_A (aw G a n f) sz) := by
  refine Met.ofW (cc := cJ7_fill_53178) (maxL := 4) (ret := none) (by decide +kernel) rfl ?_
  intro p e s m args below meth c s₁ B hml hv
  obtain ⟨rfl, hsz, hP, hK, hD0⟩ := hv
  subst hsz
  have hx := B.exec
  have hb := B.bytes
  have hts := atoms_spec (ws := wsJ7_fill_53178) B.pre
  have hown : s.vm.findClass RJ7 = some m.cls := findClass_of_methodNamed B.named
  have S : CallFix p m c cJ7_fill_53178 4 s ([.ref a, .int v] : List Value).toArray wsJ7_fill_53178 RJ7 := ⟨hx, hb, hml, hown, hts⟩
  have hl := lv_entry ([.ref a, .int v]) (n := 4) (Nat.le_of_ble_eq_true rfl)
  rw [lg_entry_eq]
  generalize (lg_sl ([.ref a, .int v]) ++ List.replicate (4 - (lg_sl ([.ref a, .int v])).length) Slot.unset).toArray = ls at hl ⊢
  have hl : lv_has ls 4 [(0, .ref a), (1, .int v)] := hl
  refine lv_iconst (v := 0) hx hb dJ7_fill_53178_0 (by decide) ?_
  refine lv_istore_n (lv' := [(2, .int 0), (0, .ref a), (1, .int v)]) hx hb dJ7_fill_53178_1 rfl hl (by decide) rfl (fun ls hl => ?_)
  refine lv_aload_n hx hb dJ7_fill_53178_2 rfl (lv_at hl 1 rfl) ?_
  refine va_alen (v := nI n) hx hb hK hP 0 0 rfl rfl rfl dJ7_fill_53178_3 ?_
  refine lv_istore_n (lv' := [(3, .int (nI n)), (2, .int 0), (0, .ref a), (1, .int v)]) hx hb dJ7_fill_53178_4 rfl hl (by decide) rfl (fun ls hl => ?_)
  exact lJ7_fill hn S B.returns B.notSynchronized hK v f n 0 s.heap [] ls (by omega) ⟨by rw [fillF_0]; exact hP, by rw [fillF_0]; exact hD0.self (sz := s.heap.size), va_S.rf⟩ hl
def sQv (sz : Nat) : Array Value → State → Outcome → State → Prop := va_Qv (fun (_ : Unit) => True) (fun _ _ => True) (fun q => sz ≤ q)
abbrev rJ7_rangeCheck : Room := { frames := 0, cells := 0, slots := 0, locals := 0 }
theorem nJ7_rangeCheck : yJ7_rangeCheck_23922.cls ≠ "java/lang/invoke/MethodHandle" ∧ yJ7_rangeCheck_23922.cls ≠ "java/lang/invoke/VarHandle" ∧ (parseMethodDescriptor yJ7_rangeCheck_23922.desc).map (fun d => d.parameters.length) = some 3 := by decide +kernel
set_option maxHeartbeats 4000000 in
set_option maxRecDepth 100000 in
theorem kJ7_rangeCheck (l : Launch) (sz : Nat) (x y z : Int32) (h1 : y ≤ z) (h2 : 0 ≤ y) (h3 : z ≤ x) : Met l yJ7_rangeCheck_23922 wsJ7_rangeCheck_23922 rJ7_rangeCheck (sPre sz [.int x, .int y, .int z]) (sQv sz) 0 0 (fun q => sz ≤ q) := by
  refine sMet (own := RJ7) (Qc := sQv) (by decide +kernel) rfl rfl (Nat.le_of_ble_eq_true rfl) ?_
  intro p e s m args below meth c S hr hlocks H locs hS ls hl
  have hl : lv_has ls 3 [(0, .int x), (1, .int y), (2, .int z)] := hl
  have hx := S.1
  have hb := S.2.1
  refine lv_iload_n hx hb dJ7_rangeCheck_23922_0 rfl (lv_at hl 1 rfl) ?_
  refine lv_iload_n hx hb dJ7_rangeCheck_23922_1 rfl (lv_at hl 2 rfl) ?_
  refine lv_icmp_le (tgt := 46) hx hb dJ7_rangeCheck_23922_2 (by decide) (fun c1 => ?_) (fun c1 => absurd h1 c1)
  refine lv_iload_n hx hb dJ7_rangeCheck_23922_46 rfl (lv_at hl 1 rfl) ?_
  refine lv_if_ge (tgt := 59) hx hb dJ7_rangeCheck_23922_47 (by decide) (fun c2 => ?_) (fun c2 => absurd h2 c2)
  refine lv_iload_n hx hb dJ7_rangeCheck_23922_59 rfl (lv_at hl 2 rfl) ?_
  refine lv_iload_n hx hb dJ7_rangeCheck_23922_60 rfl (lv_at hl 0 rfl) ?_
  refine lv_icmp_le (tgt := 73) hx hb dJ7_rangeCheck_23922_61 (by decide) (fun c3 => ?_) (fun c3 => absurd h3 c3)
  exact W.vret hx hb hr (fun t ht hW => ⟨⟨(), rfl, trivial, trivial⟩, va_S.F hS ht⟩) hS.2.2 dJ7_rangeCheck_23922_73 hlocks
abbrev rJ7_fill4 : Room := { frames := 1, cells := 0, slots := 0, locals := 22 }
theorem nJ7_fill4 : yJ7_fill_fda19.cls ≠ "java/lang/invoke/MethodHandle" ∧ yJ7_fill_fda19.cls ≠ "java/lang/invoke/VarHandle" ∧ (parseMethodDescriptor yJ7_fill_fda19.desc).map (fun d => d.parameters.length) = some 4 := by decide +kernel
set_option maxHeartbeats 4000000 in
set_option maxRecDepth 100000 in
theorem lJ7_fill4 {p : Program} {l : Launch} {e : Env} {s : State} {m : MethodId} {args : Array Value} {below : List Frame} {meth : Method} {c : Code} {A : Nat → Prop} {G : gT} {a n lo hj : Nat} (hn : n < 2 ^ 31) (hh : hj ≤ n) (S : CallFix p m c cJ7_fill_fda19 5 s args wsJ7_fill_fda19 RJ7) (hr : meth.sig.returnType = none) (hlocks : meth.locks = false) (hK : gK G s) (v : Int32) (f0 : Nat → Int32) (k : Nat) : ∀ (i : Nat) (H : Heap) (locs : List Loc) (ls : Array Slot), lo ≤ i → i + k = hj → aI s A G a n (fillF f0 lo i v) H locs → lv_has ls 5 [(4, .int (nI i)), (0, .ref a), (1, .int (nI lo)), (2, .int (nI hj)), (3, .int v)] → W p l e rJ7_fill4 s m args below meth c H locs 0 0 (MQ below (aQv G a n (fillF f0 lo hj v) A) args s 0 0 A) (F0 m 10 ls []) := by
  have hx := S.1
  have hb := S.2.1
  induction k with
  | zero =>
    intro i H locs ls hlo hi hI hl
    refine lv_iload hx hb dJ7_fill_fda19_10 (lv_at hl 0 rfl) ?_
    refine lv_iload_n hx hb dJ7_fill_fda19_12 rfl (lv_at hl 3 rfl) ?_
    refine lv_icmp_ge (tgt := 27) hx hb dJ7_fill_fda19_13 (by decide) (fun c1 => ?_) (fun c1 => ?_)
    · have e1 := (show i = _ from hi)
      subst e1
      exact W.vret hx hb hr (fun t ht hW => ⟨⟨_, rfl, rfl, by rw [ht]; exact hI.1, gK.moved hW.alike hK, hI.2.1⟩, hI.2.2.F ht⟩) hI.2.2.2.2 dJ7_fill_fda19_27 hlocks
    · exact absurd (nI_le (by omega) (by omega)) c1
  | succ k ih =>
    intro i H locs ls hlo hi hI hl
    refine lv_iload hx hb dJ7_fill_fda19_10 (lv_at hl 0 rfl) ?_
    refine lv_iload_n hx hb dJ7_fill_fda19_12 rfl (lv_at hl 3 rfl) ?_
    refine lv_icmp_ge (tgt := 27) hx hb dJ7_fill_fda19_13 (by decide) (fun c1 => ?_) (fun c1 => ?_)
    · exact absurd c1 (nI_ge (by omega) (by omega))
    · refine lv_aload_n hx hb dJ7_fill_fda19_16 rfl (lv_at hl 1 rfl) ?_
      refine lv_iload hx hb dJ7_fill_fda19_17 (lv_at hl 0 rfl) ?_
      refine lv_iload_n hx hb dJ7_fill_fda19_19 rfl (lv_at hl 4 rfl) ?_
      refine va_iast (f := fillF f0 lo i v) hx hb hK hI.1 hI.2.1 hI.2.2 0 0 rfl rfl (vp_in_nI (by omega) (by omega)) dJ7_fill_fda19_20 (fun H locs hP hD hS => ?_)
      refine lv_iinc (v := nI (i + 1)) (lv' := [(4, .int (nI (i + 1))), (0, .ref a), (1, .int (nI lo)), (2, .int (nI hj)), (3, .int v)]) hx hb dJ7_fill_fda19_21 hl (k := 0) rfl (nI_1 i) (by decide) rfl (fun ls hl => ?_)
      refine lv_goto (tgt := 10) hx hb dJ7_fill_fda19_24 (by decide) ?_
      have e1 : upd (fillF f0 lo i v) (nI i).toNatClampNeg v = fillF f0 lo (i + 1) v := by rw [nI_clamp (by omega)]; exact fillF_s f0 v hlo
      rw [e1] at hP hD
      exact ih (i + 1) H locs ls (by omega) (by omega) ⟨hP, hD, hS⟩ hl
set_option maxHeartbeats 4000000 in
set_option maxRecDepth 100000 in
theorem kJ7_fill4 (l : Launch) (G : gT) (a n sz lo hi : Nat) (hn : n < 2 ^ 31) (h1 : lo ≤ hi) (h2 : hi ≤ n) (f : Nat → Int32) (v : Int32) : Met l yJ7_fill_fda19 wsJ7_fill_fda19 rJ7_fill4 (aPre G a n f sz [.int (nI lo), .int (nI hi), .int v]) (aQv G a n (fillF f lo hi v) (va_A (aw G a n f) sz)) 0 0 (va_A (aw G a n f) sz) := by
  refine Met.ofW (cc := cJ7_fill_fda19) (maxL := 5) (ret := none) (by decide +kernel) rfl ?_
  intro p e s m args below meth c s₁ B hml hv
  obtain ⟨rfl, hsz, hP, hK, hD0⟩ := hv
  subst hsz
  have hx := B.exec
  have hb := B.bytes
  have hts := atoms_spec (ws := wsJ7_fill_fda19) B.pre
  have hown : s.vm.findClass RJ7 = some m.cls := findClass_of_methodNamed B.named
  have S : CallFix p m c cJ7_fill_fda19 5 s ([.ref a, .int (nI lo), .int (nI hi), .int v] : List Value).toArray wsJ7_fill_fda19 RJ7 := ⟨hx, hb, hml, hown, hts⟩
  have hl := lv_entry ([.ref a, .int (nI lo), .int (nI hi), .int v]) (n := 5) (Nat.le_of_ble_eq_true rfl)
  rw [lg_entry_eq]
  generalize (lg_sl ([.ref a, .int (nI lo), .int (nI hi), .int v]) ++ List.replicate (5 - (lg_sl ([.ref a, .int (nI lo), .int (nI hi), .int v])).length) Slot.unset).toArray = ls at hl ⊢
  have hl : lv_has ls 5 [(0, .ref a), (1, .int (nI lo)), (2, .int (nI hi)), (3, .int v)] := hl
  refine lv_aload_n hx hb dJ7_fill_fda19_0 rfl (lv_at hl 0 rfl) ?_
  refine va_alen (v := nI n) hx hb hK hP 0 0 rfl rfl rfl dJ7_fill_fda19_1 ?_
  refine lv_iload_n hx hb dJ7_fill_fda19_2 rfl (lv_at hl 1 rfl) ?_
  refine lv_iload_n hx hb dJ7_fill_fda19_3 rfl (lv_at hl 2 rfl) ?_
  refine va_callv (va_runS (As := [.int (nI n), .int (nI lo), .int (nI hi)]) (rest := []) S (kJ7_rangeCheck l s.heap.size (nI n) (nI lo) (nI hi) (nI_le h1 (by omega)) (nI_pos' (by omega)) (nI_le h2 hn)) (va_cwS 3 hts gJ7_fill_fda19_J7_rangeCheck_23922 rfl rfl rfl nJ7_rangeCheck ⟨Nat.le_of_ble_eq_true rfl, Nat.le_of_ble_eq_true rfl⟩) ⟨sPre_blind, fun U hU _ => ⟨rfl, congrArg (fun X : Heap => Array.size X) hU⟩⟩ rfl rfl hl.1 rfl (lv_room (Nat.le_of_ble_eq_true rfl)) dJ7_fill_fda19_4 ⟨Nat.le_refl _, Nat.le_refl _⟩) (va_S.rf (A := va_A (aw G a n f) s.heap.size)) (fun q hq h => absurd h (Nat.not_le.mpr hq)) (fun q h => Or.inr h) (fun u t H1 locs1 ht hvm hw hB hz1 hk1 hS => ?_)
  have hP1 : va_P G.1 vwCl (aw G a n f) H1 := hP.kept (fun k q hq => hk1 q.1 (hP k q hq).lt (Nat.not_le.mpr (hP k q hq).lt))
  refine lv_iload_n hx hb dJ7_fill_fda19_7 rfl (lv_at hl 1 rfl) ?_
  refine lv_istore (lv' := [(4, .int (nI lo)), (0, .ref a), (1, .int (nI lo)), (2, .int (nI hi)), (3, .int v)]) hx hb dJ7_fill_fda19_8 hl (by decide) rfl (fun ls hl => ?_)
  exact lJ7_fill4 hn h2 S B.returns B.notSynchronized hK v f (hi - lo) lo H1 locs1 ls (Nat.le_refl _) (by omega) ⟨by rw [fillF_0]; exact hP1, by rw [fillF_0]; exact hD0.self (sz := s.heap.size), hS⟩ hl
end
section
/-- an array class of ints is the one of that name -/
theorem gK_int {G : gT} {s : State} {cA : ClassId} {D : va_G} {cl : List vw_C} {tys : List (ClassId × FieldType)} (hK : gK G s) (h : va_K D cl (tys ++ [(cA, .int)]) s) : cA = G.2.1 := by
  have h1 := (h.2 tys.length (cA, .int) (by simp)).2
  have h2 := (hK.2 0 (G.2.1, .int) rfl).2
  exact Option.some.inj (h1.symm.trans h2)
def grown (f : Nat → Int32) (n : Nat) : Nat → Int32 := fun k => if k < n then f k else 0
def aQr (G : gT) (a n N : Nat) (f : Nat → Int32) (A : Nat → Prop) : Array Value → State → Outcome → State → Prop := va_Qr (fun (u : Nat → Int32) => u = grown f n) (fun u q t => va_P G.1 vwCl [(a, .inl (G.2.1, n, .inl f)), (q, .inl (G.2.1, N, .inl u))] t.heap ∧ gK G t ∧ va_D A [(a, .inl (G.2.1, n, .inl f)), (q, .inl (G.2.1, N, .inl u))]) A
abbrev rJ7_copyOf (N : Nat) : Room := { frames := 1, cells := 1, slots := N, locals := 40 }
theorem nJ7_copyOf : yJ7_copyOf_59c91.cls ≠ "java/lang/invoke/MethodHandle" ∧ yJ7_copyOf_59c91.cls ≠ "java/lang/invoke/VarHandle" ∧ (parseMethodDescriptor yJ7_copyOf_59c91.desc).map (fun d => d.parameters.length) = some 2 := by decide +kernel
set_option maxHeartbeats 400000 in
set_option maxRecDepth 100000 in
theorem kJ7_copyOf (l : Launch) (G : gT) (a n sz N : Nat) (h1 : n < N) (h2 : N ≤ 1048576) (f : Nat → Int32) : Met l yJ7_copyOf_59c91 wsJ7_copyOf_59c91 (rJ7_copyOf N) (aPre G a n f sz [.int (nI N)]) (aQr G a n N f (va_A (aw G a n f) sz)) 1 N (va_A (aw G a n f) sz) := by
  refine Met.ofW (cc := cJ7_copyOf_59c91) (maxL := 3) (ret := some (.array .int)) (by decide +kernel) rfl ?_
  intro p e s m args below meth c s₁ B hml hv
  obtain ⟨rfl, hsz, hP, hK, hD0⟩ := hv
  subst hsz
  have hx := B.exec
  have hb := B.bytes
  have hts := atoms_spec (ws := wsJ7_copyOf_59c91) B.pre
  have hown : s.vm.findClass RJ7 = some m.cls := findClass_of_methodNamed B.named
  have hD := hD0.self (sz := s.heap.size)
  generalize hAe : va_A (aw G a n f) s.heap.size = A at hD ⊢
  have hA : ∀ q : Nat, s.heap.size ≤ q → A q := fun q h => by rw [← hAe]; exact Or.inr h
  have hS : va_S A s.heap s.heap [] := va_S.rf
  have hl := lv_entry ([.ref a, .int (nI N)]) (n := 3) (Nat.le_of_ble_eq_true rfl)
  rw [lg_entry_eq]
  generalize (lg_sl ([.ref a, .int (nI N)]) ++ List.replicate (3 - (lg_sl ([.ref a, .int (nI N)])).length) Slot.unset).toArray = ls at hl ⊢
  have hl : lv_has ls 3 [(0, .ref a), (1, .int (nI N))] := hl
  refine lv_iload_n hx hb dJ7_copyOf_59c91_0 rfl (lv_at hl 1 rfl) ?_
  refine lv_aload_n hx hb dJ7_copyOf_59c91_1 rfl (lv_at hl 0 rfl) ?_
  refine va_alen (v := nI n) hx hb hK hP 0 0 rfl rfl rfl dJ7_copyOf_59c91_2 ?_
  refine lv_icmp_ne (tgt := 14) hx hb dJ7_copyOf_59c91_3 (by decide) (fun c1 => ?_) (fun c1 => absurd ((nI_eq (by omega) (by omega)).mp c1) (by omega))
  refine lv_iload_n hx hb dJ7_copyOf_59c91_14 rfl (lv_at hl 1 rfl) ?_
  refine va_newa (atype := .int) (ty := .int) (N' := N) (a0 := (N, .inl (fun _ => 0))) hx hb (hts (.arrayClass .int) (by decide +kernel)) rfl hK hP hD hS hA (fun _ => rfl) (nI_pos (by omega)) (nI_clamp (by omega)) (by show N * 4 ≤ _; omega) (by show 0 + 1 ≤ 1; omega) (by show 0 + N ≤ N; omega) dJ7_copyOf_59c91_15 (fun q cA H hK2 hP hD hS => ?_)
  have ec := gK_int hK hK2
  subst ec
  have hP : va_P G.1 vwCl [(a, .inl (G.2.1, n, .inl f)), (q, .inl (G.2.1, N, .inl (fun _ => 0)))] H := hP
  have hD : va_D A [(a, .inl (G.2.1, n, .inl f)), (q, .inl (G.2.1, N, .inl (fun _ => 0)))] := hD
  refine lv_astore_n (lv' := [(2, .ref q), (0, .ref a), (1, .int (nI N))]) hx hb dJ7_copyOf_59c91_17 rfl hl (by decide) rfl (fun ls hl => ?_)
  refine lv_aload_n hx hb dJ7_copyOf_59c91_18 rfl (lv_at hl 1 rfl) ?_
  refine lv_iconst (v := 0) hx hb dJ7_copyOf_59c91_19 (by decide) ?_
  refine lv_aload_n hx hb dJ7_copyOf_59c91_20 rfl (lv_at hl 0 rfl) ?_
  refine lv_iconst (v := 0) hx hb dJ7_copyOf_59c91_21 (by decide) ?_
  refine lv_aload_n hx hb dJ7_copyOf_59c91_22 rfl (lv_at hl 1 rfl) ?_
  refine va_alen (v := nI n) hx hb hK hP 0 0 rfl rfl rfl dJ7_copyOf_59c91_23 ?_
  refine lv_iload_n hx hb dJ7_copyOf_59c91_24 rfl (lv_at hl 2 rfl) ?_
  refine va_mmin hx hb (by rw [hml]; exact hl.1.symm) hown (hts (.methodLink RJ7 304 Lib.Math.min.name) (by decide +kernel)) (hts (.static Lib.Math.min.name) (by decide +kernel)) (hts (.initialized "java/lang/Math") (by decide +kernel)) (hts (.code Lib.Math.min.name Lib.Math.min.code 2 (some .int)) (by decide +kernel)) (Nat.le_of_ble_eq_true rfl) (Nat.le_of_ble_eq_true rfl) (by show 0 + 1 ≤ 1; omega) (by show 0 + N ≤ N; omega) dJ7_copyOf_59c91_25 ?_
  refine wn_i (y := nI n) (by rw [if_neg (nI_nlt (by omega) (by omega))]) ?_
  refine va_copyi (ty := .int) (f := f) (g := fun _ => 0) hx hb (by rw [hml]; exact hl.1.symm) hown (hts (.methodLink RJ7 150 arraycopyName) (by decide +kernel)) (hts (.native arraycopyName) (by decide +kernel)) (hts (.static arraycopyName) (by decide +kernel)) (hts (.initialized "java/lang/System") (by decide +kernel)) hK hP hD hS 0 1 0 0 rfl rfl rfl rfl rfl (by decide) (by decide) (nI_pos (by omega)) (by rw [sb_cl0, nI_clamp (by omega)]; omega) (by rw [sb_cl0, nI_clamp (by omega)]; omega) (fun _ _ => rfl) (Nat.le_of_ble_eq_true rfl) (Nat.le_of_ble_eq_true rfl) dJ7_copyOf_59c91_28 (fun H locs hP hD hS => ?_)
  have e1 : va_cpy f (fun _ => 0) (0 : Int32).toNatClampNeg (0 : Int32).toNatClampNeg (nI n).toNatClampNeg = grown f n := by
    rw [sb_cl0, nI_clamp (by omega)]
    funext k
    unfold va_cpy grown
    by_cases hk : k < n
    · rw [if_pos (by omega), if_pos hk]; congr 1; omega
    · rw [if_neg (by omega), if_neg hk]
  rw [e1] at hP hD
  have hP : va_P G.1 vwCl [(a, .inl (G.2.1, n, .inl f)), (q, .inl (G.2.1, N, .inl (grown f n)))] H := hP
  have hD : va_D A [(a, .inl (G.2.1, n, .inl f)), (q, .inl (G.2.1, N, .inl (grown f n)))] := hD
  refine lv_aload_n hx hb dJ7_copyOf_59c91_31 rfl (lv_at hl 0 rfl) ?_
  refine W.widen (k := 1) (n := N) (by omega) (by omega) ?_
  exact W.aret hx hb B.returns (Or.inr ⟨_, rfl⟩) (Or.inr ⟨_, rfl⟩) (fun t ht hW => ⟨⟨_, q, rfl, rfl, by rw [ht]; exact hP, gK.moved hW.alike hK, hD⟩, hS.F ht⟩) hS.2.2 dJ7_copyOf_59c91_32 B.notSynchronized
end
section
theorem zz_last : True := trivial
end
